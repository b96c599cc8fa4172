section
-- ===== PART A: goes FIRST, ahead of the names: the tables' words, and 'selects' of the private methods out of them =====
/-- a private method of a class that the tables say can be made, by its rows of tables_1 -/
def lw_okq (q : MethodName × Nat) : Prop := (q.1.cls ≠ "java/lang/invoke/MethodHandle" ∧ q.1.cls ≠ "java/lang/invoke/VarHandle") ∧ Cond.instantiable q.1.cls q.2 ∈ tables_1 ∧ Cond.privateMethod q.1 ∈ tables_1 ∧ Cond.instanceMethod q.1 ∈ tables_1
theorem lw_p0 : lw_okq (⟨"MilkBox", "cowAt", "(I)LMilkBox$Cow;"⟩, 14) := ⟨⟨by decide +kernel, by decide +kernel⟩, List.mem_of_getElem? (i := 10) (by decide +kernel), List.mem_of_getElem? (i := 203) (by decide +kernel), List.mem_of_getElem? (i := 204) (by decide +kernel)⟩
theorem lw_p1 : lw_okq (⟨"MilkBox", "finishMilking", "(I)V"⟩, 14) := ⟨⟨by decide +kernel, by decide +kernel⟩, List.mem_of_getElem? (i := 10) (by decide +kernel), List.mem_of_getElem? (i := 255) (by decide +kernel), List.mem_of_getElem? (i := 256) (by decide +kernel)⟩
theorem lw_p2 : lw_okq (⟨"MilkBox", "fillBox", "()V"⟩, 14) := ⟨⟨by decide +kernel, by decide +kernel⟩, List.mem_of_getElem? (i := 10) (by decide +kernel), List.mem_of_getElem? (i := 280) (by decide +kernel), List.mem_of_getElem? (i := 281) (by decide +kernel)⟩
theorem lw_p3 : lw_okq (⟨"MilkBox$Line", "choose", "(I)I"⟩, 2) := ⟨⟨by decide +kernel, by decide +kernel⟩, List.mem_of_getElem? (i := 22) (by decide +kernel), List.mem_of_getElem? (i := 288) (by decide +kernel), List.mem_of_getElem? (i := 289) (by decide +kernel)⟩
theorem lw_p4 : lw_okq (⟨"MilkBox$Line", "closeUp", "(I)V"⟩, 2) := ⟨⟨by decide +kernel, by decide +kernel⟩, List.mem_of_getElem? (i := 22) (by decide +kernel), List.mem_of_getElem? (i := 292) (by decide +kernel), List.mem_of_getElem? (i := 293) (by decide +kernel)⟩
theorem lw_p5 : lw_okq (⟨"MilkBox$Arm", "milkOfTeat", "(I)I"⟩, 5) := ⟨⟨by decide +kernel, by decide +kernel⟩, List.mem_of_getElem? (i := 37) (by decide +kernel), List.mem_of_getElem? (i := 303) (by decide +kernel), List.mem_of_getElem? (i := 304) (by decide +kernel)⟩
theorem lw_p6 : lw_okq (⟨"MilkBox", "visitAt", "(I)LMilkBox$Visit;"⟩, 14) := ⟨⟨by decide +kernel, by decide +kernel⟩, List.mem_of_getElem? (i := 10) (by decide +kernel), List.mem_of_getElem? (i := 425) (by decide +kernel), List.mem_of_getElem? (i := 426) (by decide +kernel)⟩
theorem lw_p7 : lw_okq (⟨"MilkBox", "countAhead", "(I)I"⟩, 14) := ⟨⟨by decide +kernel, by decide +kernel⟩, List.mem_of_getElem? (i := 10) (by decide +kernel), List.mem_of_getElem? (i := 458) (by decide +kernel), List.mem_of_getElem? (i := 459) (by decide +kernel)⟩
theorem lw_p8 : lw_okq (⟨"MilkBoxModel", "noCow", "(I)Z"⟩, 43) := ⟨⟨by decide +kernel, by decide +kernel⟩, List.mem_of_getElem? (i := 471) (by decide +kernel), List.mem_of_getElem? (i := 623) (by decide +kernel), List.mem_of_getElem? (i := 624) (by decide +kernel)⟩
theorem lw_p9 : lw_okq (⟨"MilkBoxModel", "has", "(I)I"⟩, 43) := ⟨⟨by decide +kernel, by decide +kernel⟩, List.mem_of_getElem? (i := 471) (by decide +kernel), List.mem_of_getElem? (i := 642) (by decide +kernel), List.mem_of_getElem? (i := 643) (by decide +kernel)⟩
theorem lw_p10 : lw_okq (⟨"MilkBoxModel", "hasRight", "(I)Z"⟩, 43) := ⟨⟨by decide +kernel, by decide +kernel⟩, List.mem_of_getElem? (i := 471) (by decide +kernel), List.mem_of_getElem? (i := 646) (by decide +kernel), List.mem_of_getElem? (i := 647) (by decide +kernel)⟩
theorem lw_p11 : lw_okq (⟨"MilkBoxModel", "fedToday", "(I)I"⟩, 43) := ⟨⟨by decide +kernel, by decide +kernel⟩, List.mem_of_getElem? (i := 471) (by decide +kernel), List.mem_of_getElem? (i := 650) (by decide +kernel), List.mem_of_getElem? (i := 651) (by decide +kernel)⟩
theorem lw_p12 : lw_okq (⟨"MilkBoxModel", "placeOf", "(I)I"⟩, 43) := ⟨⟨by decide +kernel, by decide +kernel⟩, List.mem_of_getElem? (i := 471) (by decide +kernel), List.mem_of_getElem? (i := 654) (by decide +kernel), List.mem_of_getElem? (i := 655) (by decide +kernel)⟩
theorem lw_p13 : lw_okq (⟨"MilkBoxModel", "finish", "(I)V"⟩, 43) := ⟨⟨by decide +kernel, by decide +kernel⟩, List.mem_of_getElem? (i := 471) (by decide +kernel), List.mem_of_getElem? (i := 664) (by decide +kernel), List.mem_of_getElem? (i := 665) (by decide +kernel)⟩
theorem lw_p14 : lw_okq (⟨"MilkBoxModel", "enter", "()V"⟩, 43) := ⟨⟨by decide +kernel, by decide +kernel⟩, List.mem_of_getElem? (i := 471) (by decide +kernel), List.mem_of_getElem? (i := 668) (by decide +kernel), List.mem_of_getElem? (i := 669) (by decide +kernel)⟩
theorem lw_p15 : lw_okq (⟨"MilkBoxModel", "begin", "(I)V"⟩, 43) := ⟨⟨by decide +kernel, by decide +kernel⟩, List.mem_of_getElem? (i := 471) (by decide +kernel), List.mem_of_getElem? (i := 672) (by decide +kernel), List.mem_of_getElem? (i := 673) (by decide +kernel)⟩
def lw_privs_1 : List (MethodName × Nat) := [(⟨"MilkBox", "cowAt", "(I)LMilkBox$Cow;"⟩, 14), (⟨"MilkBox", "finishMilking", "(I)V"⟩, 14), (⟨"MilkBox", "fillBox", "()V"⟩, 14), (⟨"MilkBox$Line", "choose", "(I)I"⟩, 2), (⟨"MilkBox$Line", "closeUp", "(I)V"⟩, 2), (⟨"MilkBox$Arm", "milkOfTeat", "(I)I"⟩, 5), (⟨"MilkBox", "visitAt", "(I)LMilkBox$Visit;"⟩, 14), (⟨"MilkBox", "countAhead", "(I)I"⟩, 14), (⟨"MilkBoxModel", "noCow", "(I)Z"⟩, 43), (⟨"MilkBoxModel", "has", "(I)I"⟩, 43), (⟨"MilkBoxModel", "hasRight", "(I)Z"⟩, 43), (⟨"MilkBoxModel", "fedToday", "(I)I"⟩, 43), (⟨"MilkBoxModel", "placeOf", "(I)I"⟩, 43), (⟨"MilkBoxModel", "finish", "(I)V"⟩, 43), (⟨"MilkBoxModel", "enter", "()V"⟩, 43), (⟨"MilkBoxModel", "begin", "(I)V"⟩, 43)]
theorem lw_r1 : ∀ q ∈ lw_privs_1, lw_okq q := List.forall_mem_cons.mpr ⟨lw_p0, List.forall_mem_cons.mpr ⟨lw_p1, List.forall_mem_cons.mpr ⟨lw_p2, List.forall_mem_cons.mpr ⟨lw_p3, List.forall_mem_cons.mpr ⟨lw_p4, List.forall_mem_cons.mpr ⟨lw_p5, List.forall_mem_cons.mpr ⟨lw_p6, List.forall_mem_cons.mpr ⟨lw_p7, List.forall_mem_cons.mpr ⟨lw_p8, List.forall_mem_cons.mpr ⟨lw_p9, List.forall_mem_cons.mpr ⟨lw_p10, List.forall_mem_cons.mpr ⟨lw_p11, List.forall_mem_cons.mpr ⟨lw_p12, List.forall_mem_cons.mpr ⟨lw_p13, List.forall_mem_cons.mpr ⟨lw_p14, List.forall_mem_cons.mpr ⟨lw_p15, fun _ h => absurd h List.not_mem_nil⟩⟩⟩⟩⟩⟩⟩⟩⟩⟩⟩⟩⟩⟩⟩⟩
theorem lw_p16 : lw_okq (⟨"MilkBoxModel", "cowInBox", "()I"⟩, 43) := ⟨⟨by decide +kernel, by decide +kernel⟩, List.mem_of_getElem? (i := 471) (by decide +kernel), List.mem_of_getElem? (i := 681) (by decide +kernel), List.mem_of_getElem? (i := 682) (by decide +kernel)⟩
theorem lw_p17 : lw_okq (⟨"MilkBoxModel", "isAlarm", "(II)Z"⟩, 43) := ⟨⟨by decide +kernel, by decide +kernel⟩, List.mem_of_getElem? (i := 471) (by decide +kernel), List.mem_of_getElem? (i := 685) (by decide +kernel), List.mem_of_getElem? (i := 686) (by decide +kernel)⟩
def lw_privs_2 : List (MethodName × Nat) := [(⟨"MilkBoxModel", "cowInBox", "()I"⟩, 43), (⟨"MilkBoxModel", "isAlarm", "(II)Z"⟩, 43)]
theorem lw_r2 : ∀ q ∈ lw_privs_2, lw_okq q := List.forall_mem_cons.mpr ⟨lw_p16, List.forall_mem_cons.mpr ⟨lw_p17, fun _ h => absurd h List.not_mem_nil⟩⟩
def lw_privs : List (MethodName × Nat) := lw_privs_1 ++ (lw_privs_2)
def lw_tbl : List Cond := k2_sels lw_privs ++ tables_1
theorem lw_privs_ok : ∀ q ∈ lw_privs, lw_okq q := by
  show ∀ q ∈ lw_privs_1 ++ (lw_privs_2), lw_okq q
  exact List.forall_mem_append.mpr ⟨lw_r1, lw_r2⟩
def RX0 : String := "MilkBox$Arm"
def TX0 : u_T := fun k => match k with
  | 0 => ("MilkBox$Arm", "current", "LMilkBox$Visit;", false)
  | 1 => ("MilkBox$Arm", "milkThere", "I", false)
  | 2 => ("MilkBox$Arm", "milkDue", "I", false)
  | 3 => ("MilkBox$Arm", "flowsFrom", "I", false)
  | _ => ("MilkBox$Arm", "endsAt", "I", false)
def tyX0 : Nat → FieldType := fun k => match k with
  | 0 => .object "MilkBox$Visit"
  | 1 => .int
  | 2 => .int
  | 3 => .int
  | _ => .int
theorem nmX0 : ∀ a, a < 5 → ∀ b, b < 5 → a ≠ b → (TX0 a).2.1 ≠ (TX0 b).2.1 := by decide +kernel
theorem tyX0_ok : ∀ k, k < 5 → parseFieldDescriptor (TX0 k).2.2.1 = some (tyX0 k) := by decide +kernel
abbrev cX0_init : ByteArray := prog_2_method_1_code
def yX0_init : MethodName := ⟨RX0, "<init>", "()V"⟩
abbrev cX0_isBusy : ByteArray := prog_2_method_2_code
def yX0_isBusy : MethodName := ⟨RX0, "isBusy", "()Z"⟩
abbrev cX0_holds : ByteArray := prog_2_method_3_code
def yX0_holds : MethodName := ⟨RX0, "holds", "(I)Z"⟩
abbrev cX0_begin : ByteArray := prog_2_method_4_code
def yX0_begin : MethodName := ⟨RX0, "begin", "(LMilkBox$Visit;LMilkBox$Cow;I)V"⟩
abbrev cX0_milkedBy : ByteArray := prog_2_method_5_code
def yX0_milkedBy : MethodName := ⟨RX0, "milkedBy", "(I)I"⟩
abbrev cX0_milkOfTeat : ByteArray := prog_2_method_6_code
def yX0_milkOfTeat : MethodName := ⟨RX0, "milkOfTeat", "(I)I"⟩
def RX1 : String := "MilkBox$Cow"
def TX1 : u_T := fun k => match k with
  | 0 => ("MilkBox$Cow", "kind", "I", true)
  | 1 => ("MilkBox$Cow", "rate", "I", true)
  | 2 => ("MilkBox$Cow", "pause", "I", true)
  | 3 => ("MilkBox$Cow", "feedADay", "I", true)
  | 4 => ("MilkBox$Cow", "troubles", "[I", true)
  | 5 => ("MilkBox$Cow", "latest", "[I", true)
  | 6 => ("MilkBox$Cow", "readings", "I", false)
  | 7 => ("MilkBox$Cow", "withheldTo", "I", false)
  | 8 => ("MilkBox$Cow", "growsFrom", "I", false)
  | 9 => ("MilkBox$Cow", "left", "I", false)
  | 10 => ("MilkBox$Cow", "latestBegan", "I", false)
  | 11 => ("MilkBox$Cow", "milkedInAll", "I", false)
  | 12 => ("MilkBox$Cow", "fed", "I", false)
  | _ => ("MilkBox$Cow", "fedDay", "I", false)
def tyX1 : Nat → FieldType := fun k => match k with
  | 0 => .int
  | 1 => .int
  | 2 => .int
  | 3 => .int
  | 4 => .array .int
  | 5 => .array .int
  | 6 => .int
  | 7 => .int
  | 8 => .int
  | 9 => .int
  | 10 => .int
  | 11 => .int
  | 12 => .int
  | _ => .int
theorem nmX1 : ∀ a, a < 14 → ∀ b, b < 14 → a ≠ b → (TX1 a).2.1 ≠ (TX1 b).2.1 := by decide +kernel
theorem tyX1_ok : ∀ k, k < 14 → parseFieldDescriptor (TX1 k).2.2.1 = some (tyX1 k) := by decide +kernel
abbrev cX1_init : ByteArray := prog_3_method_1_code
def yX1_init : MethodName := ⟨RX1, "<init>", "(IIIII)V"⟩
abbrev cX1_milkAt : ByteArray := prog_3_method_2_code
def yX1_milkAt : MethodName := ⟨RX1, "milkAt", "(I)I"⟩
abbrev cX1_minutesTo : ByteArray := prog_3_method_3_code
def yX1_minutesTo : MethodName := ⟨RX1, "minutesTo", "(II)I"⟩
abbrev cX1_hasRightAt : ByteArray := prog_3_method_4_code
def yX1_hasRightAt : MethodName := ⟨RX1, "hasRightAt", "(I)Z"⟩
abbrev cX1_isWithheldAt : ByteArray := prog_3_method_5_code
def yX1_isWithheldAt : MethodName := ⟨RX1, "isWithheldAt", "(I)Z"⟩
abbrev cX1_fedOn : ByteArray := prog_3_method_6_code
def yX1_fedOn : MethodName := ⟨RX1, "fedOn", "(I)I"⟩
abbrev cX1_feedFor : ByteArray := prog_3_method_7_code
def yX1_feedFor : MethodName := ⟨RX1, "feedFor", "(II)I"⟩
abbrev cX1_isAlarming : ByteArray := prog_3_method_8_code
def yX1_isAlarming : MethodName := ⟨RX1, "isAlarming", "(I)Z"⟩
abbrev cX1_keepReading : ByteArray := prog_3_method_9_code
def yX1_keepReading : MethodName := ⟨RX1, "keepReading", "(I)V"⟩
abbrev cX1_beginMilking : ByteArray := prog_3_method_10_code
def yX1_beginMilking : MethodName := ⟨RX1, "beginMilking", "(I)V"⟩
def RX2 : String := "MilkBox$Line"
def TX2 : u_T := fun k => match k with
  | 0 => ("MilkBox$Line", "places", "[LMilkBox$Visit;", true)
  | _ => ("MilkBox$Line", "size", "I", false)
def tyX2 : Nat → FieldType := fun k => match k with
  | 0 => .array (.object "MilkBox$Visit")
  | _ => .int
theorem nmX2 : ∀ a, a < 2 → ∀ b, b < 2 → a ≠ b → (TX2 a).2.1 ≠ (TX2 b).2.1 := by decide +kernel
theorem tyX2_ok : ∀ k, k < 2 → parseFieldDescriptor (TX2 k).2.2.1 = some (tyX2 k) := by decide +kernel
abbrev cX2_init : ByteArray := prog_4_method_1_code
def yX2_init : MethodName := ⟨RX2, "<init>", "()V"⟩
abbrev cX2_at : ByteArray := prog_4_method_2_code
def yX2_at : MethodName := ⟨RX2, "at", "(I)LMilkBox$Visit;"⟩
abbrev cX2_placeOf : ByteArray := prog_4_method_3_code
def yX2_placeOf : MethodName := ⟨RX2, "placeOf", "(I)I"⟩
abbrev cX2_addLast : ByteArray := prog_4_method_4_code
def yX2_addLast : MethodName := ⟨RX2, "addLast", "(LMilkBox$Visit;)V"⟩
abbrev cX2_takeNext : ByteArray := prog_4_method_5_code
def yX2_takeNext : MethodName := ⟨RX2, "takeNext", "(I)LMilkBox$Visit;"⟩
abbrev cX2_choose : ByteArray := prog_4_method_6_code
def yX2_choose : MethodName := ⟨RX2, "choose", "(I)I"⟩
abbrev cX2_closeUp : ByteArray := prog_4_method_7_code
def yX2_closeUp : MethodName := ⟨RX2, "closeUp", "(I)V"⟩
def RX3 : String := "MilkBox$Store"
def TX3 : u_T := fun k => match k with
  | 0 => ("MilkBox$Store", "tankRoom", "I", false)
  | 1 => ("MilkBox$Store", "tank", "I", false)
  | 2 => ("MilkBox$Store", "can", "I", false)
  | 3 => ("MilkBox$Store", "poured", "I", false)
  | _ => ("MilkBox$Store", "takenAway", "I", false)
def tyX3 : Nat → FieldType := fun k => match k with
  | 0 => .int
  | 1 => .int
  | 2 => .int
  | 3 => .int
  | _ => .int
theorem nmX3 : ∀ a, a < 5 → ∀ b, b < 5 → a ≠ b → (TX3 a).2.1 ≠ (TX3 b).2.1 := by decide +kernel
theorem tyX3_ok : ∀ k, k < 5 → parseFieldDescriptor (TX3 k).2.2.1 = some (tyX3 k) := by decide +kernel
abbrev cX3_init : ByteArray := prog_5_method_1_code
def yX3_init : MethodName := ⟨RX3, "<init>", "()V"⟩
abbrev cX3_put : ByteArray := prog_5_method_2_code
def yX3_put : MethodName := ⟨RX3, "put", "(IZ)I"⟩
abbrev cX3_takeAway : ByteArray := prog_5_method_3_code
def yX3_takeAway : MethodName := ⟨RX3, "takeAway", "(I)I"⟩
def RX4 : String := "MilkBox$Visit"
def TX4 : u_T := fun k => match k with
  | 0 => ("MilkBox$Visit", "cow", "I", true)
  | 1 => ("MilkBox$Visit", "shy", "Z", true)
  | 2 => ("MilkBox$Visit", "minute", "I", true)
  | 3 => ("MilkBox$Visit", "reading", "I", true)
  | 4 => ("MilkBox$Visit", "alarm", "Z", true)
  | 5 => ("MilkBox$Visit", "kind", "I", false)
  | 6 => ("MilkBox$Visit", "began", "I", false)
  | 7 => ("MilkBox$Visit", "ended", "I", false)
  | 8 => ("MilkBox$Visit", "milked", "I", false)
  | 9 => ("MilkBox$Visit", "went", "I", false)
  | 10 => ("MilkBox$Visit", "lost", "I", false)
  | _ => ("MilkBox$Visit", "feed", "I", false)
def tyX4 : Nat → FieldType := fun k => match k with
  | 0 => .int
  | 1 => .boolean
  | 2 => .int
  | 3 => .int
  | 4 => .boolean
  | 5 => .int
  | 6 => .int
  | 7 => .int
  | 8 => .int
  | 9 => .int
  | 10 => .int
  | _ => .int
theorem nmX4 : ∀ a, a < 12 → ∀ b, b < 12 → a ≠ b → (TX4 a).2.1 ≠ (TX4 b).2.1 := by decide +kernel
theorem tyX4_ok : ∀ k, k < 12 → parseFieldDescriptor (TX4 k).2.2.1 = some (tyX4 k) := by decide +kernel
abbrev cX4_init : ByteArray := prog_6_method_1_code
def yX4_init : MethodName := ⟨RX4, "<init>", "(IZIIZ)V"⟩
abbrev cX4_isOfKind : ByteArray := prog_6_method_2_code
def yX4_isOfKind : MethodName := ⟨RX4, "isOfKind", "(I)Z"⟩
abbrev cX4_endedOn : ByteArray := prog_6_method_3_code
def yX4_endedOn : MethodName := ⟨RX4, "endedOn", "(I)Z"⟩
abbrev cX4_tell : ByteArray := prog_6_method_4_code
def yX4_tell : MethodName := ⟨RX4, "tell", "(I)I"⟩
def RX5 : String := "MilkBox"
def TX5 : u_T := fun k => match k with
  | 0 => ("MilkBox", "cows", "[LMilkBox$Cow;", true)
  | 1 => ("MilkBox", "visits", "[LMilkBox$Visit;", true)
  | 2 => ("MilkBox", "line", "LMilkBox$Line;", true)
  | 3 => ("MilkBox", "arm", "LMilkBox$Arm;", true)
  | 4 => ("MilkBox", "store", "LMilkBox$Store;", true)
  | 5 => ("MilkBox", "cowCount", "I", false)
  | 6 => ("MilkBox", "visitCount", "I", false)
  | 7 => ("MilkBox", "clock", "I", false)
  | 8 => ("MilkBox", "powered", "Z", false)
  | 9 => ("MilkBox", "allMilk", "I", false)
  | 10 => ("MilkBox", "allFeed", "I", false)
  | 11 => ("MilkBox", "alarms", "I", false)
  | 12 => ("MilkBox", "refusals", "I", false)
  | _ => ("MilkBox", "longestStay", "I", false)
def tyX5 : Nat → FieldType := fun k => match k with
  | 0 => .array (.object "MilkBox$Cow")
  | 1 => .array (.object "MilkBox$Visit")
  | 2 => .object "MilkBox$Line"
  | 3 => .object "MilkBox$Arm"
  | 4 => .object "MilkBox$Store"
  | 5 => .int
  | 6 => .int
  | 7 => .int
  | 8 => .boolean
  | 9 => .int
  | 10 => .int
  | 11 => .int
  | 12 => .int
  | _ => .int
theorem nmX5 : ∀ a, a < 14 → ∀ b, b < 14 → a ≠ b → (TX5 a).2.1 ≠ (TX5 b).2.1 := by decide +kernel
theorem tyX5_ok : ∀ k, k < 14 → parseFieldDescriptor (TX5 k).2.2.1 = some (tyX5 k) := by decide +kernel
abbrev cX5_init : ByteArray := prog_1_method_1_code
def yX5_init : MethodName := ⟨RX5, "<init>", "()V"⟩
abbrev cX5_cow : ByteArray := prog_1_method_2_code
def yX5_cow : MethodName := ⟨RX5, "cow", "(IIII)I"⟩
abbrev cX5_taken : ByteArray := prog_1_method_3_code
def yX5_taken : MethodName := ⟨RX5, "taken", "(III)I"⟩
abbrev cX5_withhold : ByteArray := prog_1_method_4_code
def yX5_withhold : MethodName := ⟨RX5, "withhold", "(II)I"⟩
abbrev cX5_trouble : ByteArray := prog_1_method_5_code
def yX5_trouble : MethodName := ⟨RX5, "trouble", "(III)I"⟩
abbrev cX5_about : ByteArray := prog_1_method_6_code
def yX5_about : MethodName := ⟨RX5, "about", "(II)I"⟩
abbrev cX5_pass : ByteArray := prog_1_method_7_code
def yX5_pass : MethodName := ⟨RX5, "pass", "(I)I"⟩
abbrev cX5_come : ByteArray := prog_1_method_8_code
def yX5_come : MethodName := ⟨RX5, "come", "(II)I"⟩
abbrev cX5_power : ByteArray := prog_1_method_9_code
def yX5_power : MethodName := ⟨RX5, "power", "(Z)I"⟩
abbrev cX5_box : ByteArray := prog_1_method_10_code
def yX5_box : MethodName := ⟨RX5, "box", "()I"⟩
abbrev cX5_queue : ByteArray := prog_1_method_11_code
def yX5_queue : MethodName := ⟨RX5, "queue", "(I)I"⟩
abbrev cX5_ends : ByteArray := prog_1_method_12_code
def yX5_ends : MethodName := ⟨RX5, "ends", "()I"⟩
abbrev cX5_room : ByteArray := prog_1_method_13_code
def yX5_room : MethodName := ⟨RX5, "room", "(I)I"⟩
abbrev cX5_pick : ByteArray := prog_1_method_14_code
def yX5_pick : MethodName := ⟨RX5, "pick", "(I)I"⟩
abbrev cX5_total : ByteArray := prog_1_method_15_code
def yX5_total : MethodName := ⟨RX5, "total", "(I)I"⟩
abbrev cX5_visit : ByteArray := prog_1_method_16_code
def yX5_visit : MethodName := ⟨RX5, "visit", "(III)I"⟩
abbrev cX5_visitOf : ByteArray := prog_1_method_17_code
def yX5_visitOf : MethodName := ⟨RX5, "visitOf", "(II)I"⟩
abbrev cX5_gave : ByteArray := prog_1_method_18_code
def yX5_gave : MethodName := ⟨RX5, "gave", "(II)I"⟩
abbrev cX5_longest : ByteArray := prog_1_method_19_code
def yX5_longest : MethodName := ⟨RX5, "longest", "()I"⟩
abbrev cX5_rank : ByteArray := prog_1_method_20_code
def yX5_rank : MethodName := ⟨RX5, "rank", "(I)I"⟩
abbrev cX5_until : ByteArray := prog_1_method_21_code
def yX5_until : MethodName := ⟨RX5, "until", "(II)I"⟩
abbrev cX5_within : ByteArray := prog_1_method_22_code
def yX5_within : MethodName := ⟨RX5, "within", "(III)Z"⟩
abbrev cX5_asNumber : ByteArray := prog_1_method_23_code
def yX5_asNumber : MethodName := ⟨RX5, "asNumber", "(Z)I"⟩
abbrev cX5_cowAt : ByteArray := prog_1_method_24_code
def yX5_cowAt : MethodName := ⟨RX5, "cowAt", "(I)LMilkBox$Cow;"⟩
abbrev cX5_visitAt : ByteArray := prog_1_method_25_code
def yX5_visitAt : MethodName := ⟨RX5, "visitAt", "(I)LMilkBox$Visit;"⟩
abbrev cX5_fillBox : ByteArray := prog_1_method_26_code
def yX5_fillBox : MethodName := ⟨RX5, "fillBox", "()V"⟩
abbrev cX5_finishMilking : ByteArray := prog_1_method_27_code
def yX5_finishMilking : MethodName := ⟨RX5, "finishMilking", "(I)V"⟩
abbrev cX5_countAhead : ByteArray := prog_1_method_28_code
def yX5_countAhead : MethodName := ⟨RX5, "countAhead", "(I)I"⟩
def RX6 : String := "MilkBoxModel"
def TX6 : u_T := fun k => match k with
  | 0 => ("MilkBoxModel", "thrown", "I", false)
  | 1 => ("MilkBoxModel", "clock", "I", false)
  | 2 => ("MilkBoxModel", "isOn", "Z", false)
  | 3 => ("MilkBoxModel", "cows", "I", false)
  | 4 => ("MilkBoxModel", "kind", "[I", true)
  | 5 => ("MilkBoxModel", "rate", "[I", true)
  | 6 => ("MilkBoxModel", "wait", "[I", true)
  | 7 => ("MilkBoxModel", "feed", "[I", true)
  | 8 => ("MilkBoxModel", "from", "[I", true)
  | 9 => ("MilkBoxModel", "left", "[I", true)
  | 10 => ("MilkBoxModel", "began", "[I", true)
  | 11 => ("MilkBoxModel", "withheld", "[I", true)
  | 12 => ("MilkBoxModel", "trouble", "[I", true)
  | 13 => ("MilkBoxModel", "fedDay", "[I", true)
  | 14 => ("MilkBoxModel", "fed", "[I", true)
  | 15 => ("MilkBoxModel", "gaveAll", "[I", true)
  | 16 => ("MilkBoxModel", "readings", "[I", true)
  | 17 => ("MilkBoxModel", "visits", "I", false)
  | 18 => ("MilkBoxModel", "visitKind", "[I", true)
  | 19 => ("MilkBoxModel", "visitCow", "[I", true)
  | 20 => ("MilkBoxModel", "visitMinute", "[I", true)
  | 21 => ("MilkBoxModel", "visitReading", "[I", true)
  | 22 => ("MilkBoxModel", "visitAlarm", "[Z", true)
  | 23 => ("MilkBoxModel", "visitBegan", "[I", true)
  | 24 => ("MilkBoxModel", "visitEnded", "[I", true)
  | 25 => ("MilkBoxModel", "visitMilk", "[I", true)
  | 26 => ("MilkBoxModel", "visitWhere", "[I", true)
  | 27 => ("MilkBoxModel", "visitLost", "[I", true)
  | 28 => ("MilkBoxModel", "visitFeed", "[I", true)
  | 29 => ("MilkBoxModel", "waiting", "I", false)
  | 30 => ("MilkBoxModel", "queue", "[I", true)
  | 31 => ("MilkBoxModel", "inBox", "I", false)
  | 32 => ("MilkBoxModel", "had", "I", false)
  | 33 => ("MilkBoxModel", "due", "I", false)
  | 34 => ("MilkBoxModel", "ahead", "I", false)
  | 35 => ("MilkBoxModel", "end", "I", false)
  | 36 => ("MilkBoxModel", "tank", "I", false)
  | 37 => ("MilkBoxModel", "room", "I", false)
  | 38 => ("MilkBoxModel", "can", "I", false)
  | 39 => ("MilkBoxModel", "poured", "I", false)
  | 40 => ("MilkBoxModel", "taken", "I", false)
  | 41 => ("MilkBoxModel", "milked", "I", false)
  | _ => ("MilkBoxModel", "fedAll", "I", false)
def tyX6 : Nat → FieldType := fun k => match k with
  | 0 => .int
  | 1 => .int
  | 2 => .boolean
  | 3 => .int
  | 4 => .array .int
  | 5 => .array .int
  | 6 => .array .int
  | 7 => .array .int
  | 8 => .array .int
  | 9 => .array .int
  | 10 => .array .int
  | 11 => .array .int
  | 12 => .array .int
  | 13 => .array .int
  | 14 => .array .int
  | 15 => .array .int
  | 16 => .array .int
  | 17 => .int
  | 18 => .array .int
  | 19 => .array .int
  | 20 => .array .int
  | 21 => .array .int
  | 22 => .array .boolean
  | 23 => .array .int
  | 24 => .array .int
  | 25 => .array .int
  | 26 => .array .int
  | 27 => .array .int
  | 28 => .array .int
  | 29 => .int
  | 30 => .array .int
  | 31 => .int
  | 32 => .int
  | 33 => .int
  | 34 => .int
  | 35 => .int
  | 36 => .int
  | 37 => .int
  | 38 => .int
  | 39 => .int
  | 40 => .int
  | 41 => .int
  | _ => .int
theorem nmX6 : ∀ a, a < 43 → ∀ b, b < 43 → a ≠ b → (TX6 a).2.1 ≠ (TX6 b).2.1 := by decide +kernel
theorem tyX6_ok : ∀ k, k < 43 → parseFieldDescriptor (TX6 k).2.2.1 = some (tyX6 k) := by decide +kernel
abbrev cX6_init : ByteArray := prog_8_method_1_code
def yX6_init : MethodName := ⟨RX6, "<init>", "()V"⟩
abbrev cX6_in : ByteArray := prog_8_method_3_code
def yX6_in : MethodName := ⟨RX6, "in", "(JJJ)Z"⟩
abbrev cX6_noCow : ByteArray := prog_8_method_4_code
def yX6_noCow : MethodName := ⟨RX6, "noCow", "(I)Z"⟩
abbrev cX6_cowInBox : ByteArray := prog_8_method_5_code
def yX6_cowInBox : MethodName := ⟨RX6, "cowInBox", "()I"⟩
abbrev cX6_has : ByteArray := prog_8_method_6_code
def yX6_has : MethodName := ⟨RX6, "has", "(I)I"⟩
abbrev cX6_hasRight : ByteArray := prog_8_method_7_code
def yX6_hasRight : MethodName := ⟨RX6, "hasRight", "(I)Z"⟩
abbrev cX6_fedToday : ByteArray := prog_8_method_8_code
def yX6_fedToday : MethodName := ⟨RX6, "fedToday", "(I)I"⟩
abbrev cX6_enter : ByteArray := prog_8_method_9_code
def yX6_enter : MethodName := ⟨RX6, "enter", "()V"⟩
abbrev cX6_begin : ByteArray := prog_8_method_10_code
def yX6_begin : MethodName := ⟨RX6, "begin", "(I)V"⟩
abbrev cX6_finish : ByteArray := prog_8_method_11_code
def yX6_finish : MethodName := ⟨RX6, "finish", "(I)V"⟩
abbrev cX6_cow : ByteArray := prog_8_method_12_code
def yX6_cow : MethodName := ⟨RX6, "cow", "(IIII)I"⟩
abbrev cX6_taken : ByteArray := prog_8_method_13_code
def yX6_taken : MethodName := ⟨RX6, "taken", "(III)I"⟩
abbrev cX6_withhold : ByteArray := prog_8_method_14_code
def yX6_withhold : MethodName := ⟨RX6, "withhold", "(II)I"⟩
abbrev cX6_trouble : ByteArray := prog_8_method_15_code
def yX6_trouble : MethodName := ⟨RX6, "trouble", "(III)I"⟩
abbrev cX6_placeOf : ByteArray := prog_8_method_16_code
def yX6_placeOf : MethodName := ⟨RX6, "placeOf", "(I)I"⟩
abbrev cX6_about : ByteArray := prog_8_method_17_code
def yX6_about : MethodName := ⟨RX6, "about", "(II)I"⟩
abbrev cX6_pass : ByteArray := prog_8_method_18_code
def yX6_pass : MethodName := ⟨RX6, "pass", "(I)I"⟩
abbrev cX6_isAlarm : ByteArray := prog_8_method_19_code
def yX6_isAlarm : MethodName := ⟨RX6, "isAlarm", "(II)Z"⟩
abbrev cX6_come : ByteArray := prog_8_method_20_code
def yX6_come : MethodName := ⟨RX6, "come", "(II)I"⟩
abbrev cX6_power : ByteArray := prog_8_method_21_code
def yX6_power : MethodName := ⟨RX6, "power", "(Z)I"⟩
abbrev cX6_box : ByteArray := prog_8_method_22_code
def yX6_box : MethodName := ⟨RX6, "box", "()I"⟩
abbrev cX6_queue : ByteArray := prog_8_method_23_code
def yX6_queue : MethodName := ⟨RX6, "queue", "(I)I"⟩
abbrev cX6_ends : ByteArray := prog_8_method_24_code
def yX6_ends : MethodName := ⟨RX6, "ends", "()I"⟩
abbrev cX6_room : ByteArray := prog_8_method_25_code
def yX6_room : MethodName := ⟨RX6, "room", "(I)I"⟩
abbrev cX6_pick : ByteArray := prog_8_method_26_code
def yX6_pick : MethodName := ⟨RX6, "pick", "(I)I"⟩
abbrev cX6_total : ByteArray := prog_8_method_27_code
def yX6_total : MethodName := ⟨RX6, "total", "(I)I"⟩
abbrev cX6_visit : ByteArray := prog_8_method_28_code
def yX6_visit : MethodName := ⟨RX6, "visit", "(III)I"⟩
abbrev cX6_visitOf : ByteArray := prog_8_method_29_code
def yX6_visitOf : MethodName := ⟨RX6, "visitOf", "(II)I"⟩
abbrev cX6_gave : ByteArray := prog_8_method_30_code
def yX6_gave : MethodName := ⟨RX6, "gave", "(II)I"⟩
abbrev cX6_longest : ByteArray := prog_8_method_31_code
def yX6_longest : MethodName := ⟨RX6, "longest", "()I"⟩
abbrev cX6_rank : ByteArray := prog_8_method_32_code
def yX6_rank : MethodName := ⟨RX6, "rank", "(I)I"⟩
abbrev cX6_until : ByteArray := prog_8_method_33_code
def yX6_until : MethodName := ⟨RX6, "until", "(II)I"⟩
def RJ9 : String := "java/lang/Math"
def TJ9 : u_T := fun k => match k with
  | _ => ("", "", "", false)
def tyJ9 : Nat → FieldType := fun k => match k with
  | _ => .int
abbrev cJ9_max_7cf53 : ByteArray := prog_9_method_65_code
def yJ9_max_7cf53 : MethodName := ⟨RJ9, "max", "(II)I"⟩
abbrev cJ9_min_7cf53 : ByteArray := prog_9_method_69_code
def yJ9_min_7cf53 : MethodName := ⟨RJ9, "min", "(II)I"⟩
def RL : String := "MilkBoxLaw"
abbrev cL_law : ByteArray := code
def yL_law : MethodName := ⟨RL, "law", "([I)Z"⟩
abbrev vwCl : List vw_C := [(RX0, TX0, 5), (RX1, TX1, 14), (RX2, TX2, 2), (RX3, TX3, 5), (RX4, TX4, 12), (RX5, TX5, 14), (RX6, TX6, 43)]
end
section
def gTB : List Cond := lw_tbl.filter goodWord
theorem win_L : Cond.initialized RL ∈ lw_tbl := List.mem_append_right _ (List.mem_of_getElem? (i := 0) rfl)
theorem win_X5 : Cond.initialized RX5 ∈ lw_tbl := List.mem_append_right _ (List.mem_of_getElem? (i := 1) rfl)
theorem win_X2 : Cond.initialized RX2 ∈ lw_tbl := List.mem_append_right _ (List.mem_of_getElem? (i := 2) rfl)
theorem win_X0 : Cond.initialized RX0 ∈ lw_tbl := List.mem_append_right _ (List.mem_of_getElem? (i := 3) rfl)
theorem win_X3 : Cond.initialized RX3 ∈ lw_tbl := List.mem_append_right _ (List.mem_of_getElem? (i := 4) rfl)
theorem win_X6 : Cond.initialized RX6 ∈ lw_tbl := List.mem_append_right _ (List.mem_of_getElem? (i := 5) rfl)
theorem win_X1 : Cond.initialized RX1 ∈ lw_tbl := List.mem_append_right _ (List.mem_of_getElem? (i := 6) rfl)
theorem win_J9 : Cond.initialized "java/lang/Math" ∈ lw_tbl := List.mem_append_right _ (List.mem_of_getElem? (i := 7) rfl)
theorem win_X4 : Cond.initialized RX4 ∈ lw_tbl := List.mem_append_right _ (List.mem_of_getElem? (i := 8) rfl)
theorem wcl_L_7 : Cond.classLink RL 7 RX5 ∈ lw_tbl := List.mem_append_right _ (List.mem_of_getElem? (i := 9) rfl)
theorem wis_X5 : Cond.instantiable RX5 14 ∈ lw_tbl := List.mem_append_right _ (List.mem_of_getElem? (i := 10) rfl)
theorem wml_L_9 : Cond.methodLink RL 9 yX5_init ∈ lw_tbl := List.mem_append_right _ (List.mem_of_getElem? (i := 11) rfl)
theorem wim_X5_init : Cond.instanceMethod yX5_init ∈ lw_tbl := List.mem_append_right _ (List.mem_of_getElem? (i := 12) rfl)
theorem wco_X5_init : Cond.code yX5_init cX5_init 1 none ∈ lw_tbl := List.mem_append_right _ (List.mem_of_getElem? (i := 13) rfl)
theorem wml_X5_1 : Cond.methodLink RX5 1 objectInit ∈ lw_tbl := List.mem_append_right _ (List.mem_of_getElem? (i := 14) rfl)
theorem wim_objectInit : Cond.instanceMethod objectInit ∈ lw_tbl := List.mem_append_right _ (List.mem_of_getElem? (i := 15) rfl)
theorem wco_objectInit : Cond.code objectInit ⟨#[0xb1]⟩ 1 none ∈ lw_tbl := List.mem_append_right _ (List.mem_of_getElem? (i := 16) rfl)
theorem wcl_X5_9 : Cond.classLink RX5 9 RX1 ∈ lw_tbl := List.mem_append_right _ (List.mem_of_getElem? (i := 17) rfl)
theorem wao_X1 : Cond.arrayOver (.object RX1) ∈ lw_tbl := List.mem_append_right _ (List.mem_of_getElem? (i := 18) rfl)
theorem wcl_X5_15 : Cond.classLink RX5 15 RX4 ∈ lw_tbl := List.mem_append_right _ (List.mem_of_getElem? (i := 19) rfl)
theorem wao_X4 : Cond.arrayOver (.object RX4) ∈ lw_tbl := List.mem_append_right _ (List.mem_of_getElem? (i := 20) rfl)
theorem wcl_X5_21 : Cond.classLink RX5 21 RX2 ∈ lw_tbl := List.mem_append_right _ (List.mem_of_getElem? (i := 21) rfl)
theorem wis_X2 : Cond.instantiable RX2 2 ∈ lw_tbl := List.mem_append_right _ (List.mem_of_getElem? (i := 22) rfl)
theorem wmn_X5_23 : Cond.methodLinkNest RX5 23 yX2_init "MilkBox" ∈ lw_tbl := List.mem_append_right _ (List.mem_of_getElem? (i := 23) rfl)
theorem wim_X2_init : Cond.instanceMethod yX2_init ∈ lw_tbl := List.mem_append_right _ (List.mem_of_getElem? (i := 24) rfl)
theorem wco_X2_init : Cond.code yX2_init cX2_init 1 none ∈ lw_tbl := List.mem_append_right _ (List.mem_of_getElem? (i := 25) rfl)
theorem wml_X2_3 : Cond.methodLink RX2 3 objectInit ∈ lw_tbl := List.mem_append_right _ (List.mem_of_getElem? (i := 26) rfl)
theorem wcl_X2_9 : Cond.classLink RX2 9 RX4 ∈ lw_tbl := List.mem_append_right _ (List.mem_of_getElem? (i := 27) rfl)
theorem wfl_X2_11 : Cond.fieldLink RX2 11 "MilkBox$Line" "places" "[LMilkBox$Visit;" ∈ lw_tbl := List.mem_append_right _ (List.mem_of_getElem? (i := 28) rfl)
theorem wfl_X2_17 : Cond.fieldLink RX2 17 "MilkBox$Line" "size" "I" ∈ lw_tbl := List.mem_append_right _ (List.mem_of_getElem? (i := 29) rfl)
theorem wfl_X5_190 : Cond.fieldLink RX5 190 "MilkBox$Line" "size" "I" ∈ lw_tbl := List.mem_append_right _ (List.mem_of_getElem? (i := 30) rfl)
theorem wcl_X5_28 : Cond.classLink RX5 28 RX0 ∈ lw_tbl := List.mem_append_right _ (List.mem_of_getElem? (i := 36) rfl)
theorem wis_X0 : Cond.instantiable RX0 5 ∈ lw_tbl := List.mem_append_right _ (List.mem_of_getElem? (i := 37) rfl)
theorem wmn_X5_30 : Cond.methodLinkNest RX5 30 yX0_init "MilkBox" ∈ lw_tbl := List.mem_append_right _ (List.mem_of_getElem? (i := 38) rfl)
theorem wim_X0_init : Cond.instanceMethod yX0_init ∈ lw_tbl := List.mem_append_right _ (List.mem_of_getElem? (i := 39) rfl)
theorem wco_X0_init : Cond.code yX0_init cX0_init 1 none ∈ lw_tbl := List.mem_append_right _ (List.mem_of_getElem? (i := 40) rfl)
theorem wml_X0_3 : Cond.methodLink RX0 3 objectInit ∈ lw_tbl := List.mem_append_right _ (List.mem_of_getElem? (i := 41) rfl)
theorem wfl_X0_9 : Cond.fieldLink RX0 9 "MilkBox$Arm" "current" "LMilkBox$Visit;" ∈ lw_tbl := List.mem_append_right _ (List.mem_of_getElem? (i := 42) rfl)
theorem wfl_X5_155 : Cond.fieldLink RX5 155 "MilkBox$Arm" "current" "LMilkBox$Visit;" ∈ lw_tbl := List.mem_append_right _ (List.mem_of_getElem? (i := 43) rfl)
theorem wfl_X0_27 : Cond.fieldLink RX0 27 "MilkBox$Arm" "milkThere" "I" ∈ lw_tbl := List.mem_append_right _ (List.mem_of_getElem? (i := 44) rfl)
theorem wfl_X5_261 : Cond.fieldLink RX5 261 "MilkBox$Arm" "milkThere" "I" ∈ lw_tbl := List.mem_append_right _ (List.mem_of_getElem? (i := 45) rfl)
theorem wfl_X0_30 : Cond.fieldLink RX0 30 "MilkBox$Arm" "milkDue" "I" ∈ lw_tbl := List.mem_append_right _ (List.mem_of_getElem? (i := 46) rfl)
theorem wfl_X5_239 : Cond.fieldLink RX5 239 "MilkBox$Arm" "milkDue" "I" ∈ lw_tbl := List.mem_append_right _ (List.mem_of_getElem? (i := 47) rfl)
theorem wfl_X0_33 : Cond.fieldLink RX0 33 "MilkBox$Arm" "flowsFrom" "I" ∈ lw_tbl := List.mem_append_right _ (List.mem_of_getElem? (i := 48) rfl)
theorem wfl_X0_49 : Cond.fieldLink RX0 49 "MilkBox$Arm" "endsAt" "I" ∈ lw_tbl := List.mem_append_right _ (List.mem_of_getElem? (i := 49) rfl)
theorem wfl_X5_116 : Cond.fieldLink RX5 116 "MilkBox$Arm" "endsAt" "I" ∈ lw_tbl := List.mem_append_right _ (List.mem_of_getElem? (i := 50) rfl)
theorem wcl_X5_35 : Cond.classLink RX5 35 RX3 ∈ lw_tbl := List.mem_append_right _ (List.mem_of_getElem? (i := 62) rfl)
theorem wis_X3 : Cond.instantiable RX3 5 ∈ lw_tbl := List.mem_append_right _ (List.mem_of_getElem? (i := 63) rfl)
theorem wmn_X5_37 : Cond.methodLinkNest RX5 37 yX3_init "MilkBox" ∈ lw_tbl := List.mem_append_right _ (List.mem_of_getElem? (i := 64) rfl)
theorem wim_X3_init : Cond.instanceMethod yX3_init ∈ lw_tbl := List.mem_append_right _ (List.mem_of_getElem? (i := 65) rfl)
theorem wco_X3_init : Cond.code yX3_init cX3_init 1 none ∈ lw_tbl := List.mem_append_right _ (List.mem_of_getElem? (i := 66) rfl)
theorem wml_X3_3 : Cond.methodLink RX3 3 objectInit ∈ lw_tbl := List.mem_append_right _ (List.mem_of_getElem? (i := 67) rfl)
theorem wfl_X3_9 : Cond.fieldLink RX3 9 "MilkBox$Store" "tankRoom" "I" ∈ lw_tbl := List.mem_append_right _ (List.mem_of_getElem? (i := 68) rfl)
theorem wfl_X5_169 : Cond.fieldLink RX5 169 "MilkBox$Store" "tankRoom" "I" ∈ lw_tbl := List.mem_append_right _ (List.mem_of_getElem? (i := 69) rfl)
theorem wfl_X3_18 : Cond.fieldLink RX3 18 "MilkBox$Store" "tank" "I" ∈ lw_tbl := List.mem_append_right _ (List.mem_of_getElem? (i := 70) rfl)
theorem wfl_X5_166 : Cond.fieldLink RX5 166 "MilkBox$Store" "tank" "I" ∈ lw_tbl := List.mem_append_right _ (List.mem_of_getElem? (i := 71) rfl)
theorem wfl_X3_15 : Cond.fieldLink RX3 15 "MilkBox$Store" "can" "I" ∈ lw_tbl := List.mem_append_right _ (List.mem_of_getElem? (i := 72) rfl)
theorem wfl_X5_175 : Cond.fieldLink RX5 175 "MilkBox$Store" "can" "I" ∈ lw_tbl := List.mem_append_right _ (List.mem_of_getElem? (i := 73) rfl)
theorem wfl_X3_21 : Cond.fieldLink RX3 21 "MilkBox$Store" "poured" "I" ∈ lw_tbl := List.mem_append_right _ (List.mem_of_getElem? (i := 74) rfl)
theorem wfl_X5_178 : Cond.fieldLink RX5 178 "MilkBox$Store" "poured" "I" ∈ lw_tbl := List.mem_append_right _ (List.mem_of_getElem? (i := 75) rfl)
theorem wfl_X3_30 : Cond.fieldLink RX3 30 "MilkBox$Store" "takenAway" "I" ∈ lw_tbl := List.mem_append_right _ (List.mem_of_getElem? (i := 76) rfl)
theorem wfl_X5_181 : Cond.fieldLink RX5 181 "MilkBox$Store" "takenAway" "I" ∈ lw_tbl := List.mem_append_right _ (List.mem_of_getElem? (i := 77) rfl)
theorem wfl_X5_11 : Cond.fieldLink RX5 11 "MilkBox" "cows" "[LMilkBox$Cow;" ∈ lw_tbl := List.mem_append_right _ (List.mem_of_getElem? (i := 89) rfl)
theorem wfl_X5_17 : Cond.fieldLink RX5 17 "MilkBox" "visits" "[LMilkBox$Visit;" ∈ lw_tbl := List.mem_append_right _ (List.mem_of_getElem? (i := 90) rfl)
theorem wfl_X5_24 : Cond.fieldLink RX5 24 "MilkBox" "line" "LMilkBox$Line;" ∈ lw_tbl := List.mem_append_right _ (List.mem_of_getElem? (i := 91) rfl)
theorem wfl_X5_31 : Cond.fieldLink RX5 31 "MilkBox" "arm" "LMilkBox$Arm;" ∈ lw_tbl := List.mem_append_right _ (List.mem_of_getElem? (i := 92) rfl)
theorem wfl_X5_38 : Cond.fieldLink RX5 38 "MilkBox" "store" "LMilkBox$Store;" ∈ lw_tbl := List.mem_append_right _ (List.mem_of_getElem? (i := 93) rfl)
theorem wfl_X5_50 : Cond.fieldLink RX5 50 "MilkBox" "cowCount" "I" ∈ lw_tbl := List.mem_append_right _ (List.mem_of_getElem? (i := 94) rfl)
theorem wfl_X5_129 : Cond.fieldLink RX5 129 "MilkBox" "visitCount" "I" ∈ lw_tbl := List.mem_append_right _ (List.mem_of_getElem? (i := 95) rfl)
theorem wfl_X5_54 : Cond.fieldLink RX5 54 "MilkBox" "clock" "I" ∈ lw_tbl := List.mem_append_right _ (List.mem_of_getElem? (i := 96) rfl)
theorem wfl_X5_42 : Cond.fieldLink RX5 42 "MilkBox" "powered" "Z" ∈ lw_tbl := List.mem_append_right _ (List.mem_of_getElem? (i := 97) rfl)
theorem wfl_X5_184 : Cond.fieldLink RX5 184 "MilkBox" "allMilk" "I" ∈ lw_tbl := List.mem_append_right _ (List.mem_of_getElem? (i := 98) rfl)
theorem wfl_X5_187 : Cond.fieldLink RX5 187 "MilkBox" "allFeed" "I" ∈ lw_tbl := List.mem_append_right _ (List.mem_of_getElem? (i := 99) rfl)
theorem wfl_X5_144 : Cond.fieldLink RX5 144 "MilkBox" "alarms" "I" ∈ lw_tbl := List.mem_append_right _ (List.mem_of_getElem? (i := 100) rfl)
theorem wfl_X5_152 : Cond.fieldLink RX5 152 "MilkBox" "refusals" "I" ∈ lw_tbl := List.mem_append_right _ (List.mem_of_getElem? (i := 101) rfl)
theorem wfl_X5_208 : Cond.fieldLink RX5 208 "MilkBox" "longestStay" "I" ∈ lw_tbl := List.mem_append_right _ (List.mem_of_getElem? (i := 102) rfl)
theorem wml_L_13 : Cond.methodLink RL 13 yX5_cow ∈ lw_tbl := List.mem_append_right _ (List.mem_of_getElem? (i := 132) rfl)
theorem wim_X5_cow : Cond.instanceMethod yX5_cow ∈ lw_tbl := List.mem_append_right _ (List.mem_of_getElem? (i := 133) rfl)
theorem wse_X5_cow : Cond.selects RX5 yX5_cow yX5_cow ∈ lw_tbl := List.mem_append_right _ (List.mem_of_getElem? (i := 134) rfl)
theorem wco_X5_cow : Cond.code yX5_cow cX5_cow 5 (some .int) ∈ lw_tbl := List.mem_append_right _ (List.mem_of_getElem? (i := 135) rfl)
theorem wml_X5_46 : Cond.methodLink RX5 46 yX5_within ∈ lw_tbl := List.mem_append_right _ (List.mem_of_getElem? (i := 136) rfl)
theorem wst_X5_within : Cond.static yX5_within ∈ lw_tbl := List.mem_append_right _ (List.mem_of_getElem? (i := 137) rfl)
theorem wco_X5_within : Cond.code yX5_within cX5_within 3 (some .boolean) ∈ lw_tbl := List.mem_append_right _ (List.mem_of_getElem? (i := 138) rfl)
theorem wis_X1 : Cond.instantiable RX1 14 ∈ lw_tbl := List.mem_append_right _ (List.mem_of_getElem? (i := 139) rfl)
theorem wml_X5_57 : Cond.methodLink RX5 57 yX1_init ∈ lw_tbl := List.mem_append_right _ (List.mem_of_getElem? (i := 140) rfl)
theorem wim_X1_init : Cond.instanceMethod yX1_init ∈ lw_tbl := List.mem_append_right _ (List.mem_of_getElem? (i := 141) rfl)
theorem wco_X1_init : Cond.code yX1_init cX1_init 6 none ∈ lw_tbl := List.mem_append_right _ (List.mem_of_getElem? (i := 142) rfl)
theorem wml_X1_3 : Cond.methodLink RX1 3 objectInit ∈ lw_tbl := List.mem_append_right _ (List.mem_of_getElem? (i := 143) rfl)
theorem wfl_X1_22 : Cond.fieldLink RX1 22 "MilkBox$Cow" "kind" "I" ∈ lw_tbl := List.mem_append_right _ (List.mem_of_getElem? (i := 144) rfl)
theorem wfl_X5_64 : Cond.fieldLink RX5 64 "MilkBox$Cow" "kind" "I" ∈ lw_tbl := List.mem_append_right _ (List.mem_of_getElem? (i := 145) rfl)
theorem wfl_X1_25 : Cond.fieldLink RX1 25 "MilkBox$Cow" "rate" "I" ∈ lw_tbl := List.mem_append_right _ (List.mem_of_getElem? (i := 146) rfl)
theorem wfl_X5_67 : Cond.fieldLink RX5 67 "MilkBox$Cow" "rate" "I" ∈ lw_tbl := List.mem_append_right _ (List.mem_of_getElem? (i := 147) rfl)
theorem wfl_X1_28 : Cond.fieldLink RX1 28 "MilkBox$Cow" "pause" "I" ∈ lw_tbl := List.mem_append_right _ (List.mem_of_getElem? (i := 148) rfl)
theorem wfl_X5_70 : Cond.fieldLink RX5 70 "MilkBox$Cow" "pause" "I" ∈ lw_tbl := List.mem_append_right _ (List.mem_of_getElem? (i := 149) rfl)
theorem wfl_X1_31 : Cond.fieldLink RX1 31 "MilkBox$Cow" "feedADay" "I" ∈ lw_tbl := List.mem_append_right _ (List.mem_of_getElem? (i := 150) rfl)
theorem wfl_X5_73 : Cond.fieldLink RX5 73 "MilkBox$Cow" "feedADay" "I" ∈ lw_tbl := List.mem_append_right _ (List.mem_of_getElem? (i := 151) rfl)
theorem wfl_X1_9 : Cond.fieldLink RX1 9 "MilkBox$Cow" "troubles" "[I" ∈ lw_tbl := List.mem_append_right _ (List.mem_of_getElem? (i := 152) rfl)
theorem wfl_X0_36 : Cond.fieldLink RX0 36 "MilkBox$Cow" "troubles" "[I" ∈ lw_tbl := List.mem_append_right _ (List.mem_of_getElem? (i := 153) rfl)
theorem wfl_X5_80 : Cond.fieldLink RX5 80 "MilkBox$Cow" "troubles" "[I" ∈ lw_tbl := List.mem_append_right _ (List.mem_of_getElem? (i := 154) rfl)
theorem wfl_X1_15 : Cond.fieldLink RX1 15 "MilkBox$Cow" "latest" "[I" ∈ lw_tbl := List.mem_append_right _ (List.mem_of_getElem? (i := 155) rfl)
theorem wfl_X5_108 : Cond.fieldLink RX5 108 "MilkBox$Cow" "readings" "I" ∈ lw_tbl := List.mem_append_right _ (List.mem_of_getElem? (i := 156) rfl)
theorem wfl_X1_62 : Cond.fieldLink RX1 62 "MilkBox$Cow" "readings" "I" ∈ lw_tbl := List.mem_append_right _ (List.mem_of_getElem? (i := 157) rfl)
theorem wfl_X5_77 : Cond.fieldLink RX5 77 "MilkBox$Cow" "withheldTo" "I" ∈ lw_tbl := List.mem_append_right _ (List.mem_of_getElem? (i := 158) rfl)
theorem wfl_X1_50 : Cond.fieldLink RX1 50 "MilkBox$Cow" "withheldTo" "I" ∈ lw_tbl := List.mem_append_right _ (List.mem_of_getElem? (i := 159) rfl)
theorem wfl_X1_34 : Cond.fieldLink RX1 34 "MilkBox$Cow" "growsFrom" "I" ∈ lw_tbl := List.mem_append_right _ (List.mem_of_getElem? (i := 160) rfl)
theorem wfl_X1_37 : Cond.fieldLink RX1 37 "MilkBox$Cow" "left" "I" ∈ lw_tbl := List.mem_append_right _ (List.mem_of_getElem? (i := 161) rfl)
theorem wfl_X5_264 : Cond.fieldLink RX5 264 "MilkBox$Cow" "left" "I" ∈ lw_tbl := List.mem_append_right _ (List.mem_of_getElem? (i := 162) rfl)
theorem wfl_X1_18 : Cond.fieldLink RX1 18 "MilkBox$Cow" "latestBegan" "I" ∈ lw_tbl := List.mem_append_right _ (List.mem_of_getElem? (i := 163) rfl)
theorem wfl_X5_88 : Cond.fieldLink RX5 88 "MilkBox$Cow" "latestBegan" "I" ∈ lw_tbl := List.mem_append_right _ (List.mem_of_getElem? (i := 164) rfl)
theorem wfl_X5_105 : Cond.fieldLink RX5 105 "MilkBox$Cow" "milkedInAll" "I" ∈ lw_tbl := List.mem_append_right _ (List.mem_of_getElem? (i := 165) rfl)
theorem wfl_X1_56 : Cond.fieldLink RX1 56 "MilkBox$Cow" "fed" "I" ∈ lw_tbl := List.mem_append_right _ (List.mem_of_getElem? (i := 166) rfl)
theorem wfl_X1_53 : Cond.fieldLink RX1 53 "MilkBox$Cow" "fedDay" "I" ∈ lw_tbl := List.mem_append_right _ (List.mem_of_getElem? (i := 167) rfl)
theorem wac_int : Cond.arrayClass .int ∈ lw_tbl := List.mem_append_right _ (List.mem_of_getElem? (i := 197) rfl)
theorem wml_L_18 : Cond.methodLink RL 18 yX5_taken ∈ lw_tbl := List.mem_append_right _ (List.mem_of_getElem? (i := 198) rfl)
theorem wim_X5_taken : Cond.instanceMethod yX5_taken ∈ lw_tbl := List.mem_append_right _ (List.mem_of_getElem? (i := 199) rfl)
theorem wse_X5_taken : Cond.selects RX5 yX5_taken yX5_taken ∈ lw_tbl := List.mem_append_right _ (List.mem_of_getElem? (i := 200) rfl)
theorem wco_X5_taken : Cond.code yX5_taken cX5_taken 5 (some .int) ∈ lw_tbl := List.mem_append_right _ (List.mem_of_getElem? (i := 201) rfl)
theorem wml_X5_60 : Cond.methodLink RX5 60 yX5_cowAt ∈ lw_tbl := List.mem_append_right _ (List.mem_of_getElem? (i := 202) rfl)
theorem wim_X5_cowAt : Cond.instanceMethod yX5_cowAt ∈ lw_tbl := List.mem_append_right _ (List.mem_of_getElem? (i := 204) rfl)
theorem wco_X5_cowAt : Cond.code yX5_cowAt cX5_cowAt 2 (some (.object "MilkBox$Cow")) ∈ lw_tbl := List.mem_append_right _ (List.mem_of_getElem? (i := 205) rfl)
theorem wml_L_23 : Cond.methodLink RL 23 yX5_withhold ∈ lw_tbl := List.mem_append_right _ (List.mem_of_getElem? (i := 206) rfl)
theorem wim_X5_withhold : Cond.instanceMethod yX5_withhold ∈ lw_tbl := List.mem_append_right _ (List.mem_of_getElem? (i := 207) rfl)
theorem wse_X5_withhold : Cond.selects RX5 yX5_withhold yX5_withhold ∈ lw_tbl := List.mem_append_right _ (List.mem_of_getElem? (i := 208) rfl)
theorem wco_X5_withhold : Cond.code yX5_withhold cX5_withhold 5 (some .int) ∈ lw_tbl := List.mem_append_right _ (List.mem_of_getElem? (i := 209) rfl)
theorem wk_X5_76 : Cond.constant RX5 76 (200000) ∈ lw_tbl := List.mem_append_right _ (List.mem_of_getElem? (i := 210) rfl)
theorem wml_L_28 : Cond.methodLink RL 28 yX5_trouble ∈ lw_tbl := List.mem_append_right _ (List.mem_of_getElem? (i := 211) rfl)
theorem wim_X5_trouble : Cond.instanceMethod yX5_trouble ∈ lw_tbl := List.mem_append_right _ (List.mem_of_getElem? (i := 212) rfl)
theorem wse_X5_trouble : Cond.selects RX5 yX5_trouble yX5_trouble ∈ lw_tbl := List.mem_append_right _ (List.mem_of_getElem? (i := 213) rfl)
theorem wco_X5_trouble : Cond.code yX5_trouble cX5_trouble 6 (some .int) ∈ lw_tbl := List.mem_append_right _ (List.mem_of_getElem? (i := 214) rfl)
theorem wml_L_32 : Cond.methodLink RL 32 yX5_about ∈ lw_tbl := List.mem_append_right _ (List.mem_of_getElem? (i := 215) rfl)
theorem wim_X5_about : Cond.instanceMethod yX5_about ∈ lw_tbl := List.mem_append_right _ (List.mem_of_getElem? (i := 216) rfl)
theorem wse_X5_about : Cond.selects RX5 yX5_about yX5_about ∈ lw_tbl := List.mem_append_right _ (List.mem_of_getElem? (i := 217) rfl)
theorem wco_X5_about : Cond.code yX5_about cX5_about 4 (some .int) ∈ lw_tbl := List.mem_append_right _ (List.mem_of_getElem? (i := 218) rfl)
theorem wml_X5_84 : Cond.methodLink RX5 84 yX1_milkAt ∈ lw_tbl := List.mem_append_right _ (List.mem_of_getElem? (i := 219) rfl)
theorem wim_X1_milkAt : Cond.instanceMethod yX1_milkAt ∈ lw_tbl := List.mem_append_right _ (List.mem_of_getElem? (i := 220) rfl)
theorem wse_X1_milkAt : Cond.selects RX1 yX1_milkAt yX1_milkAt ∈ lw_tbl := List.mem_append_right _ (List.mem_of_getElem? (i := 221) rfl)
theorem wco_X1_milkAt : Cond.code yX1_milkAt cX1_milkAt 2 (some .int) ∈ lw_tbl := List.mem_append_right _ (List.mem_of_getElem? (i := 222) rfl)
theorem wml_X1_40 : Cond.methodLink RX1 40 Lib.Math.min.name ∈ lw_tbl := List.mem_append_right _ (List.mem_of_getElem? (i := 223) rfl)
theorem wst_Lib_Math_min_name : Cond.static Lib.Math.min.name ∈ lw_tbl := List.mem_append_right _ (List.mem_of_getElem? (i := 224) rfl)
theorem wco_Lib_Math_min_name : Cond.code Lib.Math.min.name Lib.Math.min.code 2 (some .int) ∈ lw_tbl := List.mem_append_right _ (List.mem_of_getElem? (i := 225) rfl)
theorem wml_X5_91 : Cond.methodLink RX5 91 yX1_hasRightAt ∈ lw_tbl := List.mem_append_right _ (List.mem_of_getElem? (i := 226) rfl)
theorem wim_X1_hasRightAt : Cond.instanceMethod yX1_hasRightAt ∈ lw_tbl := List.mem_append_right _ (List.mem_of_getElem? (i := 227) rfl)
theorem wse_X1_hasRightAt : Cond.selects RX1 yX1_hasRightAt yX1_hasRightAt ∈ lw_tbl := List.mem_append_right _ (List.mem_of_getElem? (i := 228) rfl)
theorem wco_X1_hasRightAt : Cond.code yX1_hasRightAt cX1_hasRightAt 2 (some .boolean) ∈ lw_tbl := List.mem_append_right _ (List.mem_of_getElem? (i := 229) rfl)
theorem wml_X5_95 : Cond.methodLink RX5 95 yX5_asNumber ∈ lw_tbl := List.mem_append_right _ (List.mem_of_getElem? (i := 230) rfl)
theorem wst_X5_asNumber : Cond.static yX5_asNumber ∈ lw_tbl := List.mem_append_right _ (List.mem_of_getElem? (i := 231) rfl)
theorem wco_X5_asNumber : Cond.code yX5_asNumber cX5_asNumber 1 (some .int) ∈ lw_tbl := List.mem_append_right _ (List.mem_of_getElem? (i := 232) rfl)
theorem wml_X5_99 : Cond.methodLink RX5 99 yX1_fedOn ∈ lw_tbl := List.mem_append_right _ (List.mem_of_getElem? (i := 233) rfl)
theorem wim_X1_fedOn : Cond.instanceMethod yX1_fedOn ∈ lw_tbl := List.mem_append_right _ (List.mem_of_getElem? (i := 234) rfl)
theorem wse_X1_fedOn : Cond.selects RX1 yX1_fedOn yX1_fedOn ∈ lw_tbl := List.mem_append_right _ (List.mem_of_getElem? (i := 235) rfl)
theorem wco_X1_fedOn : Cond.code yX1_fedOn cX1_fedOn 2 (some .int) ∈ lw_tbl := List.mem_append_right _ (List.mem_of_getElem? (i := 236) rfl)
theorem wml_X5_102 : Cond.methodLink RX5 102 yX2_placeOf ∈ lw_tbl := List.mem_append_right _ (List.mem_of_getElem? (i := 237) rfl)
theorem wim_X2_placeOf : Cond.instanceMethod yX2_placeOf ∈ lw_tbl := List.mem_append_right _ (List.mem_of_getElem? (i := 238) rfl)
theorem wse_X2_placeOf : Cond.selects RX2 yX2_placeOf yX2_placeOf ∈ lw_tbl := List.mem_append_right _ (List.mem_of_getElem? (i := 239) rfl)
theorem wco_X2_placeOf : Cond.code yX2_placeOf cX2_placeOf 4 (some .int) ∈ lw_tbl := List.mem_append_right _ (List.mem_of_getElem? (i := 240) rfl)
theorem wml_X2_21 : Cond.methodLink RX2 21 yX2_at ∈ lw_tbl := List.mem_append_right _ (List.mem_of_getElem? (i := 241) rfl)
theorem wim_X2_at : Cond.instanceMethod yX2_at ∈ lw_tbl := List.mem_append_right _ (List.mem_of_getElem? (i := 242) rfl)
theorem wse_X2_at : Cond.selects RX2 yX2_at yX2_at ∈ lw_tbl := List.mem_append_right _ (List.mem_of_getElem? (i := 243) rfl)
theorem wco_X2_at : Cond.code yX2_at cX2_at 2 (some (.object "MilkBox$Visit")) ∈ lw_tbl := List.mem_append_right _ (List.mem_of_getElem? (i := 244) rfl)
theorem wml_L_36 : Cond.methodLink RL 36 yX5_pass ∈ lw_tbl := List.mem_append_right _ (List.mem_of_getElem? (i := 245) rfl)
theorem wim_X5_pass : Cond.instanceMethod yX5_pass ∈ lw_tbl := List.mem_append_right _ (List.mem_of_getElem? (i := 246) rfl)
theorem wse_X5_pass : Cond.selects RX5 yX5_pass yX5_pass ∈ lw_tbl := List.mem_append_right _ (List.mem_of_getElem? (i := 247) rfl)
theorem wco_X5_pass : Cond.code yX5_pass cX5_pass 4 (some .int) ∈ lw_tbl := List.mem_append_right _ (List.mem_of_getElem? (i := 248) rfl)
theorem wk_X5_111 : Cond.constant RX5 111 (100000) ∈ lw_tbl := List.mem_append_right _ (List.mem_of_getElem? (i := 249) rfl)
theorem wml_X5_112 : Cond.methodLink RX5 112 yX0_isBusy ∈ lw_tbl := List.mem_append_right _ (List.mem_of_getElem? (i := 250) rfl)
theorem wim_X0_isBusy : Cond.instanceMethod yX0_isBusy ∈ lw_tbl := List.mem_append_right _ (List.mem_of_getElem? (i := 251) rfl)
theorem wse_X0_isBusy : Cond.selects RX0 yX0_isBusy yX0_isBusy ∈ lw_tbl := List.mem_append_right _ (List.mem_of_getElem? (i := 252) rfl)
theorem wco_X0_isBusy : Cond.code yX0_isBusy cX0_isBusy 1 (some .boolean) ∈ lw_tbl := List.mem_append_right _ (List.mem_of_getElem? (i := 253) rfl)
theorem wml_X5_119 : Cond.methodLink RX5 119 yX5_finishMilking ∈ lw_tbl := List.mem_append_right _ (List.mem_of_getElem? (i := 254) rfl)
theorem wim_X5_finishMilking : Cond.instanceMethod yX5_finishMilking ∈ lw_tbl := List.mem_append_right _ (List.mem_of_getElem? (i := 256) rfl)
theorem wco_X5_finishMilking : Cond.code yX5_finishMilking cX5_finishMilking 5 none ∈ lw_tbl := List.mem_append_right _ (List.mem_of_getElem? (i := 257) rfl)
theorem wml_X5_236 : Cond.methodLink RX5 236 yX0_milkedBy ∈ lw_tbl := List.mem_append_right _ (List.mem_of_getElem? (i := 258) rfl)
theorem wim_X0_milkedBy : Cond.instanceMethod yX0_milkedBy ∈ lw_tbl := List.mem_append_right _ (List.mem_of_getElem? (i := 259) rfl)
theorem wse_X0_milkedBy : Cond.selects RX0 yX0_milkedBy yX0_milkedBy ∈ lw_tbl := List.mem_append_right _ (List.mem_of_getElem? (i := 260) rfl)
theorem wco_X0_milkedBy : Cond.code yX0_milkedBy cX0_milkedBy 2 (some .int) ∈ lw_tbl := List.mem_append_right _ (List.mem_of_getElem? (i := 261) rfl)
theorem wml_X0_58 : Cond.methodLink RX0 58 Lib.Math.max.name ∈ lw_tbl := List.mem_append_right _ (List.mem_of_getElem? (i := 262) rfl)
theorem wst_Lib_Math_max_name : Cond.static Lib.Math.max.name ∈ lw_tbl := List.mem_append_right _ (List.mem_of_getElem? (i := 263) rfl)
theorem wco_Lib_Math_max_name : Cond.code Lib.Math.max.name Lib.Math.max.code 2 (some .int) ∈ lw_tbl := List.mem_append_right _ (List.mem_of_getElem? (i := 264) rfl)
theorem wml_X0_40 : Cond.methodLink RX0 40 Lib.Math.min.name ∈ lw_tbl := List.mem_append_right _ (List.mem_of_getElem? (i := 265) rfl)
theorem wml_X5_245 : Cond.methodLink RX5 245 yX1_isWithheldAt ∈ lw_tbl := List.mem_append_right _ (List.mem_of_getElem? (i := 266) rfl)
theorem wim_X1_isWithheldAt : Cond.instanceMethod yX1_isWithheldAt ∈ lw_tbl := List.mem_append_right _ (List.mem_of_getElem? (i := 267) rfl)
theorem wse_X1_isWithheldAt : Cond.selects RX1 yX1_isWithheldAt yX1_isWithheldAt ∈ lw_tbl := List.mem_append_right _ (List.mem_of_getElem? (i := 268) rfl)
theorem wco_X1_isWithheldAt : Cond.code yX1_isWithheldAt cX1_isWithheldAt 2 (some .boolean) ∈ lw_tbl := List.mem_append_right _ (List.mem_of_getElem? (i := 269) rfl)
theorem wml_X5_248 : Cond.methodLink RX5 248 yX3_put ∈ lw_tbl := List.mem_append_right _ (List.mem_of_getElem? (i := 270) rfl)
theorem wim_X3_put : Cond.instanceMethod yX3_put ∈ lw_tbl := List.mem_append_right _ (List.mem_of_getElem? (i := 271) rfl)
theorem wse_X3_put : Cond.selects RX3 yX3_put yX3_put ∈ lw_tbl := List.mem_append_right _ (List.mem_of_getElem? (i := 272) rfl)
theorem wco_X3_put : Cond.code yX3_put cX3_put 3 (some .int) ∈ lw_tbl := List.mem_append_right _ (List.mem_of_getElem? (i := 273) rfl)
theorem wml_X5_255 : Cond.methodLink RX5 255 yX1_feedFor ∈ lw_tbl := List.mem_append_right _ (List.mem_of_getElem? (i := 274) rfl)
theorem wim_X1_feedFor : Cond.instanceMethod yX1_feedFor ∈ lw_tbl := List.mem_append_right _ (List.mem_of_getElem? (i := 275) rfl)
theorem wse_X1_feedFor : Cond.selects RX1 yX1_feedFor yX1_feedFor ∈ lw_tbl := List.mem_append_right _ (List.mem_of_getElem? (i := 276) rfl)
theorem wco_X1_feedFor : Cond.code yX1_feedFor cX1_feedFor 5 (some .int) ∈ lw_tbl := List.mem_append_right _ (List.mem_of_getElem? (i := 277) rfl)
theorem wml_X1_59 : Cond.methodLink RX1 59 yX1_fedOn ∈ lw_tbl := List.mem_append_right _ (List.mem_of_getElem? (i := 278) rfl)
theorem wml_X5_123 : Cond.methodLink RX5 123 yX5_fillBox ∈ lw_tbl := List.mem_append_right _ (List.mem_of_getElem? (i := 279) rfl)
theorem wim_X5_fillBox : Cond.instanceMethod yX5_fillBox ∈ lw_tbl := List.mem_append_right _ (List.mem_of_getElem? (i := 281) rfl)
theorem wco_X5_fillBox : Cond.code yX5_fillBox cX5_fillBox 3 none ∈ lw_tbl := List.mem_append_right _ (List.mem_of_getElem? (i := 282) rfl)
theorem wml_X5_218 : Cond.methodLink RX5 218 yX2_takeNext ∈ lw_tbl := List.mem_append_right _ (List.mem_of_getElem? (i := 283) rfl)
theorem wim_X2_takeNext : Cond.instanceMethod yX2_takeNext ∈ lw_tbl := List.mem_append_right _ (List.mem_of_getElem? (i := 284) rfl)
theorem wse_X2_takeNext : Cond.selects RX2 yX2_takeNext yX2_takeNext ∈ lw_tbl := List.mem_append_right _ (List.mem_of_getElem? (i := 285) rfl)
theorem wco_X2_takeNext : Cond.code yX2_takeNext cX2_takeNext 4 (some (.object "MilkBox$Visit")) ∈ lw_tbl := List.mem_append_right _ (List.mem_of_getElem? (i := 286) rfl)
theorem wml_X2_28 : Cond.methodLink RX2 28 yX2_choose ∈ lw_tbl := List.mem_append_right _ (List.mem_of_getElem? (i := 287) rfl)
theorem wim_X2_choose : Cond.instanceMethod yX2_choose ∈ lw_tbl := List.mem_append_right _ (List.mem_of_getElem? (i := 289) rfl)
theorem wco_X2_choose : Cond.code yX2_choose cX2_choose 4 (some .int) ∈ lw_tbl := List.mem_append_right _ (List.mem_of_getElem? (i := 290) rfl)
theorem wml_X2_32 : Cond.methodLink RX2 32 yX2_closeUp ∈ lw_tbl := List.mem_append_right _ (List.mem_of_getElem? (i := 291) rfl)
theorem wim_X2_closeUp : Cond.instanceMethod yX2_closeUp ∈ lw_tbl := List.mem_append_right _ (List.mem_of_getElem? (i := 293) rfl)
theorem wco_X2_closeUp : Cond.code yX2_closeUp cX2_closeUp 3 none ∈ lw_tbl := List.mem_append_right _ (List.mem_of_getElem? (i := 294) rfl)
theorem wml_X2_43 : Cond.methodLink RX2 43 Lib.Math.max.name ∈ lw_tbl := List.mem_append_right _ (List.mem_of_getElem? (i := 295) rfl)
theorem wml_X5_224 : Cond.methodLink RX5 224 Lib.Math.max.name ∈ lw_tbl := List.mem_append_right _ (List.mem_of_getElem? (i := 296) rfl)
theorem wml_X5_229 : Cond.methodLink RX5 229 yX0_begin ∈ lw_tbl := List.mem_append_right _ (List.mem_of_getElem? (i := 297) rfl)
theorem wim_X0_begin : Cond.instanceMethod yX0_begin ∈ lw_tbl := List.mem_append_right _ (List.mem_of_getElem? (i := 298) rfl)
theorem wse_X0_begin : Cond.selects RX0 yX0_begin yX0_begin ∈ lw_tbl := List.mem_append_right _ (List.mem_of_getElem? (i := 299) rfl)
theorem wco_X0_begin : Cond.code yX0_begin cX0_begin 7 none ∈ lw_tbl := List.mem_append_right _ (List.mem_of_getElem? (i := 300) rfl)
set_option maxRecDepth 20000 in
theorem wml_X0_21 : Cond.methodLink RX0 21 yX1_milkAt ∈ lw_tbl := List.mem_append_right _ (List.mem_of_getElem? (i := 301) rfl)
set_option maxRecDepth 20000 in
theorem wml_X0_46 : Cond.methodLink RX0 46 yX0_milkOfTeat ∈ lw_tbl := List.mem_append_right _ (List.mem_of_getElem? (i := 302) rfl)
set_option maxRecDepth 20000 in
theorem wim_X0_milkOfTeat : Cond.instanceMethod yX0_milkOfTeat ∈ lw_tbl := List.mem_append_right _ (List.mem_of_getElem? (i := 304) rfl)
set_option maxRecDepth 20000 in
theorem wco_X0_milkOfTeat : Cond.code yX0_milkOfTeat cX0_milkOfTeat 3 (some .int) ∈ lw_tbl := List.mem_append_right _ (List.mem_of_getElem? (i := 305) rfl)
set_option maxRecDepth 20000 in
theorem wml_X5_233 : Cond.methodLink RX5 233 yX1_beginMilking ∈ lw_tbl := List.mem_append_right _ (List.mem_of_getElem? (i := 306) rfl)
set_option maxRecDepth 20000 in
theorem wim_X1_beginMilking : Cond.instanceMethod yX1_beginMilking ∈ lw_tbl := List.mem_append_right _ (List.mem_of_getElem? (i := 307) rfl)
set_option maxRecDepth 20000 in
theorem wse_X1_beginMilking : Cond.selects RX1 yX1_beginMilking yX1_beginMilking ∈ lw_tbl := List.mem_append_right _ (List.mem_of_getElem? (i := 308) rfl)
set_option maxRecDepth 20000 in
theorem wco_X1_beginMilking : Cond.code yX1_beginMilking cX1_beginMilking 3 none ∈ lw_tbl := List.mem_append_right _ (List.mem_of_getElem? (i := 309) rfl)
set_option maxRecDepth 20000 in
theorem wml_L_41 : Cond.methodLink RL 41 yX5_come ∈ lw_tbl := List.mem_append_right _ (List.mem_of_getElem? (i := 310) rfl)
set_option maxRecDepth 20000 in
theorem wim_X5_come : Cond.instanceMethod yX5_come ∈ lw_tbl := List.mem_append_right _ (List.mem_of_getElem? (i := 311) rfl)
set_option maxRecDepth 20000 in
theorem wse_X5_come : Cond.selects RX5 yX5_come yX5_come ∈ lw_tbl := List.mem_append_right _ (List.mem_of_getElem? (i := 312) rfl)
set_option maxRecDepth 20000 in
theorem wco_X5_come : Cond.code yX5_come cX5_come 6 (some .int) ∈ lw_tbl := List.mem_append_right _ (List.mem_of_getElem? (i := 313) rfl)
set_option maxRecDepth 20000 in
theorem wml_X5_126 : Cond.methodLink RX5 126 yX0_holds ∈ lw_tbl := List.mem_append_right _ (List.mem_of_getElem? (i := 314) rfl)
set_option maxRecDepth 20000 in
theorem wim_X0_holds : Cond.instanceMethod yX0_holds ∈ lw_tbl := List.mem_append_right _ (List.mem_of_getElem? (i := 315) rfl)
set_option maxRecDepth 20000 in
theorem wse_X0_holds : Cond.selects RX0 yX0_holds yX0_holds ∈ lw_tbl := List.mem_append_right _ (List.mem_of_getElem? (i := 316) rfl)
set_option maxRecDepth 20000 in
theorem wco_X0_holds : Cond.code yX0_holds cX0_holds 3 (some .boolean) ∈ lw_tbl := List.mem_append_right _ (List.mem_of_getElem? (i := 317) rfl)
set_option maxRecDepth 20000 in
theorem wis_X4 : Cond.instantiable RX4 12 ∈ lw_tbl := List.mem_append_right _ (List.mem_of_getElem? (i := 318) rfl)
set_option maxRecDepth 20000 in
theorem wml_X5_132 : Cond.methodLink RX5 132 yX1_isAlarming ∈ lw_tbl := List.mem_append_right _ (List.mem_of_getElem? (i := 319) rfl)
set_option maxRecDepth 20000 in
theorem wim_X1_isAlarming : Cond.instanceMethod yX1_isAlarming ∈ lw_tbl := List.mem_append_right _ (List.mem_of_getElem? (i := 320) rfl)
set_option maxRecDepth 20000 in
theorem wse_X1_isAlarming : Cond.selects RX1 yX1_isAlarming yX1_isAlarming ∈ lw_tbl := List.mem_append_right _ (List.mem_of_getElem? (i := 321) rfl)
set_option maxRecDepth 20000 in
theorem wco_X1_isAlarming : Cond.code yX1_isAlarming cX1_isAlarming 4 (some .boolean) ∈ lw_tbl := List.mem_append_right _ (List.mem_of_getElem? (i := 322) rfl)
set_option maxRecDepth 20000 in
theorem wml_X5_135 : Cond.methodLink RX5 135 yX4_init ∈ lw_tbl := List.mem_append_right _ (List.mem_of_getElem? (i := 323) rfl)
set_option maxRecDepth 20000 in
theorem wim_X4_init : Cond.instanceMethod yX4_init ∈ lw_tbl := List.mem_append_right _ (List.mem_of_getElem? (i := 324) rfl)
set_option maxRecDepth 20000 in
theorem wco_X4_init : Cond.code yX4_init cX4_init 6 none ∈ lw_tbl := List.mem_append_right _ (List.mem_of_getElem? (i := 325) rfl)
set_option maxRecDepth 20000 in
theorem wml_X4_3 : Cond.methodLink RX4 3 objectInit ∈ lw_tbl := List.mem_append_right _ (List.mem_of_getElem? (i := 326) rfl)
set_option maxRecDepth 20000 in
theorem wfl_X4_33 : Cond.fieldLink RX4 33 "MilkBox$Visit" "cow" "I" ∈ lw_tbl := List.mem_append_right _ (List.mem_of_getElem? (i := 327) rfl)
set_option maxRecDepth 20000 in
theorem wfl_X0_15 : Cond.fieldLink RX0 15 "MilkBox$Visit" "cow" "I" ∈ lw_tbl := List.mem_append_right _ (List.mem_of_getElem? (i := 328) rfl)
set_option maxRecDepth 20000 in
theorem wfl_X2_25 : Cond.fieldLink RX2 25 "MilkBox$Visit" "cow" "I" ∈ lw_tbl := List.mem_append_right _ (List.mem_of_getElem? (i := 329) rfl)
set_option maxRecDepth 20000 in
theorem wfl_X5_159 : Cond.fieldLink RX5 159 "MilkBox$Visit" "cow" "I" ∈ lw_tbl := List.mem_append_right _ (List.mem_of_getElem? (i := 330) rfl)
set_option maxRecDepth 20000 in
theorem wfl_X4_36 : Cond.fieldLink RX4 36 "MilkBox$Visit" "shy" "Z" ∈ lw_tbl := List.mem_append_right _ (List.mem_of_getElem? (i := 331) rfl)
set_option maxRecDepth 20000 in
theorem wfl_X2_36 : Cond.fieldLink RX2 36 "MilkBox$Visit" "shy" "Z" ∈ lw_tbl := List.mem_append_right _ (List.mem_of_getElem? (i := 332) rfl)
set_option maxRecDepth 20000 in
theorem wfl_X4_40 : Cond.fieldLink RX4 40 "MilkBox$Visit" "minute" "I" ∈ lw_tbl := List.mem_append_right _ (List.mem_of_getElem? (i := 333) rfl)
set_option maxRecDepth 20000 in
theorem wfl_X2_40 : Cond.fieldLink RX2 40 "MilkBox$Visit" "minute" "I" ∈ lw_tbl := List.mem_append_right _ (List.mem_of_getElem? (i := 334) rfl)
set_option maxRecDepth 20000 in
theorem wfl_X5_221 : Cond.fieldLink RX5 221 "MilkBox$Visit" "minute" "I" ∈ lw_tbl := List.mem_append_right _ (List.mem_of_getElem? (i := 335) rfl)
set_option maxRecDepth 20000 in
theorem wfl_X4_43 : Cond.fieldLink RX4 43 "MilkBox$Visit" "reading" "I" ∈ lw_tbl := List.mem_append_right _ (List.mem_of_getElem? (i := 336) rfl)
set_option maxRecDepth 20000 in
theorem wfl_X4_46 : Cond.fieldLink RX4 46 "MilkBox$Visit" "alarm" "Z" ∈ lw_tbl := List.mem_append_right _ (List.mem_of_getElem? (i := 337) rfl)
set_option maxRecDepth 20000 in
theorem wfl_X5_141 : Cond.fieldLink RX5 141 "MilkBox$Visit" "alarm" "Z" ∈ lw_tbl := List.mem_append_right _ (List.mem_of_getElem? (i := 338) rfl)
set_option maxRecDepth 20000 in
theorem wfl_X4_9 : Cond.fieldLink RX4 9 "MilkBox$Visit" "kind" "I" ∈ lw_tbl := List.mem_append_right _ (List.mem_of_getElem? (i := 339) rfl)
set_option maxRecDepth 20000 in
theorem wfl_X5_151 : Cond.fieldLink RX5 151 "MilkBox$Visit" "kind" "I" ∈ lw_tbl := List.mem_append_right _ (List.mem_of_getElem? (i := 340) rfl)
set_option maxRecDepth 20000 in
theorem wfl_X4_15 : Cond.fieldLink RX4 15 "MilkBox$Visit" "began" "I" ∈ lw_tbl := List.mem_append_right _ (List.mem_of_getElem? (i := 341) rfl)
set_option maxRecDepth 20000 in
theorem wfl_X0_52 : Cond.fieldLink RX0 52 "MilkBox$Visit" "began" "I" ∈ lw_tbl := List.mem_append_right _ (List.mem_of_getElem? (i := 342) rfl)
set_option maxRecDepth 20000 in
theorem wfl_X4_18 : Cond.fieldLink RX4 18 "MilkBox$Visit" "ended" "I" ∈ lw_tbl := List.mem_append_right _ (List.mem_of_getElem? (i := 343) rfl)
set_option maxRecDepth 20000 in
theorem wfl_X5_242 : Cond.fieldLink RX5 242 "MilkBox$Visit" "ended" "I" ∈ lw_tbl := List.mem_append_right _ (List.mem_of_getElem? (i := 344) rfl)
set_option maxRecDepth 20000 in
theorem wfl_X4_21 : Cond.fieldLink RX4 21 "MilkBox$Visit" "milked" "I" ∈ lw_tbl := List.mem_append_right _ (List.mem_of_getElem? (i := 345) rfl)
set_option maxRecDepth 20000 in
theorem wfl_X5_205 : Cond.fieldLink RX5 205 "MilkBox$Visit" "milked" "I" ∈ lw_tbl := List.mem_append_right _ (List.mem_of_getElem? (i := 346) rfl)
set_option maxRecDepth 20000 in
theorem wfl_X4_24 : Cond.fieldLink RX4 24 "MilkBox$Visit" "went" "I" ∈ lw_tbl := List.mem_append_right _ (List.mem_of_getElem? (i := 347) rfl)
set_option maxRecDepth 20000 in
theorem wfl_X5_252 : Cond.fieldLink RX5 252 "MilkBox$Visit" "went" "I" ∈ lw_tbl := List.mem_append_right _ (List.mem_of_getElem? (i := 348) rfl)
set_option maxRecDepth 20000 in
theorem wfl_X4_27 : Cond.fieldLink RX4 27 "MilkBox$Visit" "lost" "I" ∈ lw_tbl := List.mem_append_right _ (List.mem_of_getElem? (i := 349) rfl)
set_option maxRecDepth 20000 in
theorem wfl_X0_55 : Cond.fieldLink RX0 55 "MilkBox$Visit" "lost" "I" ∈ lw_tbl := List.mem_append_right _ (List.mem_of_getElem? (i := 350) rfl)
set_option maxRecDepth 20000 in
theorem wfl_X4_30 : Cond.fieldLink RX4 30 "MilkBox$Visit" "feed" "I" ∈ lw_tbl := List.mem_append_right _ (List.mem_of_getElem? (i := 351) rfl)
set_option maxRecDepth 20000 in
theorem wfl_X5_258 : Cond.fieldLink RX5 258 "MilkBox$Visit" "feed" "I" ∈ lw_tbl := List.mem_append_right _ (List.mem_of_getElem? (i := 352) rfl)
set_option maxRecDepth 20000 in
theorem wml_X5_138 : Cond.methodLink RX5 138 yX1_keepReading ∈ lw_tbl := List.mem_append_right _ (List.mem_of_getElem? (i := 378) rfl)
set_option maxRecDepth 20000 in
theorem wim_X1_keepReading : Cond.instanceMethod yX1_keepReading ∈ lw_tbl := List.mem_append_right _ (List.mem_of_getElem? (i := 379) rfl)
set_option maxRecDepth 20000 in
theorem wse_X1_keepReading : Cond.selects RX1 yX1_keepReading yX1_keepReading ∈ lw_tbl := List.mem_append_right _ (List.mem_of_getElem? (i := 380) rfl)
set_option maxRecDepth 20000 in
theorem wco_X1_keepReading : Cond.code yX1_keepReading cX1_keepReading 3 none ∈ lw_tbl := List.mem_append_right _ (List.mem_of_getElem? (i := 381) rfl)
set_option maxRecDepth 20000 in
theorem wml_X5_147 : Cond.methodLink RX5 147 yX2_addLast ∈ lw_tbl := List.mem_append_right _ (List.mem_of_getElem? (i := 382) rfl)
set_option maxRecDepth 20000 in
theorem wim_X2_addLast : Cond.instanceMethod yX2_addLast ∈ lw_tbl := List.mem_append_right _ (List.mem_of_getElem? (i := 383) rfl)
set_option maxRecDepth 20000 in
theorem wse_X2_addLast : Cond.selects RX2 yX2_addLast yX2_addLast ∈ lw_tbl := List.mem_append_right _ (List.mem_of_getElem? (i := 384) rfl)
set_option maxRecDepth 20000 in
theorem wco_X2_addLast : Cond.code yX2_addLast cX2_addLast 2 none ∈ lw_tbl := List.mem_append_right _ (List.mem_of_getElem? (i := 385) rfl)
set_option maxRecDepth 20000 in
theorem wml_L_45 : Cond.methodLink RL 45 yX5_power ∈ lw_tbl := List.mem_append_right _ (List.mem_of_getElem? (i := 386) rfl)
set_option maxRecDepth 20000 in
theorem wim_X5_power : Cond.instanceMethod yX5_power ∈ lw_tbl := List.mem_append_right _ (List.mem_of_getElem? (i := 387) rfl)
set_option maxRecDepth 20000 in
theorem wse_X5_power : Cond.selects RX5 yX5_power yX5_power ∈ lw_tbl := List.mem_append_right _ (List.mem_of_getElem? (i := 388) rfl)
set_option maxRecDepth 20000 in
theorem wco_X5_power : Cond.code yX5_power cX5_power 3 (some .int) ∈ lw_tbl := List.mem_append_right _ (List.mem_of_getElem? (i := 389) rfl)
set_option maxRecDepth 20000 in
theorem wml_L_50 : Cond.methodLink RL 50 yX5_box ∈ lw_tbl := List.mem_append_right _ (List.mem_of_getElem? (i := 390) rfl)
set_option maxRecDepth 20000 in
theorem wim_X5_box : Cond.instanceMethod yX5_box ∈ lw_tbl := List.mem_append_right _ (List.mem_of_getElem? (i := 391) rfl)
set_option maxRecDepth 20000 in
theorem wse_X5_box : Cond.selects RX5 yX5_box yX5_box ∈ lw_tbl := List.mem_append_right _ (List.mem_of_getElem? (i := 392) rfl)
set_option maxRecDepth 20000 in
theorem wco_X5_box : Cond.code yX5_box cX5_box 2 (some .int) ∈ lw_tbl := List.mem_append_right _ (List.mem_of_getElem? (i := 393) rfl)
set_option maxRecDepth 20000 in
theorem wml_L_55 : Cond.methodLink RL 55 yX5_queue ∈ lw_tbl := List.mem_append_right _ (List.mem_of_getElem? (i := 394) rfl)
set_option maxRecDepth 20000 in
theorem wim_X5_queue : Cond.instanceMethod yX5_queue ∈ lw_tbl := List.mem_append_right _ (List.mem_of_getElem? (i := 395) rfl)
set_option maxRecDepth 20000 in
theorem wse_X5_queue : Cond.selects RX5 yX5_queue yX5_queue ∈ lw_tbl := List.mem_append_right _ (List.mem_of_getElem? (i := 396) rfl)
set_option maxRecDepth 20000 in
theorem wco_X5_queue : Cond.code yX5_queue cX5_queue 3 (some .int) ∈ lw_tbl := List.mem_append_right _ (List.mem_of_getElem? (i := 397) rfl)
set_option maxRecDepth 20000 in
theorem wml_X5_162 : Cond.methodLink RX5 162 yX2_at ∈ lw_tbl := List.mem_append_right _ (List.mem_of_getElem? (i := 398) rfl)
set_option maxRecDepth 20000 in
theorem wml_L_59 : Cond.methodLink RL 59 yX5_ends ∈ lw_tbl := List.mem_append_right _ (List.mem_of_getElem? (i := 399) rfl)
set_option maxRecDepth 20000 in
theorem wim_X5_ends : Cond.instanceMethod yX5_ends ∈ lw_tbl := List.mem_append_right _ (List.mem_of_getElem? (i := 400) rfl)
set_option maxRecDepth 20000 in
theorem wse_X5_ends : Cond.selects RX5 yX5_ends yX5_ends ∈ lw_tbl := List.mem_append_right _ (List.mem_of_getElem? (i := 401) rfl)
set_option maxRecDepth 20000 in
theorem wco_X5_ends : Cond.code yX5_ends cX5_ends 1 (some .int) ∈ lw_tbl := List.mem_append_right _ (List.mem_of_getElem? (i := 402) rfl)
set_option maxRecDepth 20000 in
theorem wml_L_63 : Cond.methodLink RL 63 yX5_room ∈ lw_tbl := List.mem_append_right _ (List.mem_of_getElem? (i := 403) rfl)
set_option maxRecDepth 20000 in
theorem wim_X5_room : Cond.instanceMethod yX5_room ∈ lw_tbl := List.mem_append_right _ (List.mem_of_getElem? (i := 404) rfl)
set_option maxRecDepth 20000 in
theorem wse_X5_room : Cond.selects RX5 yX5_room yX5_room ∈ lw_tbl := List.mem_append_right _ (List.mem_of_getElem? (i := 405) rfl)
set_option maxRecDepth 20000 in
theorem wco_X5_room : Cond.code yX5_room cX5_room 3 (some .int) ∈ lw_tbl := List.mem_append_right _ (List.mem_of_getElem? (i := 406) rfl)
set_option maxRecDepth 20000 in
theorem wml_L_67 : Cond.methodLink RL 67 yX5_pick ∈ lw_tbl := List.mem_append_right _ (List.mem_of_getElem? (i := 407) rfl)
set_option maxRecDepth 20000 in
theorem wim_X5_pick : Cond.instanceMethod yX5_pick ∈ lw_tbl := List.mem_append_right _ (List.mem_of_getElem? (i := 408) rfl)
set_option maxRecDepth 20000 in
theorem wse_X5_pick : Cond.selects RX5 yX5_pick yX5_pick ∈ lw_tbl := List.mem_append_right _ (List.mem_of_getElem? (i := 409) rfl)
set_option maxRecDepth 20000 in
theorem wco_X5_pick : Cond.code yX5_pick cX5_pick 2 (some .int) ∈ lw_tbl := List.mem_append_right _ (List.mem_of_getElem? (i := 410) rfl)
set_option maxRecDepth 20000 in
theorem wml_X5_172 : Cond.methodLink RX5 172 yX3_takeAway ∈ lw_tbl := List.mem_append_right _ (List.mem_of_getElem? (i := 411) rfl)
set_option maxRecDepth 20000 in
theorem wim_X3_takeAway : Cond.instanceMethod yX3_takeAway ∈ lw_tbl := List.mem_append_right _ (List.mem_of_getElem? (i := 412) rfl)
set_option maxRecDepth 20000 in
theorem wse_X3_takeAway : Cond.selects RX3 yX3_takeAway yX3_takeAway ∈ lw_tbl := List.mem_append_right _ (List.mem_of_getElem? (i := 413) rfl)
set_option maxRecDepth 20000 in
theorem wco_X3_takeAway : Cond.code yX3_takeAway cX3_takeAway 3 (some .int) ∈ lw_tbl := List.mem_append_right _ (List.mem_of_getElem? (i := 414) rfl)
set_option maxRecDepth 20000 in
theorem wml_X3_24 : Cond.methodLink RX3 24 Lib.Math.min.name ∈ lw_tbl := List.mem_append_right _ (List.mem_of_getElem? (i := 415) rfl)
set_option maxRecDepth 20000 in
theorem wml_L_71 : Cond.methodLink RL 71 yX5_total ∈ lw_tbl := List.mem_append_right _ (List.mem_of_getElem? (i := 416) rfl)
set_option maxRecDepth 20000 in
theorem wim_X5_total : Cond.instanceMethod yX5_total ∈ lw_tbl := List.mem_append_right _ (List.mem_of_getElem? (i := 417) rfl)
set_option maxRecDepth 20000 in
theorem wse_X5_total : Cond.selects RX5 yX5_total yX5_total ∈ lw_tbl := List.mem_append_right _ (List.mem_of_getElem? (i := 418) rfl)
set_option maxRecDepth 20000 in
theorem wco_X5_total : Cond.code yX5_total cX5_total 2 (some .int) ∈ lw_tbl := List.mem_append_right _ (List.mem_of_getElem? (i := 419) rfl)
set_option maxRecDepth 20000 in
theorem wml_L_75 : Cond.methodLink RL 75 yX5_visit ∈ lw_tbl := List.mem_append_right _ (List.mem_of_getElem? (i := 420) rfl)
set_option maxRecDepth 20000 in
theorem wim_X5_visit : Cond.instanceMethod yX5_visit ∈ lw_tbl := List.mem_append_right _ (List.mem_of_getElem? (i := 421) rfl)
set_option maxRecDepth 20000 in
theorem wse_X5_visit : Cond.selects RX5 yX5_visit yX5_visit ∈ lw_tbl := List.mem_append_right _ (List.mem_of_getElem? (i := 422) rfl)
set_option maxRecDepth 20000 in
theorem wco_X5_visit : Cond.code yX5_visit cX5_visit 5 (some .int) ∈ lw_tbl := List.mem_append_right _ (List.mem_of_getElem? (i := 423) rfl)
set_option maxRecDepth 20000 in
theorem wml_X5_193 : Cond.methodLink RX5 193 yX5_visitAt ∈ lw_tbl := List.mem_append_right _ (List.mem_of_getElem? (i := 424) rfl)
set_option maxRecDepth 20000 in
theorem wim_X5_visitAt : Cond.instanceMethod yX5_visitAt ∈ lw_tbl := List.mem_append_right _ (List.mem_of_getElem? (i := 426) rfl)
set_option maxRecDepth 20000 in
theorem wco_X5_visitAt : Cond.code yX5_visitAt cX5_visitAt 2 (some (.object "MilkBox$Visit")) ∈ lw_tbl := List.mem_append_right _ (List.mem_of_getElem? (i := 427) rfl)
set_option maxRecDepth 20000 in
theorem wml_X5_196 : Cond.methodLink RX5 196 yX4_isOfKind ∈ lw_tbl := List.mem_append_right _ (List.mem_of_getElem? (i := 428) rfl)
set_option maxRecDepth 20000 in
theorem wim_X4_isOfKind : Cond.instanceMethod yX4_isOfKind ∈ lw_tbl := List.mem_append_right _ (List.mem_of_getElem? (i := 429) rfl)
set_option maxRecDepth 20000 in
theorem wse_X4_isOfKind : Cond.selects RX4 yX4_isOfKind yX4_isOfKind ∈ lw_tbl := List.mem_append_right _ (List.mem_of_getElem? (i := 430) rfl)
set_option maxRecDepth 20000 in
theorem wco_X4_isOfKind : Cond.code yX4_isOfKind cX4_isOfKind 2 (some .boolean) ∈ lw_tbl := List.mem_append_right _ (List.mem_of_getElem? (i := 431) rfl)
set_option maxRecDepth 20000 in
theorem wml_X5_199 : Cond.methodLink RX5 199 yX4_tell ∈ lw_tbl := List.mem_append_right _ (List.mem_of_getElem? (i := 432) rfl)
set_option maxRecDepth 20000 in
theorem wim_X4_tell : Cond.instanceMethod yX4_tell ∈ lw_tbl := List.mem_append_right _ (List.mem_of_getElem? (i := 433) rfl)
set_option maxRecDepth 20000 in
theorem wse_X4_tell : Cond.selects RX4 yX4_tell yX4_tell ∈ lw_tbl := List.mem_append_right _ (List.mem_of_getElem? (i := 434) rfl)
set_option maxRecDepth 20000 in
theorem wco_X4_tell : Cond.code yX4_tell cX4_tell 2 (some .int) ∈ lw_tbl := List.mem_append_right _ (List.mem_of_getElem? (i := 435) rfl)
set_option maxRecDepth 20000 in
theorem wmn_X4_49 : Cond.methodLinkNest RX4 49 yX5_asNumber "MilkBox" ∈ lw_tbl := List.mem_append_right _ (List.mem_of_getElem? (i := 436) rfl)
set_option maxRecDepth 20000 in
theorem wml_L_79 : Cond.methodLink RL 79 yX5_visitOf ∈ lw_tbl := List.mem_append_right _ (List.mem_of_getElem? (i := 437) rfl)
set_option maxRecDepth 20000 in
theorem wim_X5_visitOf : Cond.instanceMethod yX5_visitOf ∈ lw_tbl := List.mem_append_right _ (List.mem_of_getElem? (i := 438) rfl)
set_option maxRecDepth 20000 in
theorem wse_X5_visitOf : Cond.selects RX5 yX5_visitOf yX5_visitOf ∈ lw_tbl := List.mem_append_right _ (List.mem_of_getElem? (i := 439) rfl)
set_option maxRecDepth 20000 in
theorem wco_X5_visitOf : Cond.code yX5_visitOf cX5_visitOf 6 (some .int) ∈ lw_tbl := List.mem_append_right _ (List.mem_of_getElem? (i := 440) rfl)
set_option maxRecDepth 20000 in
theorem wml_L_83 : Cond.methodLink RL 83 yX5_gave ∈ lw_tbl := List.mem_append_right _ (List.mem_of_getElem? (i := 441) rfl)
set_option maxRecDepth 20000 in
theorem wim_X5_gave : Cond.instanceMethod yX5_gave ∈ lw_tbl := List.mem_append_right _ (List.mem_of_getElem? (i := 442) rfl)
set_option maxRecDepth 20000 in
theorem wse_X5_gave : Cond.selects RX5 yX5_gave yX5_gave ∈ lw_tbl := List.mem_append_right _ (List.mem_of_getElem? (i := 443) rfl)
set_option maxRecDepth 20000 in
theorem wco_X5_gave : Cond.code yX5_gave cX5_gave 6 (some .int) ∈ lw_tbl := List.mem_append_right _ (List.mem_of_getElem? (i := 444) rfl)
set_option maxRecDepth 20000 in
theorem wml_X5_202 : Cond.methodLink RX5 202 yX4_endedOn ∈ lw_tbl := List.mem_append_right _ (List.mem_of_getElem? (i := 445) rfl)
set_option maxRecDepth 20000 in
theorem wim_X4_endedOn : Cond.instanceMethod yX4_endedOn ∈ lw_tbl := List.mem_append_right _ (List.mem_of_getElem? (i := 446) rfl)
set_option maxRecDepth 20000 in
theorem wse_X4_endedOn : Cond.selects RX4 yX4_endedOn yX4_endedOn ∈ lw_tbl := List.mem_append_right _ (List.mem_of_getElem? (i := 447) rfl)
set_option maxRecDepth 20000 in
theorem wco_X4_endedOn : Cond.code yX4_endedOn cX4_endedOn 2 (some .boolean) ∈ lw_tbl := List.mem_append_right _ (List.mem_of_getElem? (i := 448) rfl)
set_option maxRecDepth 20000 in
theorem wml_L_87 : Cond.methodLink RL 87 yX5_longest ∈ lw_tbl := List.mem_append_right _ (List.mem_of_getElem? (i := 449) rfl)
set_option maxRecDepth 20000 in
theorem wim_X5_longest : Cond.instanceMethod yX5_longest ∈ lw_tbl := List.mem_append_right _ (List.mem_of_getElem? (i := 450) rfl)
set_option maxRecDepth 20000 in
theorem wse_X5_longest : Cond.selects RX5 yX5_longest yX5_longest ∈ lw_tbl := List.mem_append_right _ (List.mem_of_getElem? (i := 451) rfl)
set_option maxRecDepth 20000 in
theorem wco_X5_longest : Cond.code yX5_longest cX5_longest 1 (some .int) ∈ lw_tbl := List.mem_append_right _ (List.mem_of_getElem? (i := 452) rfl)
set_option maxRecDepth 20000 in
theorem wml_L_91 : Cond.methodLink RL 91 yX5_rank ∈ lw_tbl := List.mem_append_right _ (List.mem_of_getElem? (i := 453) rfl)
set_option maxRecDepth 20000 in
theorem wim_X5_rank : Cond.instanceMethod yX5_rank ∈ lw_tbl := List.mem_append_right _ (List.mem_of_getElem? (i := 454) rfl)
set_option maxRecDepth 20000 in
theorem wse_X5_rank : Cond.selects RX5 yX5_rank yX5_rank ∈ lw_tbl := List.mem_append_right _ (List.mem_of_getElem? (i := 455) rfl)
set_option maxRecDepth 20000 in
theorem wco_X5_rank : Cond.code yX5_rank cX5_rank 3 (some .int) ∈ lw_tbl := List.mem_append_right _ (List.mem_of_getElem? (i := 456) rfl)
set_option maxRecDepth 20000 in
theorem wml_X5_211 : Cond.methodLink RX5 211 yX5_countAhead ∈ lw_tbl := List.mem_append_right _ (List.mem_of_getElem? (i := 457) rfl)
set_option maxRecDepth 20000 in
theorem wim_X5_countAhead : Cond.instanceMethod yX5_countAhead ∈ lw_tbl := List.mem_append_right _ (List.mem_of_getElem? (i := 459) rfl)
set_option maxRecDepth 20000 in
theorem wco_X5_countAhead : Cond.code yX5_countAhead cX5_countAhead 7 (some .int) ∈ lw_tbl := List.mem_append_right _ (List.mem_of_getElem? (i := 460) rfl)
set_option maxRecDepth 20000 in
theorem wml_L_95 : Cond.methodLink RL 95 yX5_until ∈ lw_tbl := List.mem_append_right _ (List.mem_of_getElem? (i := 461) rfl)
set_option maxRecDepth 20000 in
theorem wim_X5_until : Cond.instanceMethod yX5_until ∈ lw_tbl := List.mem_append_right _ (List.mem_of_getElem? (i := 462) rfl)
set_option maxRecDepth 20000 in
theorem wse_X5_until : Cond.selects RX5 yX5_until yX5_until ∈ lw_tbl := List.mem_append_right _ (List.mem_of_getElem? (i := 463) rfl)
set_option maxRecDepth 20000 in
theorem wco_X5_until : Cond.code yX5_until cX5_until 4 (some .int) ∈ lw_tbl := List.mem_append_right _ (List.mem_of_getElem? (i := 464) rfl)
set_option maxRecDepth 20000 in
theorem wml_X5_214 : Cond.methodLink RX5 214 yX1_minutesTo ∈ lw_tbl := List.mem_append_right _ (List.mem_of_getElem? (i := 465) rfl)
set_option maxRecDepth 20000 in
theorem wim_X1_minutesTo : Cond.instanceMethod yX1_minutesTo ∈ lw_tbl := List.mem_append_right _ (List.mem_of_getElem? (i := 466) rfl)
set_option maxRecDepth 20000 in
theorem wse_X1_minutesTo : Cond.selects RX1 yX1_minutesTo yX1_minutesTo ∈ lw_tbl := List.mem_append_right _ (List.mem_of_getElem? (i := 467) rfl)
set_option maxRecDepth 20000 in
theorem wco_X1_minutesTo : Cond.code yX1_minutesTo cX1_minutesTo 4 (some .int) ∈ lw_tbl := List.mem_append_right _ (List.mem_of_getElem? (i := 468) rfl)
set_option maxRecDepth 20000 in
theorem wml_X1_46 : Cond.methodLink RX1 46 yX1_milkAt ∈ lw_tbl := List.mem_append_right _ (List.mem_of_getElem? (i := 469) rfl)
set_option maxRecDepth 20000 in
theorem wcl_L_10 : Cond.classLink RL 10 RX6 ∈ lw_tbl := List.mem_append_right _ (List.mem_of_getElem? (i := 470) rfl)
set_option maxRecDepth 20000 in
theorem wis_X6 : Cond.instantiable RX6 43 ∈ lw_tbl := List.mem_append_right _ (List.mem_of_getElem? (i := 471) rfl)
set_option maxRecDepth 20000 in
theorem wml_L_12 : Cond.methodLink RL 12 yX6_init ∈ lw_tbl := List.mem_append_right _ (List.mem_of_getElem? (i := 472) rfl)
set_option maxRecDepth 20000 in
theorem wim_X6_init : Cond.instanceMethod yX6_init ∈ lw_tbl := List.mem_append_right _ (List.mem_of_getElem? (i := 473) rfl)
set_option maxRecDepth 20000 in
theorem wco_X6_init : Cond.code yX6_init cX6_init 1 none ∈ lw_tbl := List.mem_append_right _ (List.mem_of_getElem? (i := 474) rfl)
set_option maxRecDepth 20000 in
theorem wml_X6_1 : Cond.methodLink RX6 1 objectInit ∈ lw_tbl := List.mem_append_right _ (List.mem_of_getElem? (i := 475) rfl)
set_option maxRecDepth 20000 in
theorem wfl_X6_97 : Cond.fieldLink RX6 97 "MilkBoxModel" "thrown" "I" ∈ lw_tbl := List.mem_append_right _ (List.mem_of_getElem? (i := 476) rfl)
set_option maxRecDepth 20000 in
theorem wfl_X6_107 : Cond.fieldLink RX6 107 "MilkBoxModel" "clock" "I" ∈ lw_tbl := List.mem_append_right _ (List.mem_of_getElem? (i := 477) rfl)
set_option maxRecDepth 20000 in
theorem wfl_X6_7 : Cond.fieldLink RX6 7 "MilkBoxModel" "isOn" "Z" ∈ lw_tbl := List.mem_append_right _ (List.mem_of_getElem? (i := 478) rfl)
set_option maxRecDepth 20000 in
theorem wfl_X6_100 : Cond.fieldLink RX6 100 "MilkBoxModel" "cows" "I" ∈ lw_tbl := List.mem_append_right _ (List.mem_of_getElem? (i := 479) rfl)
set_option maxRecDepth 20000 in
theorem wfl_X6_13 : Cond.fieldLink RX6 13 "MilkBoxModel" "kind" "[I" ∈ lw_tbl := List.mem_append_right _ (List.mem_of_getElem? (i := 480) rfl)
set_option maxRecDepth 20000 in
theorem wfl_X6_17 : Cond.fieldLink RX6 17 "MilkBoxModel" "rate" "[I" ∈ lw_tbl := List.mem_append_right _ (List.mem_of_getElem? (i := 481) rfl)
set_option maxRecDepth 20000 in
theorem wfl_X6_20 : Cond.fieldLink RX6 20 "MilkBoxModel" "wait" "[I" ∈ lw_tbl := List.mem_append_right _ (List.mem_of_getElem? (i := 482) rfl)
set_option maxRecDepth 20000 in
theorem wfl_X6_23 : Cond.fieldLink RX6 23 "MilkBoxModel" "feed" "[I" ∈ lw_tbl := List.mem_append_right _ (List.mem_of_getElem? (i := 483) rfl)
set_option maxRecDepth 20000 in
theorem wfl_X6_26 : Cond.fieldLink RX6 26 "MilkBoxModel" "from" "[I" ∈ lw_tbl := List.mem_append_right _ (List.mem_of_getElem? (i := 484) rfl)
set_option maxRecDepth 20000 in
theorem wfl_X6_29 : Cond.fieldLink RX6 29 "MilkBoxModel" "left" "[I" ∈ lw_tbl := List.mem_append_right _ (List.mem_of_getElem? (i := 485) rfl)
set_option maxRecDepth 20000 in
theorem wfl_X6_32 : Cond.fieldLink RX6 32 "MilkBoxModel" "began" "[I" ∈ lw_tbl := List.mem_append_right _ (List.mem_of_getElem? (i := 486) rfl)
set_option maxRecDepth 20000 in
theorem wfl_X6_35 : Cond.fieldLink RX6 35 "MilkBoxModel" "withheld" "[I" ∈ lw_tbl := List.mem_append_right _ (List.mem_of_getElem? (i := 487) rfl)
set_option maxRecDepth 20000 in
theorem wfl_X6_38 : Cond.fieldLink RX6 38 "MilkBoxModel" "trouble" "[I" ∈ lw_tbl := List.mem_append_right _ (List.mem_of_getElem? (i := 488) rfl)
set_option maxRecDepth 20000 in
theorem wfl_X6_41 : Cond.fieldLink RX6 41 "MilkBoxModel" "fedDay" "[I" ∈ lw_tbl := List.mem_append_right _ (List.mem_of_getElem? (i := 489) rfl)
set_option maxRecDepth 20000 in
theorem wfl_X6_44 : Cond.fieldLink RX6 44 "MilkBoxModel" "fed" "[I" ∈ lw_tbl := List.mem_append_right _ (List.mem_of_getElem? (i := 490) rfl)
set_option maxRecDepth 20000 in
theorem wfl_X6_47 : Cond.fieldLink RX6 47 "MilkBoxModel" "gaveAll" "[I" ∈ lw_tbl := List.mem_append_right _ (List.mem_of_getElem? (i := 491) rfl)
set_option maxRecDepth 20000 in
theorem wfl_X6_50 : Cond.fieldLink RX6 50 "MilkBoxModel" "readings" "[I" ∈ lw_tbl := List.mem_append_right _ (List.mem_of_getElem? (i := 492) rfl)
set_option maxRecDepth 20000 in
theorem wfl_X6_184 : Cond.fieldLink RX6 184 "MilkBoxModel" "visits" "I" ∈ lw_tbl := List.mem_append_right _ (List.mem_of_getElem? (i := 493) rfl)
set_option maxRecDepth 20000 in
theorem wfl_X6_53 : Cond.fieldLink RX6 53 "MilkBoxModel" "visitKind" "[I" ∈ lw_tbl := List.mem_append_right _ (List.mem_of_getElem? (i := 494) rfl)
set_option maxRecDepth 20000 in
theorem wfl_X6_56 : Cond.fieldLink RX6 56 "MilkBoxModel" "visitCow" "[I" ∈ lw_tbl := List.mem_append_right _ (List.mem_of_getElem? (i := 495) rfl)
set_option maxRecDepth 20000 in
theorem wfl_X6_59 : Cond.fieldLink RX6 59 "MilkBoxModel" "visitMinute" "[I" ∈ lw_tbl := List.mem_append_right _ (List.mem_of_getElem? (i := 496) rfl)
set_option maxRecDepth 20000 in
theorem wfl_X6_62 : Cond.fieldLink RX6 62 "MilkBoxModel" "visitReading" "[I" ∈ lw_tbl := List.mem_append_right _ (List.mem_of_getElem? (i := 497) rfl)
set_option maxRecDepth 20000 in
theorem wfl_X6_65 : Cond.fieldLink RX6 65 "MilkBoxModel" "visitAlarm" "[Z" ∈ lw_tbl := List.mem_append_right _ (List.mem_of_getElem? (i := 498) rfl)
set_option maxRecDepth 20000 in
theorem wfl_X6_69 : Cond.fieldLink RX6 69 "MilkBoxModel" "visitBegan" "[I" ∈ lw_tbl := List.mem_append_right _ (List.mem_of_getElem? (i := 499) rfl)
set_option maxRecDepth 20000 in
theorem wfl_X6_72 : Cond.fieldLink RX6 72 "MilkBoxModel" "visitEnded" "[I" ∈ lw_tbl := List.mem_append_right _ (List.mem_of_getElem? (i := 500) rfl)
set_option maxRecDepth 20000 in
theorem wfl_X6_75 : Cond.fieldLink RX6 75 "MilkBoxModel" "visitMilk" "[I" ∈ lw_tbl := List.mem_append_right _ (List.mem_of_getElem? (i := 501) rfl)
set_option maxRecDepth 20000 in
theorem wfl_X6_78 : Cond.fieldLink RX6 78 "MilkBoxModel" "visitWhere" "[I" ∈ lw_tbl := List.mem_append_right _ (List.mem_of_getElem? (i := 502) rfl)
set_option maxRecDepth 20000 in
theorem wfl_X6_81 : Cond.fieldLink RX6 81 "MilkBoxModel" "visitLost" "[I" ∈ lw_tbl := List.mem_append_right _ (List.mem_of_getElem? (i := 503) rfl)
set_option maxRecDepth 20000 in
theorem wfl_X6_84 : Cond.fieldLink RX6 84 "MilkBoxModel" "visitFeed" "[I" ∈ lw_tbl := List.mem_append_right _ (List.mem_of_getElem? (i := 504) rfl)
set_option maxRecDepth 20000 in
theorem wfl_X6_110 : Cond.fieldLink RX6 110 "MilkBoxModel" "waiting" "I" ∈ lw_tbl := List.mem_append_right _ (List.mem_of_getElem? (i := 505) rfl)
set_option maxRecDepth 20000 in
theorem wfl_X6_87 : Cond.fieldLink RX6 87 "MilkBoxModel" "queue" "[I" ∈ lw_tbl := List.mem_append_right _ (List.mem_of_getElem? (i := 506) rfl)
set_option maxRecDepth 20000 in
theorem wfl_X6_90 : Cond.fieldLink RX6 90 "MilkBoxModel" "inBox" "I" ∈ lw_tbl := List.mem_append_right _ (List.mem_of_getElem? (i := 507) rfl)
set_option maxRecDepth 20000 in
theorem wfl_X6_121 : Cond.fieldLink RX6 121 "MilkBoxModel" "had" "I" ∈ lw_tbl := List.mem_append_right _ (List.mem_of_getElem? (i := 508) rfl)
set_option maxRecDepth 20000 in
theorem wfl_X6_124 : Cond.fieldLink RX6 124 "MilkBoxModel" "due" "I" ∈ lw_tbl := List.mem_append_right _ (List.mem_of_getElem? (i := 509) rfl)
set_option maxRecDepth 20000 in
theorem wfl_X6_127 : Cond.fieldLink RX6 127 "MilkBoxModel" "ahead" "I" ∈ lw_tbl := List.mem_append_right _ (List.mem_of_getElem? (i := 510) rfl)
set_option maxRecDepth 20000 in
theorem wfl_X6_130 : Cond.fieldLink RX6 130 "MilkBoxModel" "end" "I" ∈ lw_tbl := List.mem_append_right _ (List.mem_of_getElem? (i := 511) rfl)
set_option maxRecDepth 20000 in
theorem wfl_X6_133 : Cond.fieldLink RX6 133 "MilkBoxModel" "tank" "I" ∈ lw_tbl := List.mem_append_right _ (List.mem_of_getElem? (i := 512) rfl)
set_option maxRecDepth 20000 in
theorem wfl_X6_94 : Cond.fieldLink RX6 94 "MilkBoxModel" "room" "I" ∈ lw_tbl := List.mem_append_right _ (List.mem_of_getElem? (i := 513) rfl)
set_option maxRecDepth 20000 in
theorem wfl_X6_136 : Cond.fieldLink RX6 136 "MilkBoxModel" "can" "I" ∈ lw_tbl := List.mem_append_right _ (List.mem_of_getElem? (i := 514) rfl)
set_option maxRecDepth 20000 in
theorem wfl_X6_139 : Cond.fieldLink RX6 139 "MilkBoxModel" "poured" "I" ∈ lw_tbl := List.mem_append_right _ (List.mem_of_getElem? (i := 515) rfl)
set_option maxRecDepth 20000 in
theorem wfl_X6_199 : Cond.fieldLink RX6 199 "MilkBoxModel" "taken" "I" ∈ lw_tbl := List.mem_append_right _ (List.mem_of_getElem? (i := 516) rfl)
set_option maxRecDepth 20000 in
theorem wfl_X6_148 : Cond.fieldLink RX6 148 "MilkBoxModel" "milked" "I" ∈ lw_tbl := List.mem_append_right _ (List.mem_of_getElem? (i := 517) rfl)
set_option maxRecDepth 20000 in
theorem wfl_X6_145 : Cond.fieldLink RX6 145 "MilkBoxModel" "fedAll" "I" ∈ lw_tbl := List.mem_append_right _ (List.mem_of_getElem? (i := 518) rfl)
set_option maxRecDepth 20000 in
theorem wac_boolean : Cond.arrayClass .boolean ∈ lw_tbl := List.mem_append_right _ (List.mem_of_getElem? (i := 606) rfl)
set_option maxRecDepth 20000 in
theorem wml_L_17 : Cond.methodLink RL 17 yX6_cow ∈ lw_tbl := List.mem_append_right _ (List.mem_of_getElem? (i := 607) rfl)
set_option maxRecDepth 20000 in
theorem wim_X6_cow : Cond.instanceMethod yX6_cow ∈ lw_tbl := List.mem_append_right _ (List.mem_of_getElem? (i := 608) rfl)
set_option maxRecDepth 20000 in
theorem wse_X6_cow : Cond.selects RX6 yX6_cow yX6_cow ∈ lw_tbl := List.mem_append_right _ (List.mem_of_getElem? (i := 609) rfl)
set_option maxRecDepth 20000 in
theorem wco_X6_cow : Cond.code yX6_cow cX6_cow 5 (some .int) ∈ lw_tbl := List.mem_append_right _ (List.mem_of_getElem? (i := 610) rfl)
set_option maxRecDepth 20000 in
theorem wk_X6_151 : Cond.constantLong RX6 151 (2) ∈ lw_tbl := List.mem_append_right _ (List.mem_of_getElem? (i := 611) rfl)
set_option maxRecDepth 20000 in
theorem wml_X6_103 : Cond.methodLink RX6 103 yX6_in ∈ lw_tbl := List.mem_append_right _ (List.mem_of_getElem? (i := 612) rfl)
set_option maxRecDepth 20000 in
theorem wst_X6_in : Cond.static yX6_in ∈ lw_tbl := List.mem_append_right _ (List.mem_of_getElem? (i := 613) rfl)
set_option maxRecDepth 20000 in
theorem wco_X6_in : Cond.code yX6_in cX6_in 6 (some .boolean) ∈ lw_tbl := List.mem_append_right _ (List.mem_of_getElem? (i := 614) rfl)
set_option maxRecDepth 20000 in
theorem wk_X6_153 : Cond.constantLong RX6 153 (30) ∈ lw_tbl := List.mem_append_right _ (List.mem_of_getElem? (i := 615) rfl)
set_option maxRecDepth 20000 in
theorem wk_X6_155 : Cond.constantLong RX6 155 (1440) ∈ lw_tbl := List.mem_append_right _ (List.mem_of_getElem? (i := 616) rfl)
set_option maxRecDepth 20000 in
theorem wk_X6_157 : Cond.constantLong RX6 157 (5000) ∈ lw_tbl := List.mem_append_right _ (List.mem_of_getElem? (i := 617) rfl)
set_option maxRecDepth 20000 in
theorem wml_L_22 : Cond.methodLink RL 22 yX6_taken ∈ lw_tbl := List.mem_append_right _ (List.mem_of_getElem? (i := 618) rfl)
set_option maxRecDepth 20000 in
theorem wim_X6_taken : Cond.instanceMethod yX6_taken ∈ lw_tbl := List.mem_append_right _ (List.mem_of_getElem? (i := 619) rfl)
set_option maxRecDepth 20000 in
theorem wse_X6_taken : Cond.selects RX6 yX6_taken yX6_taken ∈ lw_tbl := List.mem_append_right _ (List.mem_of_getElem? (i := 620) rfl)
set_option maxRecDepth 20000 in
theorem wco_X6_taken : Cond.code yX6_taken cX6_taken 4 (some .int) ∈ lw_tbl := List.mem_append_right _ (List.mem_of_getElem? (i := 621) rfl)
set_option maxRecDepth 20000 in
theorem wml_X6_159 : Cond.methodLink RX6 159 yX6_noCow ∈ lw_tbl := List.mem_append_right _ (List.mem_of_getElem? (i := 622) rfl)
set_option maxRecDepth 20000 in
theorem wim_X6_noCow : Cond.instanceMethod yX6_noCow ∈ lw_tbl := List.mem_append_right _ (List.mem_of_getElem? (i := 624) rfl)
set_option maxRecDepth 20000 in
theorem wco_X6_noCow : Cond.code yX6_noCow cX6_noCow 2 (some .boolean) ∈ lw_tbl := List.mem_append_right _ (List.mem_of_getElem? (i := 625) rfl)
set_option maxRecDepth 20000 in
theorem wk_X6_163 : Cond.constantLong RX6 163 (3) ∈ lw_tbl := List.mem_append_right _ (List.mem_of_getElem? (i := 626) rfl)
set_option maxRecDepth 20000 in
theorem wml_L_27 : Cond.methodLink RL 27 yX6_withhold ∈ lw_tbl := List.mem_append_right _ (List.mem_of_getElem? (i := 627) rfl)
set_option maxRecDepth 20000 in
theorem wim_X6_withhold : Cond.instanceMethod yX6_withhold ∈ lw_tbl := List.mem_append_right _ (List.mem_of_getElem? (i := 628) rfl)
set_option maxRecDepth 20000 in
theorem wse_X6_withhold : Cond.selects RX6 yX6_withhold yX6_withhold ∈ lw_tbl := List.mem_append_right _ (List.mem_of_getElem? (i := 629) rfl)
set_option maxRecDepth 20000 in
theorem wco_X6_withhold : Cond.code yX6_withhold cX6_withhold 4 (some .int) ∈ lw_tbl := List.mem_append_right _ (List.mem_of_getElem? (i := 630) rfl)
set_option maxRecDepth 20000 in
theorem wk_X6_165 : Cond.constantLong RX6 165 (200000) ∈ lw_tbl := List.mem_append_right _ (List.mem_of_getElem? (i := 631) rfl)
set_option maxRecDepth 20000 in
theorem wml_L_31 : Cond.methodLink RL 31 yX6_trouble ∈ lw_tbl := List.mem_append_right _ (List.mem_of_getElem? (i := 632) rfl)
set_option maxRecDepth 20000 in
theorem wim_X6_trouble : Cond.instanceMethod yX6_trouble ∈ lw_tbl := List.mem_append_right _ (List.mem_of_getElem? (i := 633) rfl)
set_option maxRecDepth 20000 in
theorem wse_X6_trouble : Cond.selects RX6 yX6_trouble yX6_trouble ∈ lw_tbl := List.mem_append_right _ (List.mem_of_getElem? (i := 634) rfl)
set_option maxRecDepth 20000 in
theorem wco_X6_trouble : Cond.code yX6_trouble cX6_trouble 5 (some .int) ∈ lw_tbl := List.mem_append_right _ (List.mem_of_getElem? (i := 635) rfl)
set_option maxRecDepth 20000 in
theorem wk_X6_167 : Cond.constantLong RX6 167 (9) ∈ lw_tbl := List.mem_append_right _ (List.mem_of_getElem? (i := 636) rfl)
set_option maxRecDepth 20000 in
theorem wml_L_35 : Cond.methodLink RL 35 yX6_about ∈ lw_tbl := List.mem_append_right _ (List.mem_of_getElem? (i := 637) rfl)
set_option maxRecDepth 20000 in
theorem wim_X6_about : Cond.instanceMethod yX6_about ∈ lw_tbl := List.mem_append_right _ (List.mem_of_getElem? (i := 638) rfl)
set_option maxRecDepth 20000 in
theorem wse_X6_about : Cond.selects RX6 yX6_about yX6_about ∈ lw_tbl := List.mem_append_right _ (List.mem_of_getElem? (i := 639) rfl)
set_option maxRecDepth 20000 in
theorem wco_X6_about : Cond.code yX6_about cX6_about 3 (some .int) ∈ lw_tbl := List.mem_append_right _ (List.mem_of_getElem? (i := 640) rfl)
set_option maxRecDepth 20000 in
theorem wml_X6_117 : Cond.methodLink RX6 117 yX6_has ∈ lw_tbl := List.mem_append_right _ (List.mem_of_getElem? (i := 641) rfl)
set_option maxRecDepth 20000 in
theorem wim_X6_has : Cond.instanceMethod yX6_has ∈ lw_tbl := List.mem_append_right _ (List.mem_of_getElem? (i := 643) rfl)
set_option maxRecDepth 20000 in
theorem wco_X6_has : Cond.code yX6_has cX6_has 3 (some .int) ∈ lw_tbl := List.mem_append_right _ (List.mem_of_getElem? (i := 644) rfl)
set_option maxRecDepth 20000 in
theorem wml_X6_169 : Cond.methodLink RX6 169 yX6_hasRight ∈ lw_tbl := List.mem_append_right _ (List.mem_of_getElem? (i := 645) rfl)
set_option maxRecDepth 20000 in
theorem wim_X6_hasRight : Cond.instanceMethod yX6_hasRight ∈ lw_tbl := List.mem_append_right _ (List.mem_of_getElem? (i := 647) rfl)
set_option maxRecDepth 20000 in
theorem wco_X6_hasRight : Cond.code yX6_hasRight cX6_hasRight 2 (some .boolean) ∈ lw_tbl := List.mem_append_right _ (List.mem_of_getElem? (i := 648) rfl)
set_option maxRecDepth 20000 in
theorem wml_X6_142 : Cond.methodLink RX6 142 yX6_fedToday ∈ lw_tbl := List.mem_append_right _ (List.mem_of_getElem? (i := 649) rfl)
set_option maxRecDepth 20000 in
theorem wim_X6_fedToday : Cond.instanceMethod yX6_fedToday ∈ lw_tbl := List.mem_append_right _ (List.mem_of_getElem? (i := 651) rfl)
set_option maxRecDepth 20000 in
theorem wco_X6_fedToday : Cond.code yX6_fedToday cX6_fedToday 2 (some .int) ∈ lw_tbl := List.mem_append_right _ (List.mem_of_getElem? (i := 652) rfl)
set_option maxRecDepth 20000 in
theorem wml_X6_172 : Cond.methodLink RX6 172 yX6_placeOf ∈ lw_tbl := List.mem_append_right _ (List.mem_of_getElem? (i := 653) rfl)
set_option maxRecDepth 20000 in
theorem wim_X6_placeOf : Cond.instanceMethod yX6_placeOf ∈ lw_tbl := List.mem_append_right _ (List.mem_of_getElem? (i := 655) rfl)
set_option maxRecDepth 20000 in
theorem wco_X6_placeOf : Cond.code yX6_placeOf cX6_placeOf 3 (some .int) ∈ lw_tbl := List.mem_append_right _ (List.mem_of_getElem? (i := 656) rfl)
set_option maxRecDepth 20000 in
theorem wml_L_40 : Cond.methodLink RL 40 yX6_pass ∈ lw_tbl := List.mem_append_right _ (List.mem_of_getElem? (i := 657) rfl)
set_option maxRecDepth 20000 in
theorem wim_X6_pass : Cond.instanceMethod yX6_pass ∈ lw_tbl := List.mem_append_right _ (List.mem_of_getElem? (i := 658) rfl)
set_option maxRecDepth 20000 in
theorem wse_X6_pass : Cond.selects RX6 yX6_pass yX6_pass ∈ lw_tbl := List.mem_append_right _ (List.mem_of_getElem? (i := 659) rfl)
set_option maxRecDepth 20000 in
theorem wco_X6_pass : Cond.code yX6_pass cX6_pass 3 (some .int) ∈ lw_tbl := List.mem_append_right _ (List.mem_of_getElem? (i := 660) rfl)
set_option maxRecDepth 20000 in
theorem wk_X6_175 : Cond.constantLong RX6 175 (20000) ∈ lw_tbl := List.mem_append_right _ (List.mem_of_getElem? (i := 661) rfl)
set_option maxRecDepth 20000 in
theorem wk_X6_177 : Cond.constant RX6 177 (100000) ∈ lw_tbl := List.mem_append_right _ (List.mem_of_getElem? (i := 662) rfl)
set_option maxRecDepth 20000 in
theorem wml_X6_178 : Cond.methodLink RX6 178 yX6_finish ∈ lw_tbl := List.mem_append_right _ (List.mem_of_getElem? (i := 663) rfl)
set_option maxRecDepth 20000 in
theorem wim_X6_finish : Cond.instanceMethod yX6_finish ∈ lw_tbl := List.mem_append_right _ (List.mem_of_getElem? (i := 665) rfl)
set_option maxRecDepth 20000 in
theorem wco_X6_finish : Cond.code yX6_finish cX6_finish 7 none ∈ lw_tbl := List.mem_append_right _ (List.mem_of_getElem? (i := 666) rfl)
set_option maxRecDepth 20000 in
theorem wml_X6_181 : Cond.methodLink RX6 181 yX6_enter ∈ lw_tbl := List.mem_append_right _ (List.mem_of_getElem? (i := 667) rfl)
set_option maxRecDepth 20000 in
theorem wim_X6_enter : Cond.instanceMethod yX6_enter ∈ lw_tbl := List.mem_append_right _ (List.mem_of_getElem? (i := 669) rfl)
set_option maxRecDepth 20000 in
theorem wco_X6_enter : Cond.code yX6_enter cX6_enter 5 none ∈ lw_tbl := List.mem_append_right _ (List.mem_of_getElem? (i := 670) rfl)
set_option maxRecDepth 20000 in
theorem wml_X6_113 : Cond.methodLink RX6 113 yX6_begin ∈ lw_tbl := List.mem_append_right _ (List.mem_of_getElem? (i := 671) rfl)
set_option maxRecDepth 20000 in
theorem wim_X6_begin : Cond.instanceMethod yX6_begin ∈ lw_tbl := List.mem_append_right _ (List.mem_of_getElem? (i := 673) rfl)
set_option maxRecDepth 20000 in
theorem wco_X6_begin : Cond.code yX6_begin cX6_begin 7 none ∈ lw_tbl := List.mem_append_right _ (List.mem_of_getElem? (i := 674) rfl)
set_option maxRecDepth 20000 in
theorem wml_L_44 : Cond.methodLink RL 44 yX6_come ∈ lw_tbl := List.mem_append_right _ (List.mem_of_getElem? (i := 675) rfl)
set_option maxRecDepth 20000 in
theorem wim_X6_come : Cond.instanceMethod yX6_come ∈ lw_tbl := List.mem_append_right _ (List.mem_of_getElem? (i := 676) rfl)
set_option maxRecDepth 20000 in
theorem wse_X6_come : Cond.selects RX6 yX6_come yX6_come ∈ lw_tbl := List.mem_append_right _ (List.mem_of_getElem? (i := 677) rfl)
set_option maxRecDepth 20000 in
theorem wco_X6_come : Cond.code yX6_come cX6_come 4 (some .int) ∈ lw_tbl := List.mem_append_right _ (List.mem_of_getElem? (i := 678) rfl)
set_option maxRecDepth 20000 in
theorem wk_X6_187 : Cond.constantLong RX6 187 (1000) ∈ lw_tbl := List.mem_append_right _ (List.mem_of_getElem? (i := 679) rfl)
set_option maxRecDepth 20000 in
theorem wml_X6_189 : Cond.methodLink RX6 189 yX6_cowInBox ∈ lw_tbl := List.mem_append_right _ (List.mem_of_getElem? (i := 680) rfl)
set_option maxRecDepth 20000 in
theorem wim_X6_cowInBox : Cond.instanceMethod yX6_cowInBox ∈ lw_tbl := List.mem_append_right _ (List.mem_of_getElem? (i := 682) rfl)
set_option maxRecDepth 20000 in
theorem wco_X6_cowInBox : Cond.code yX6_cowInBox cX6_cowInBox 1 (some .int) ∈ lw_tbl := List.mem_append_right _ (List.mem_of_getElem? (i := 683) rfl)
set_option maxRecDepth 20000 in
theorem wml_X6_193 : Cond.methodLink RX6 193 yX6_isAlarm ∈ lw_tbl := List.mem_append_right _ (List.mem_of_getElem? (i := 684) rfl)
set_option maxRecDepth 20000 in
theorem wim_X6_isAlarm : Cond.instanceMethod yX6_isAlarm ∈ lw_tbl := List.mem_append_right _ (List.mem_of_getElem? (i := 686) rfl)
set_option maxRecDepth 20000 in
theorem wco_X6_isAlarm : Cond.code yX6_isAlarm cX6_isAlarm 6 (some .boolean) ∈ lw_tbl := List.mem_append_right _ (List.mem_of_getElem? (i := 687) rfl)
set_option maxRecDepth 20000 in
theorem wml_L_49 : Cond.methodLink RL 49 yX6_power ∈ lw_tbl := List.mem_append_right _ (List.mem_of_getElem? (i := 688) rfl)
set_option maxRecDepth 20000 in
theorem wim_X6_power : Cond.instanceMethod yX6_power ∈ lw_tbl := List.mem_append_right _ (List.mem_of_getElem? (i := 689) rfl)
set_option maxRecDepth 20000 in
theorem wse_X6_power : Cond.selects RX6 yX6_power yX6_power ∈ lw_tbl := List.mem_append_right _ (List.mem_of_getElem? (i := 690) rfl)
set_option maxRecDepth 20000 in
theorem wco_X6_power : Cond.code yX6_power cX6_power 5 (some .int) ∈ lw_tbl := List.mem_append_right _ (List.mem_of_getElem? (i := 691) rfl)
set_option maxRecDepth 20000 in
theorem wml_L_54 : Cond.methodLink RL 54 yX6_box ∈ lw_tbl := List.mem_append_right _ (List.mem_of_getElem? (i := 692) rfl)
set_option maxRecDepth 20000 in
theorem wim_X6_box : Cond.instanceMethod yX6_box ∈ lw_tbl := List.mem_append_right _ (List.mem_of_getElem? (i := 693) rfl)
set_option maxRecDepth 20000 in
theorem wse_X6_box : Cond.selects RX6 yX6_box yX6_box ∈ lw_tbl := List.mem_append_right _ (List.mem_of_getElem? (i := 694) rfl)
set_option maxRecDepth 20000 in
theorem wco_X6_box : Cond.code yX6_box cX6_box 1 (some .int) ∈ lw_tbl := List.mem_append_right _ (List.mem_of_getElem? (i := 695) rfl)
set_option maxRecDepth 20000 in
theorem wml_L_58 : Cond.methodLink RL 58 yX6_queue ∈ lw_tbl := List.mem_append_right _ (List.mem_of_getElem? (i := 696) rfl)
set_option maxRecDepth 20000 in
theorem wim_X6_queue : Cond.instanceMethod yX6_queue ∈ lw_tbl := List.mem_append_right _ (List.mem_of_getElem? (i := 697) rfl)
set_option maxRecDepth 20000 in
theorem wse_X6_queue : Cond.selects RX6 yX6_queue yX6_queue ∈ lw_tbl := List.mem_append_right _ (List.mem_of_getElem? (i := 698) rfl)
set_option maxRecDepth 20000 in
theorem wco_X6_queue : Cond.code yX6_queue cX6_queue 2 (some .int) ∈ lw_tbl := List.mem_append_right _ (List.mem_of_getElem? (i := 699) rfl)
set_option maxRecDepth 20000 in
theorem wml_L_62 : Cond.methodLink RL 62 yX6_ends ∈ lw_tbl := List.mem_append_right _ (List.mem_of_getElem? (i := 700) rfl)
set_option maxRecDepth 20000 in
theorem wim_X6_ends : Cond.instanceMethod yX6_ends ∈ lw_tbl := List.mem_append_right _ (List.mem_of_getElem? (i := 701) rfl)
set_option maxRecDepth 20000 in
theorem wse_X6_ends : Cond.selects RX6 yX6_ends yX6_ends ∈ lw_tbl := List.mem_append_right _ (List.mem_of_getElem? (i := 702) rfl)
set_option maxRecDepth 20000 in
theorem wco_X6_ends : Cond.code yX6_ends cX6_ends 1 (some .int) ∈ lw_tbl := List.mem_append_right _ (List.mem_of_getElem? (i := 703) rfl)
set_option maxRecDepth 20000 in
theorem wml_L_66 : Cond.methodLink RL 66 yX6_room ∈ lw_tbl := List.mem_append_right _ (List.mem_of_getElem? (i := 704) rfl)
set_option maxRecDepth 20000 in
theorem wim_X6_room : Cond.instanceMethod yX6_room ∈ lw_tbl := List.mem_append_right _ (List.mem_of_getElem? (i := 705) rfl)
set_option maxRecDepth 20000 in
theorem wse_X6_room : Cond.selects RX6 yX6_room yX6_room ∈ lw_tbl := List.mem_append_right _ (List.mem_of_getElem? (i := 706) rfl)
set_option maxRecDepth 20000 in
theorem wco_X6_room : Cond.code yX6_room cX6_room 3 (some .int) ∈ lw_tbl := List.mem_append_right _ (List.mem_of_getElem? (i := 707) rfl)
set_option maxRecDepth 20000 in
theorem wk_X6_197 : Cond.constantLong RX6 197 (100000) ∈ lw_tbl := List.mem_append_right _ (List.mem_of_getElem? (i := 708) rfl)
set_option maxRecDepth 20000 in
theorem wml_L_70 : Cond.methodLink RL 70 yX6_pick ∈ lw_tbl := List.mem_append_right _ (List.mem_of_getElem? (i := 709) rfl)
set_option maxRecDepth 20000 in
theorem wim_X6_pick : Cond.instanceMethod yX6_pick ∈ lw_tbl := List.mem_append_right _ (List.mem_of_getElem? (i := 710) rfl)
set_option maxRecDepth 20000 in
theorem wse_X6_pick : Cond.selects RX6 yX6_pick yX6_pick ∈ lw_tbl := List.mem_append_right _ (List.mem_of_getElem? (i := 711) rfl)
set_option maxRecDepth 20000 in
theorem wco_X6_pick : Cond.code yX6_pick cX6_pick 3 (some .int) ∈ lw_tbl := List.mem_append_right _ (List.mem_of_getElem? (i := 712) rfl)
set_option maxRecDepth 20000 in
theorem wml_L_74 : Cond.methodLink RL 74 yX6_total ∈ lw_tbl := List.mem_append_right _ (List.mem_of_getElem? (i := 713) rfl)
set_option maxRecDepth 20000 in
theorem wim_X6_total : Cond.instanceMethod yX6_total ∈ lw_tbl := List.mem_append_right _ (List.mem_of_getElem? (i := 714) rfl)
set_option maxRecDepth 20000 in
theorem wse_X6_total : Cond.selects RX6 yX6_total yX6_total ∈ lw_tbl := List.mem_append_right _ (List.mem_of_getElem? (i := 715) rfl)
set_option maxRecDepth 20000 in
theorem wco_X6_total : Cond.code yX6_total cX6_total 4 (some .int) ∈ lw_tbl := List.mem_append_right _ (List.mem_of_getElem? (i := 716) rfl)
set_option maxRecDepth 20000 in
theorem wml_L_78 : Cond.methodLink RL 78 yX6_visit ∈ lw_tbl := List.mem_append_right _ (List.mem_of_getElem? (i := 717) rfl)
set_option maxRecDepth 20000 in
theorem wim_X6_visit : Cond.instanceMethod yX6_visit ∈ lw_tbl := List.mem_append_right _ (List.mem_of_getElem? (i := 718) rfl)
set_option maxRecDepth 20000 in
theorem wse_X6_visit : Cond.selects RX6 yX6_visit yX6_visit ∈ lw_tbl := List.mem_append_right _ (List.mem_of_getElem? (i := 719) rfl)
set_option maxRecDepth 20000 in
theorem wco_X6_visit : Cond.code yX6_visit cX6_visit 4 (some .int) ∈ lw_tbl := List.mem_append_right _ (List.mem_of_getElem? (i := 720) rfl)
set_option maxRecDepth 20000 in
theorem wk_X6_202 : Cond.constantLong RX6 202 (10) ∈ lw_tbl := List.mem_append_right _ (List.mem_of_getElem? (i := 721) rfl)
set_option maxRecDepth 20000 in
theorem wml_L_82 : Cond.methodLink RL 82 yX6_visitOf ∈ lw_tbl := List.mem_append_right _ (List.mem_of_getElem? (i := 722) rfl)
set_option maxRecDepth 20000 in
theorem wim_X6_visitOf : Cond.instanceMethod yX6_visitOf ∈ lw_tbl := List.mem_append_right _ (List.mem_of_getElem? (i := 723) rfl)
set_option maxRecDepth 20000 in
theorem wse_X6_visitOf : Cond.selects RX6 yX6_visitOf yX6_visitOf ∈ lw_tbl := List.mem_append_right _ (List.mem_of_getElem? (i := 724) rfl)
set_option maxRecDepth 20000 in
theorem wco_X6_visitOf : Cond.code yX6_visitOf cX6_visitOf 5 (some .int) ∈ lw_tbl := List.mem_append_right _ (List.mem_of_getElem? (i := 725) rfl)
set_option maxRecDepth 20000 in
theorem wml_L_86 : Cond.methodLink RL 86 yX6_gave ∈ lw_tbl := List.mem_append_right _ (List.mem_of_getElem? (i := 726) rfl)
set_option maxRecDepth 20000 in
theorem wim_X6_gave : Cond.instanceMethod yX6_gave ∈ lw_tbl := List.mem_append_right _ (List.mem_of_getElem? (i := 727) rfl)
set_option maxRecDepth 20000 in
theorem wse_X6_gave : Cond.selects RX6 yX6_gave yX6_gave ∈ lw_tbl := List.mem_append_right _ (List.mem_of_getElem? (i := 728) rfl)
set_option maxRecDepth 20000 in
theorem wco_X6_gave : Cond.code yX6_gave cX6_gave 5 (some .int) ∈ lw_tbl := List.mem_append_right _ (List.mem_of_getElem? (i := 729) rfl)
set_option maxRecDepth 20000 in
theorem wml_L_90 : Cond.methodLink RL 90 yX6_longest ∈ lw_tbl := List.mem_append_right _ (List.mem_of_getElem? (i := 730) rfl)
set_option maxRecDepth 20000 in
theorem wim_X6_longest : Cond.instanceMethod yX6_longest ∈ lw_tbl := List.mem_append_right _ (List.mem_of_getElem? (i := 731) rfl)
set_option maxRecDepth 20000 in
theorem wse_X6_longest : Cond.selects RX6 yX6_longest yX6_longest ∈ lw_tbl := List.mem_append_right _ (List.mem_of_getElem? (i := 732) rfl)
set_option maxRecDepth 20000 in
theorem wco_X6_longest : Cond.code yX6_longest cX6_longest 4 (some .int) ∈ lw_tbl := List.mem_append_right _ (List.mem_of_getElem? (i := 733) rfl)
set_option maxRecDepth 20000 in
theorem wml_L_94 : Cond.methodLink RL 94 yX6_rank ∈ lw_tbl := List.mem_append_right _ (List.mem_of_getElem? (i := 734) rfl)
set_option maxRecDepth 20000 in
theorem wim_X6_rank : Cond.instanceMethod yX6_rank ∈ lw_tbl := List.mem_append_right _ (List.mem_of_getElem? (i := 735) rfl)
set_option maxRecDepth 20000 in
theorem wse_X6_rank : Cond.selects RX6 yX6_rank yX6_rank ∈ lw_tbl := List.mem_append_right _ (List.mem_of_getElem? (i := 736) rfl)
set_option maxRecDepth 20000 in
theorem wco_X6_rank : Cond.code yX6_rank cX6_rank 5 (some .int) ∈ lw_tbl := List.mem_append_right _ (List.mem_of_getElem? (i := 737) rfl)
set_option maxRecDepth 20000 in
theorem wml_L_98 : Cond.methodLink RL 98 yX6_until ∈ lw_tbl := List.mem_append_right _ (List.mem_of_getElem? (i := 738) rfl)
set_option maxRecDepth 20000 in
theorem wim_X6_until : Cond.instanceMethod yX6_until ∈ lw_tbl := List.mem_append_right _ (List.mem_of_getElem? (i := 739) rfl)
set_option maxRecDepth 20000 in
theorem wse_X6_until : Cond.selects RX6 yX6_until yX6_until ∈ lw_tbl := List.mem_append_right _ (List.mem_of_getElem? (i := 740) rfl)
set_option maxRecDepth 20000 in
theorem wco_X6_until : Cond.code yX6_until cX6_until 6 (some .int) ∈ lw_tbl := List.mem_append_right _ (List.mem_of_getElem? (i := 741) rfl)
set_option maxRecDepth 20000 in
theorem wk_X6_204 : Cond.constantLong RX6 204 (400) ∈ lw_tbl := List.mem_append_right _ (List.mem_of_getElem? (i := 742) rfl)
theorem wse_X5_cowAt : Cond.selects RX5 yX5_cowAt yX5_cowAt ∈ lw_tbl := List.mem_append_left _ (List.mem_of_getElem? (i := 0) rfl)
theorem wse_X5_finishMilking : Cond.selects RX5 yX5_finishMilking yX5_finishMilking ∈ lw_tbl := List.mem_append_left _ (List.mem_of_getElem? (i := 1) rfl)
theorem wse_X5_fillBox : Cond.selects RX5 yX5_fillBox yX5_fillBox ∈ lw_tbl := List.mem_append_left _ (List.mem_of_getElem? (i := 2) rfl)
theorem wse_X2_choose : Cond.selects RX2 yX2_choose yX2_choose ∈ lw_tbl := List.mem_append_left _ (List.mem_of_getElem? (i := 3) rfl)
theorem wse_X2_closeUp : Cond.selects RX2 yX2_closeUp yX2_closeUp ∈ lw_tbl := List.mem_append_left _ (List.mem_of_getElem? (i := 4) rfl)
theorem wse_X0_milkOfTeat : Cond.selects RX0 yX0_milkOfTeat yX0_milkOfTeat ∈ lw_tbl := List.mem_append_left _ (List.mem_of_getElem? (i := 5) rfl)
theorem wse_X5_visitAt : Cond.selects RX5 yX5_visitAt yX5_visitAt ∈ lw_tbl := List.mem_append_left _ (List.mem_of_getElem? (i := 6) rfl)
theorem wse_X5_countAhead : Cond.selects RX5 yX5_countAhead yX5_countAhead ∈ lw_tbl := List.mem_append_left _ (List.mem_of_getElem? (i := 7) rfl)
theorem wse_X6_noCow : Cond.selects RX6 yX6_noCow yX6_noCow ∈ lw_tbl := List.mem_append_left _ (List.mem_of_getElem? (i := 8) rfl)
theorem wse_X6_has : Cond.selects RX6 yX6_has yX6_has ∈ lw_tbl := List.mem_append_left _ (List.mem_of_getElem? (i := 9) rfl)
theorem wse_X6_hasRight : Cond.selects RX6 yX6_hasRight yX6_hasRight ∈ lw_tbl := List.mem_append_left _ (List.mem_of_getElem? (i := 10) rfl)
theorem wse_X6_fedToday : Cond.selects RX6 yX6_fedToday yX6_fedToday ∈ lw_tbl := List.mem_append_left _ (List.mem_of_getElem? (i := 11) rfl)
theorem wse_X6_placeOf : Cond.selects RX6 yX6_placeOf yX6_placeOf ∈ lw_tbl := List.mem_append_left _ (List.mem_of_getElem? (i := 12) rfl)
theorem wse_X6_finish : Cond.selects RX6 yX6_finish yX6_finish ∈ lw_tbl := List.mem_append_left _ (List.mem_of_getElem? (i := 13) rfl)
theorem wse_X6_enter : Cond.selects RX6 yX6_enter yX6_enter ∈ lw_tbl := List.mem_append_left _ (List.mem_of_getElem? (i := 14) rfl)
theorem wse_X6_begin : Cond.selects RX6 yX6_begin yX6_begin ∈ lw_tbl := List.mem_append_left _ (List.mem_of_getElem? (i := 15) rfl)
theorem wse_X6_cowInBox : Cond.selects RX6 yX6_cowInBox yX6_cowInBox ∈ lw_tbl := List.mem_append_left _ (List.mem_of_getElem? (i := 16) rfl)
theorem wse_X6_isAlarm : Cond.selects RX6 yX6_isAlarm yX6_isAlarm ∈ lw_tbl := List.mem_append_left _ (List.mem_of_getElem? (i := 17) rfl)
set_option maxRecDepth 20000 in
theorem inX0 : ∀ w ∈ u_ws RX0 TX0 5, w ∈ lw_tbl := by
  have h : u_ws RX0 TX0 5 = [51, 53, 55, 57, 59].filterMap (fun i => tables_1[i]?) := rfl
  intro w hw
  rw [h] at hw
  obtain ⟨i, -, hi⟩ := List.mem_filterMap.mp hw
  exact List.mem_append_right _ (List.mem_of_getElem? hi)
set_option maxRecDepth 20000 in
theorem inX1 : ∀ w ∈ u_ws RX1 TX1 14, w ∈ lw_tbl := by
  have h : u_ws RX1 TX1 14 = [168, 170, 172, 174, 176, 178, 180, 182, 184, 186, 188, 190, 192, 194].filterMap (fun i => tables_1[i]?) := rfl
  intro w hw
  rw [h] at hw
  obtain ⟨i, -, hi⟩ := List.mem_filterMap.mp hw
  exact List.mem_append_right _ (List.mem_of_getElem? hi)
set_option maxRecDepth 20000 in
theorem inX2 : ∀ w ∈ u_ws RX2 TX2 2, w ∈ lw_tbl := by
  have h : u_ws RX2 TX2 2 = [31, 33].filterMap (fun i => tables_1[i]?) := rfl
  intro w hw
  rw [h] at hw
  obtain ⟨i, -, hi⟩ := List.mem_filterMap.mp hw
  exact List.mem_append_right _ (List.mem_of_getElem? hi)
set_option maxRecDepth 20000 in
theorem inX3 : ∀ w ∈ u_ws RX3 TX3 5, w ∈ lw_tbl := by
  have h : u_ws RX3 TX3 5 = [78, 80, 82, 84, 86].filterMap (fun i => tables_1[i]?) := rfl
  intro w hw
  rw [h] at hw
  obtain ⟨i, -, hi⟩ := List.mem_filterMap.mp hw
  exact List.mem_append_right _ (List.mem_of_getElem? hi)
set_option maxRecDepth 20000 in
theorem inX4 : ∀ w ∈ u_ws RX4 TX4 12, w ∈ lw_tbl := by
  have h : u_ws RX4 TX4 12 = [353, 355, 357, 359, 361, 363, 365, 367, 369, 371, 373, 375].filterMap (fun i => tables_1[i]?) := rfl
  intro w hw
  rw [h] at hw
  obtain ⟨i, -, hi⟩ := List.mem_filterMap.mp hw
  exact List.mem_append_right _ (List.mem_of_getElem? hi)
set_option maxRecDepth 20000 in
theorem inX5 : ∀ w ∈ u_ws RX5 TX5 14, w ∈ lw_tbl := by
  have h : u_ws RX5 TX5 14 = [103, 105, 107, 109, 111, 113, 115, 117, 119, 121, 123, 125, 127, 129].filterMap (fun i => tables_1[i]?) := rfl
  intro w hw
  rw [h] at hw
  obtain ⟨i, -, hi⟩ := List.mem_filterMap.mp hw
  exact List.mem_append_right _ (List.mem_of_getElem? hi)
set_option maxRecDepth 20000 in
theorem inX6 : ∀ w ∈ u_ws RX6 TX6 43, w ∈ lw_tbl := by
  have h : u_ws RX6 TX6 43 = [519, 521, 523, 525, 527, 529, 531, 533, 535, 537, 539, 541, 543, 545, 547, 549, 551, 553, 555, 557, 559, 561, 563, 565, 567, 569, 571, 573, 575, 577, 579, 581, 583, 585, 587, 589, 591, 593, 595, 597, 599, 601, 603].filterMap (fun i => tables_1[i]?) := rfl
  intro w hw
  rw [h] at hw
  obtain ⟨i, -, hi⟩ := List.mem_filterMap.mp hw
  exact List.mem_append_right _ (List.mem_of_getElem? hi)
def gNs (U : State) : Prop := va_Nw (.methodLinkNest RX5 23 yX2_init "MilkBox") U ∧ va_Nw (.methodLinkNest RX5 30 yX0_init "MilkBox") U ∧ va_Nw (.methodLinkNest RX5 37 yX3_init "MilkBox") U ∧ va_Nw (.methodLinkNest RX4 49 yX5_asNumber "MilkBox") U
end
section
theorem dX0_init_0 : decode cX0_init 0 = .ok (.aload_n 0, 1) := by decide +kernel
theorem dX0_init_1 : decode cX0_init 1 = .ok (.invokespecial 3, 3) := by decide +kernel
theorem dX0_init_4 : decode cX0_init 4 = .ok (.return_, 1) := by decide +kernel
theorem dX0_isBusy_0 : decode cX0_isBusy 0 = .ok (.aload_n 0, 1) := by decide +kernel
theorem dX0_isBusy_1 : decode cX0_isBusy 1 = .ok (.getfield 9, 3) := by decide +kernel
theorem dX0_isBusy_4 : decode cX0_isBusy 4 = .ok (.ifnull 7, 3) := by decide +kernel
theorem dX0_isBusy_7 : decode cX0_isBusy 7 = .ok (.iconst 1, 1) := by decide +kernel
theorem dX0_isBusy_8 : decode cX0_isBusy 8 = .ok (.goto 4, 3) := by decide +kernel
theorem dX0_isBusy_11 : decode cX0_isBusy 11 = .ok (.iconst 0, 1) := by decide +kernel
theorem dX0_isBusy_12 : decode cX0_isBusy 12 = .ok (.ireturn, 1) := by decide +kernel
theorem dX0_holds_0 : decode cX0_holds 0 = .ok (.aload_n 0, 1) := by decide +kernel
theorem dX0_holds_1 : decode cX0_holds 1 = .ok (.getfield 9, 3) := by decide +kernel
theorem dX0_holds_4 : decode cX0_holds 4 = .ok (.astore_n 2, 1) := by decide +kernel
theorem dX0_holds_5 : decode cX0_holds 5 = .ok (.aload_n 2, 1) := by decide +kernel
theorem dX0_holds_6 : decode cX0_holds 6 = .ok (.ifnull 15, 3) := by decide +kernel
theorem dX0_holds_9 : decode cX0_holds 9 = .ok (.aload_n 2, 1) := by decide +kernel
theorem dX0_holds_10 : decode cX0_holds 10 = .ok (.getfield 15, 3) := by decide +kernel
theorem dX0_holds_13 : decode cX0_holds 13 = .ok (.iload_n 1, 1) := by decide +kernel
theorem dX0_holds_14 : decode cX0_holds 14 = .ok (.if_icmp .ne 7, 3) := by decide +kernel
theorem dX0_holds_17 : decode cX0_holds 17 = .ok (.iconst 1, 1) := by decide +kernel
theorem dX0_holds_18 : decode cX0_holds 18 = .ok (.goto 4, 3) := by decide +kernel
theorem dX0_holds_21 : decode cX0_holds 21 = .ok (.iconst 0, 1) := by decide +kernel
theorem dX0_holds_22 : decode cX0_holds 22 = .ok (.ireturn, 1) := by decide +kernel
theorem dX0_begin_0 : decode cX0_begin 0 = .ok (.aload_n 0, 1) := by decide +kernel
theorem dX0_begin_1 : decode cX0_begin 1 = .ok (.aload_n 1, 1) := by decide +kernel
theorem dX0_begin_2 : decode cX0_begin 2 = .ok (.putfield 9, 3) := by decide +kernel
theorem dX0_begin_5 : decode cX0_begin 5 = .ok (.aload_n 0, 1) := by decide +kernel
theorem dX0_begin_6 : decode cX0_begin 6 = .ok (.aload_n 2, 1) := by decide +kernel
theorem dX0_begin_7 : decode cX0_begin 7 = .ok (.iload_n 3, 1) := by decide +kernel
theorem dX0_begin_8 : decode cX0_begin 8 = .ok (.invokevirtual 21, 3) := by decide +kernel
theorem dX0_begin_11 : decode cX0_begin 11 = .ok (.putfield 27, 3) := by decide +kernel
theorem dX0_begin_14 : decode cX0_begin 14 = .ok (.aload_n 0, 1) := by decide +kernel
theorem dX0_begin_15 : decode cX0_begin 15 = .ok (.iconst 0, 1) := by decide +kernel
theorem dX0_begin_16 : decode cX0_begin 16 = .ok (.putfield 30, 3) := by decide +kernel
theorem dX0_begin_19 : decode cX0_begin 19 = .ok (.aload_n 0, 1) := by decide +kernel
theorem dX0_begin_20 : decode cX0_begin 20 = .ok (.iload_n 3, 1) := by decide +kernel
theorem dX0_begin_21 : decode cX0_begin 21 = .ok (.iconst 2, 1) := by decide +kernel
theorem dX0_begin_22 : decode cX0_begin 22 = .ok (.iadd, 1) := by decide +kernel
theorem dX0_begin_23 : decode cX0_begin 23 = .ok (.putfield 33, 3) := by decide +kernel
theorem dX0_begin_26 : decode cX0_begin 26 = .ok (.iconst 0, 1) := by decide +kernel
theorem dX0_begin_27 : decode cX0_begin 27 = .ok (.istore 4, 2) := by decide +kernel
theorem dX0_begin_29 : decode cX0_begin 29 = .ok (.iconst 0, 1) := by decide +kernel
theorem dX0_begin_30 : decode cX0_begin 30 = .ok (.istore 5, 2) := by decide +kernel
theorem dX0_begin_32 : decode cX0_begin 32 = .ok (.iload 5, 2) := by decide +kernel
theorem dX0_begin_34 : decode cX0_begin 34 = .ok (.aload_n 2, 1) := by decide +kernel
theorem dX0_begin_35 : decode cX0_begin 35 = .ok (.getfield 36, 3) := by decide +kernel
theorem dX0_begin_38 : decode cX0_begin 38 = .ok (.arraylength, 1) := by decide +kernel
theorem dX0_begin_39 : decode cX0_begin 39 = .ok (.if_icmp .ge 60, 3) := by decide +kernel
theorem dX0_begin_42 : decode cX0_begin 42 = .ok (.aload_n 2, 1) := by decide +kernel
theorem dX0_begin_43 : decode cX0_begin 43 = .ok (.getfield 36, 3) := by decide +kernel
theorem dX0_begin_46 : decode cX0_begin 46 = .ok (.iload 5, 2) := by decide +kernel
theorem dX0_begin_48 : decode cX0_begin 48 = .ok (.iaload, 1) := by decide +kernel
theorem dX0_begin_49 : decode cX0_begin 49 = .ok (.istore 6, 2) := by decide +kernel
theorem dX0_begin_51 : decode cX0_begin 51 = .ok (.aload_n 0, 1) := by decide +kernel
theorem dX0_begin_52 : decode cX0_begin 52 = .ok (.dup, 1) := by decide +kernel
theorem dX0_begin_53 : decode cX0_begin 53 = .ok (.getfield 33, 3) := by decide +kernel
theorem dX0_begin_56 : decode cX0_begin 56 = .ok (.iload 6, 2) := by decide +kernel
theorem dX0_begin_58 : decode cX0_begin 58 = .ok (.iconst 3, 1) := by decide +kernel
theorem dX0_begin_59 : decode cX0_begin 59 = .ok (.invokestatic 40, 3) := by decide +kernel
theorem dX0_begin_62 : decode cX0_begin 62 = .ok (.iadd, 1) := by decide +kernel
theorem dX0_begin_63 : decode cX0_begin 63 = .ok (.putfield 33, 3) := by decide +kernel
theorem dX0_begin_66 : decode cX0_begin 66 = .ok (.iload 6, 2) := by decide +kernel
theorem dX0_begin_68 : decode cX0_begin 68 = .ok (.iconst 3, 1) := by decide +kernel
theorem dX0_begin_69 : decode cX0_begin 69 = .ok (.if_icmp .le 9, 3) := by decide +kernel
theorem dX0_begin_72 : decode cX0_begin 72 = .ok (.iinc 4 1, 3) := by decide +kernel
theorem dX0_begin_75 : decode cX0_begin 75 = .ok (.goto 18, 3) := by decide +kernel
theorem dX0_begin_78 : decode cX0_begin 78 = .ok (.aload_n 0, 1) := by decide +kernel
theorem dX0_begin_79 : decode cX0_begin 79 = .ok (.dup, 1) := by decide +kernel
theorem dX0_begin_80 : decode cX0_begin 80 = .ok (.getfield 30, 3) := by decide +kernel
theorem dX0_begin_83 : decode cX0_begin 83 = .ok (.aload_n 0, 1) := by decide +kernel
theorem dX0_begin_84 : decode cX0_begin 84 = .ok (.iload 5, 2) := by decide +kernel
theorem dX0_begin_86 : decode cX0_begin 86 = .ok (.invokevirtual 46, 3) := by decide +kernel
theorem dX0_begin_89 : decode cX0_begin 89 = .ok (.iadd, 1) := by decide +kernel
theorem dX0_begin_90 : decode cX0_begin 90 = .ok (.putfield 30, 3) := by decide +kernel
theorem dX0_begin_93 : decode cX0_begin 93 = .ok (.iinc 5 1, 3) := by decide +kernel
theorem dX0_begin_96 : decode cX0_begin 96 = .ok (.goto (-64), 3) := by decide +kernel
theorem dX0_begin_99 : decode cX0_begin 99 = .ok (.aload_n 0, 1) := by decide +kernel
theorem dX0_begin_100 : decode cX0_begin 100 = .ok (.aload_n 0, 1) := by decide +kernel
theorem dX0_begin_101 : decode cX0_begin 101 = .ok (.getfield 33, 3) := by decide +kernel
theorem dX0_begin_104 : decode cX0_begin 104 = .ok (.aload_n 0, 1) := by decide +kernel
theorem dX0_begin_105 : decode cX0_begin 105 = .ok (.getfield 30, 3) := by decide +kernel
theorem dX0_begin_108 : decode cX0_begin 108 = .ok (.bipush 20, 2) := by decide +kernel
theorem dX0_begin_110 : decode cX0_begin 110 = .ok (.iadd, 1) := by decide +kernel
theorem dX0_begin_111 : decode cX0_begin 111 = .ok (.iconst 1, 1) := by decide +kernel
theorem dX0_begin_112 : decode cX0_begin 112 = .ok (.isub, 1) := by decide +kernel
theorem dX0_begin_113 : decode cX0_begin 113 = .ok (.bipush 20, 2) := by decide +kernel
theorem dX0_begin_115 : decode cX0_begin 115 = .ok (.idiv, 1) := by decide +kernel
theorem dX0_begin_116 : decode cX0_begin 116 = .ok (.iadd, 1) := by decide +kernel
theorem dX0_begin_117 : decode cX0_begin 117 = .ok (.putfield 49, 3) := by decide +kernel
theorem dX0_begin_120 : decode cX0_begin 120 = .ok (.aload_n 1, 1) := by decide +kernel
theorem dX0_begin_121 : decode cX0_begin 121 = .ok (.iload_n 3, 1) := by decide +kernel
theorem dX0_begin_122 : decode cX0_begin 122 = .ok (.putfield 52, 3) := by decide +kernel
theorem dX0_begin_125 : decode cX0_begin 125 = .ok (.aload_n 1, 1) := by decide +kernel
theorem dX0_begin_126 : decode cX0_begin 126 = .ok (.iload 4, 2) := by decide +kernel
theorem dX0_begin_128 : decode cX0_begin 128 = .ok (.putfield 55, 3) := by decide +kernel
theorem dX0_begin_131 : decode cX0_begin 131 = .ok (.return_, 1) := by decide +kernel
theorem dX0_milkedBy_0 : decode cX0_milkedBy 0 = .ok (.aload_n 0, 1) := by decide +kernel
theorem dX0_milkedBy_1 : decode cX0_milkedBy 1 = .ok (.getfield 30, 3) := by decide +kernel
theorem dX0_milkedBy_4 : decode cX0_milkedBy 4 = .ok (.bipush 20, 2) := by decide +kernel
theorem dX0_milkedBy_6 : decode cX0_milkedBy 6 = .ok (.iconst 0, 1) := by decide +kernel
theorem dX0_milkedBy_7 : decode cX0_milkedBy 7 = .ok (.iload_n 1, 1) := by decide +kernel
theorem dX0_milkedBy_8 : decode cX0_milkedBy 8 = .ok (.aload_n 0, 1) := by decide +kernel
theorem dX0_milkedBy_9 : decode cX0_milkedBy 9 = .ok (.getfield 33, 3) := by decide +kernel
theorem dX0_milkedBy_12 : decode cX0_milkedBy 12 = .ok (.isub, 1) := by decide +kernel
theorem dX0_milkedBy_13 : decode cX0_milkedBy 13 = .ok (.invokestatic 58, 3) := by decide +kernel
theorem dX0_milkedBy_16 : decode cX0_milkedBy 16 = .ok (.imul, 1) := by decide +kernel
theorem dX0_milkedBy_17 : decode cX0_milkedBy 17 = .ok (.invokestatic 40, 3) := by decide +kernel
theorem dX0_milkedBy_20 : decode cX0_milkedBy 20 = .ok (.ireturn, 1) := by decide +kernel
theorem dX0_milkOfTeat_0 : decode cX0_milkOfTeat 0 = .ok (.aload_n 0, 1) := by decide +kernel
theorem dX0_milkOfTeat_1 : decode cX0_milkOfTeat 1 = .ok (.getfield 27, 3) := by decide +kernel
theorem dX0_milkOfTeat_4 : decode cX0_milkOfTeat 4 = .ok (.iconst 4, 1) := by decide +kernel
theorem dX0_milkOfTeat_5 : decode cX0_milkOfTeat 5 = .ok (.idiv, 1) := by decide +kernel
theorem dX0_milkOfTeat_6 : decode cX0_milkOfTeat 6 = .ok (.istore_n 2, 1) := by decide +kernel
theorem dX0_milkOfTeat_7 : decode cX0_milkOfTeat 7 = .ok (.iload_n 1, 1) := by decide +kernel
theorem dX0_milkOfTeat_8 : decode cX0_milkOfTeat 8 = .ok (.ifCond .ne 14, 3) := by decide +kernel
theorem dX0_milkOfTeat_11 : decode cX0_milkOfTeat 11 = .ok (.iload_n 2, 1) := by decide +kernel
theorem dX0_milkOfTeat_12 : decode cX0_milkOfTeat 12 = .ok (.aload_n 0, 1) := by decide +kernel
theorem dX0_milkOfTeat_13 : decode cX0_milkOfTeat 13 = .ok (.getfield 27, 3) := by decide +kernel
theorem dX0_milkOfTeat_16 : decode cX0_milkOfTeat 16 = .ok (.iconst 4, 1) := by decide +kernel
theorem dX0_milkOfTeat_17 : decode cX0_milkOfTeat 17 = .ok (.irem, 1) := by decide +kernel
theorem dX0_milkOfTeat_18 : decode cX0_milkOfTeat 18 = .ok (.iadd, 1) := by decide +kernel
theorem dX0_milkOfTeat_19 : decode cX0_milkOfTeat 19 = .ok (.goto 4, 3) := by decide +kernel
theorem dX0_milkOfTeat_22 : decode cX0_milkOfTeat 22 = .ok (.iload_n 2, 1) := by decide +kernel
theorem dX0_milkOfTeat_23 : decode cX0_milkOfTeat 23 = .ok (.ireturn, 1) := by decide +kernel
theorem dX1_init_0 : decode cX1_init 0 = .ok (.aload_n 0, 1) := by decide +kernel
theorem dX1_init_1 : decode cX1_init 1 = .ok (.invokespecial 3, 3) := by decide +kernel
theorem dX1_init_4 : decode cX1_init 4 = .ok (.aload_n 0, 1) := by decide +kernel
theorem dX1_init_5 : decode cX1_init 5 = .ok (.iconst 4, 1) := by decide +kernel
theorem dX1_init_6 : decode cX1_init 6 = .ok (.newarray .int, 2) := by decide +kernel
theorem dX1_init_8 : decode cX1_init 8 = .ok (.putfield 9, 3) := by decide +kernel
theorem dX1_init_11 : decode cX1_init 11 = .ok (.aload_n 0, 1) := by decide +kernel
theorem dX1_init_12 : decode cX1_init 12 = .ok (.iconst 5, 1) := by decide +kernel
theorem dX1_init_13 : decode cX1_init 13 = .ok (.newarray .int, 2) := by decide +kernel
theorem dX1_init_15 : decode cX1_init 15 = .ok (.putfield 15, 3) := by decide +kernel
theorem dX1_init_18 : decode cX1_init 18 = .ok (.aload_n 0, 1) := by decide +kernel
theorem dX1_init_19 : decode cX1_init 19 = .ok (.bipush (-9), 2) := by decide +kernel
theorem dX1_init_21 : decode cX1_init 21 = .ok (.putfield 18, 3) := by decide +kernel
theorem dX1_init_24 : decode cX1_init 24 = .ok (.aload_n 0, 1) := by decide +kernel
theorem dX1_init_25 : decode cX1_init 25 = .ok (.iload_n 1, 1) := by decide +kernel
theorem dX1_init_26 : decode cX1_init 26 = .ok (.putfield 22, 3) := by decide +kernel
theorem dX1_init_29 : decode cX1_init 29 = .ok (.aload_n 0, 1) := by decide +kernel
theorem dX1_init_30 : decode cX1_init 30 = .ok (.iload_n 2, 1) := by decide +kernel
theorem dX1_init_31 : decode cX1_init 31 = .ok (.putfield 25, 3) := by decide +kernel
theorem dX1_init_34 : decode cX1_init 34 = .ok (.aload_n 0, 1) := by decide +kernel
theorem dX1_init_35 : decode cX1_init 35 = .ok (.iload_n 3, 1) := by decide +kernel
theorem dX1_init_36 : decode cX1_init 36 = .ok (.putfield 28, 3) := by decide +kernel
theorem dX1_init_39 : decode cX1_init 39 = .ok (.aload_n 0, 1) := by decide +kernel
theorem dX1_init_40 : decode cX1_init 40 = .ok (.iload 4, 2) := by decide +kernel
theorem dX1_init_42 : decode cX1_init 42 = .ok (.putfield 31, 3) := by decide +kernel
theorem dX1_init_45 : decode cX1_init 45 = .ok (.aload_n 0, 1) := by decide +kernel
theorem dX1_init_46 : decode cX1_init 46 = .ok (.iload 5, 2) := by decide +kernel
theorem dX1_init_48 : decode cX1_init 48 = .ok (.putfield 34, 3) := by decide +kernel
theorem dX1_init_51 : decode cX1_init 51 = .ok (.return_, 1) := by decide +kernel
theorem dX1_milkAt_0 : decode cX1_milkAt 0 = .ok (.sipush 400, 3) := by decide +kernel
theorem dX1_milkAt_3 : decode cX1_milkAt 3 = .ok (.aload_n 0, 1) := by decide +kernel
theorem dX1_milkAt_4 : decode cX1_milkAt 4 = .ok (.getfield 37, 3) := by decide +kernel
theorem dX1_milkAt_7 : decode cX1_milkAt 7 = .ok (.aload_n 0, 1) := by decide +kernel
theorem dX1_milkAt_8 : decode cX1_milkAt 8 = .ok (.getfield 25, 3) := by decide +kernel
theorem dX1_milkAt_11 : decode cX1_milkAt 11 = .ok (.iload_n 1, 1) := by decide +kernel
theorem dX1_milkAt_12 : decode cX1_milkAt 12 = .ok (.aload_n 0, 1) := by decide +kernel
theorem dX1_milkAt_13 : decode cX1_milkAt 13 = .ok (.getfield 34, 3) := by decide +kernel
theorem dX1_milkAt_16 : decode cX1_milkAt 16 = .ok (.isub, 1) := by decide +kernel
theorem dX1_milkAt_17 : decode cX1_milkAt 17 = .ok (.imul, 1) := by decide +kernel
theorem dX1_milkAt_18 : decode cX1_milkAt 18 = .ok (.bipush 60, 2) := by decide +kernel
theorem dX1_milkAt_20 : decode cX1_milkAt 20 = .ok (.idiv, 1) := by decide +kernel
theorem dX1_milkAt_21 : decode cX1_milkAt 21 = .ok (.iadd, 1) := by decide +kernel
theorem dX1_milkAt_22 : decode cX1_milkAt 22 = .ok (.invokestatic 40, 3) := by decide +kernel
theorem dX1_milkAt_25 : decode cX1_milkAt 25 = .ok (.ireturn, 1) := by decide +kernel
theorem dX1_minutesTo_0 : decode cX1_minutesTo 0 = .ok (.aload_n 0, 1) := by decide +kernel
theorem dX1_minutesTo_1 : decode cX1_minutesTo 1 = .ok (.getfield 25, 3) := by decide +kernel
theorem dX1_minutesTo_4 : decode cX1_minutesTo 4 = .ok (.iconst 1, 1) := by decide +kernel
theorem dX1_minutesTo_5 : decode cX1_minutesTo 5 = .ok (.if_icmp .lt 12, 3) := by decide +kernel
theorem dX1_minutesTo_8 : decode cX1_minutesTo 8 = .ok (.iload_n 1, 1) := by decide +kernel
theorem dX1_minutesTo_9 : decode cX1_minutesTo 9 = .ok (.aload_n 0, 1) := by decide +kernel
theorem dX1_minutesTo_10 : decode cX1_minutesTo 10 = .ok (.iload_n 2, 1) := by decide +kernel
theorem dX1_minutesTo_11 : decode cX1_minutesTo 11 = .ok (.invokevirtual 46, 3) := by decide +kernel
theorem dX1_minutesTo_14 : decode cX1_minutesTo 14 = .ok (.if_icmp .gt 5, 3) := by decide +kernel
theorem dX1_minutesTo_17 : decode cX1_minutesTo 17 = .ok (.iconst 0, 1) := by decide +kernel
theorem dX1_minutesTo_18 : decode cX1_minutesTo 18 = .ok (.ireturn, 1) := by decide +kernel
theorem dX1_minutesTo_19 : decode cX1_minutesTo 19 = .ok (.iload_n 1, 1) := by decide +kernel
theorem dX1_minutesTo_20 : decode cX1_minutesTo 20 = .ok (.aload_n 0, 1) := by decide +kernel
theorem dX1_minutesTo_21 : decode cX1_minutesTo 21 = .ok (.getfield 37, 3) := by decide +kernel
theorem dX1_minutesTo_24 : decode cX1_minutesTo 24 = .ok (.isub, 1) := by decide +kernel
theorem dX1_minutesTo_25 : decode cX1_minutesTo 25 = .ok (.bipush 60, 2) := by decide +kernel
theorem dX1_minutesTo_27 : decode cX1_minutesTo 27 = .ok (.imul, 1) := by decide +kernel
theorem dX1_minutesTo_28 : decode cX1_minutesTo 28 = .ok (.aload_n 0, 1) := by decide +kernel
theorem dX1_minutesTo_29 : decode cX1_minutesTo 29 = .ok (.getfield 25, 3) := by decide +kernel
theorem dX1_minutesTo_32 : decode cX1_minutesTo 32 = .ok (.iadd, 1) := by decide +kernel
theorem dX1_minutesTo_33 : decode cX1_minutesTo 33 = .ok (.iconst 1, 1) := by decide +kernel
theorem dX1_minutesTo_34 : decode cX1_minutesTo 34 = .ok (.isub, 1) := by decide +kernel
theorem dX1_minutesTo_35 : decode cX1_minutesTo 35 = .ok (.aload_n 0, 1) := by decide +kernel
theorem dX1_minutesTo_36 : decode cX1_minutesTo 36 = .ok (.getfield 25, 3) := by decide +kernel
theorem dX1_minutesTo_39 : decode cX1_minutesTo 39 = .ok (.idiv, 1) := by decide +kernel
theorem dX1_minutesTo_40 : decode cX1_minutesTo 40 = .ok (.istore_n 3, 1) := by decide +kernel
theorem dX1_minutesTo_41 : decode cX1_minutesTo 41 = .ok (.iload_n 3, 1) := by decide +kernel
theorem dX1_minutesTo_42 : decode cX1_minutesTo 42 = .ok (.iload_n 2, 1) := by decide +kernel
theorem dX1_minutesTo_43 : decode cX1_minutesTo 43 = .ok (.aload_n 0, 1) := by decide +kernel
theorem dX1_minutesTo_44 : decode cX1_minutesTo 44 = .ok (.getfield 34, 3) := by decide +kernel
theorem dX1_minutesTo_47 : decode cX1_minutesTo 47 = .ok (.isub, 1) := by decide +kernel
theorem dX1_minutesTo_48 : decode cX1_minutesTo 48 = .ok (.isub, 1) := by decide +kernel
theorem dX1_minutesTo_49 : decode cX1_minutesTo 49 = .ok (.ireturn, 1) := by decide +kernel
theorem dX1_hasRightAt_0 : decode cX1_hasRightAt 0 = .ok (.aload_n 0, 1) := by decide +kernel
theorem dX1_hasRightAt_1 : decode cX1_hasRightAt 1 = .ok (.getfield 18, 3) := by decide +kernel
theorem dX1_hasRightAt_4 : decode cX1_hasRightAt 4 = .ok (.bipush (-9), 2) := by decide +kernel
theorem dX1_hasRightAt_6 : decode cX1_hasRightAt 6 = .ok (.if_icmp .eq 16, 3) := by decide +kernel
theorem dX1_hasRightAt_9 : decode cX1_hasRightAt 9 = .ok (.iload_n 1, 1) := by decide +kernel
theorem dX1_hasRightAt_10 : decode cX1_hasRightAt 10 = .ok (.aload_n 0, 1) := by decide +kernel
theorem dX1_hasRightAt_11 : decode cX1_hasRightAt 11 = .ok (.getfield 18, 3) := by decide +kernel
theorem dX1_hasRightAt_14 : decode cX1_hasRightAt 14 = .ok (.isub, 1) := by decide +kernel
theorem dX1_hasRightAt_15 : decode cX1_hasRightAt 15 = .ok (.aload_n 0, 1) := by decide +kernel
theorem dX1_hasRightAt_16 : decode cX1_hasRightAt 16 = .ok (.getfield 28, 3) := by decide +kernel
theorem dX1_hasRightAt_19 : decode cX1_hasRightAt 19 = .ok (.if_icmp .lt 7, 3) := by decide +kernel
theorem dX1_hasRightAt_22 : decode cX1_hasRightAt 22 = .ok (.iconst 1, 1) := by decide +kernel
theorem dX1_hasRightAt_23 : decode cX1_hasRightAt 23 = .ok (.goto 4, 3) := by decide +kernel
theorem dX1_hasRightAt_26 : decode cX1_hasRightAt 26 = .ok (.iconst 0, 1) := by decide +kernel
theorem dX1_hasRightAt_27 : decode cX1_hasRightAt 27 = .ok (.ireturn, 1) := by decide +kernel
theorem dX1_isWithheldAt_0 : decode cX1_isWithheldAt 0 = .ok (.aload_n 0, 1) := by decide +kernel
theorem dX1_isWithheldAt_1 : decode cX1_isWithheldAt 1 = .ok (.getfield 22, 3) := by decide +kernel
theorem dX1_isWithheldAt_4 : decode cX1_isWithheldAt 4 = .ok (.iconst 2, 1) := by decide +kernel
theorem dX1_isWithheldAt_5 : decode cX1_isWithheldAt 5 = .ok (.if_icmp .eq 11, 3) := by decide +kernel
theorem dX1_isWithheldAt_8 : decode cX1_isWithheldAt 8 = .ok (.aload_n 0, 1) := by decide +kernel
theorem dX1_isWithheldAt_9 : decode cX1_isWithheldAt 9 = .ok (.getfield 50, 3) := by decide +kernel
theorem dX1_isWithheldAt_12 : decode cX1_isWithheldAt 12 = .ok (.iload_n 1, 1) := by decide +kernel
theorem dX1_isWithheldAt_13 : decode cX1_isWithheldAt 13 = .ok (.if_icmp .le 7, 3) := by decide +kernel
theorem dX1_isWithheldAt_16 : decode cX1_isWithheldAt 16 = .ok (.iconst 1, 1) := by decide +kernel
theorem dX1_isWithheldAt_17 : decode cX1_isWithheldAt 17 = .ok (.goto 4, 3) := by decide +kernel
theorem dX1_isWithheldAt_20 : decode cX1_isWithheldAt 20 = .ok (.iconst 0, 1) := by decide +kernel
theorem dX1_isWithheldAt_21 : decode cX1_isWithheldAt 21 = .ok (.ireturn, 1) := by decide +kernel
theorem dX1_fedOn_0 : decode cX1_fedOn 0 = .ok (.aload_n 0, 1) := by decide +kernel
theorem dX1_fedOn_1 : decode cX1_fedOn 1 = .ok (.getfield 53, 3) := by decide +kernel
theorem dX1_fedOn_4 : decode cX1_fedOn 4 = .ok (.iload_n 1, 1) := by decide +kernel
theorem dX1_fedOn_5 : decode cX1_fedOn 5 = .ok (.if_icmp .ne 10, 3) := by decide +kernel
theorem dX1_fedOn_8 : decode cX1_fedOn 8 = .ok (.aload_n 0, 1) := by decide +kernel
theorem dX1_fedOn_9 : decode cX1_fedOn 9 = .ok (.getfield 56, 3) := by decide +kernel
theorem dX1_fedOn_12 : decode cX1_fedOn 12 = .ok (.goto 4, 3) := by decide +kernel
theorem dX1_fedOn_15 : decode cX1_fedOn 15 = .ok (.iconst 0, 1) := by decide +kernel
theorem dX1_fedOn_16 : decode cX1_fedOn 16 = .ok (.ireturn, 1) := by decide +kernel
theorem dX1_feedFor_0 : decode cX1_feedFor 0 = .ok (.aload_n 0, 1) := by decide +kernel
theorem dX1_feedFor_1 : decode cX1_feedFor 1 = .ok (.iload_n 2, 1) := by decide +kernel
theorem dX1_feedFor_2 : decode cX1_feedFor 2 = .ok (.invokevirtual 59, 3) := by decide +kernel
theorem dX1_feedFor_5 : decode cX1_feedFor 5 = .ok (.istore_n 3, 1) := by decide +kernel
theorem dX1_feedFor_6 : decode cX1_feedFor 6 = .ok (.bipush 10, 2) := by decide +kernel
theorem dX1_feedFor_8 : decode cX1_feedFor 8 = .ok (.iload_n 1, 1) := by decide +kernel
theorem dX1_feedFor_9 : decode cX1_feedFor 9 = .ok (.imul, 1) := by decide +kernel
theorem dX1_feedFor_10 : decode cX1_feedFor 10 = .ok (.aload_n 0, 1) := by decide +kernel
theorem dX1_feedFor_11 : decode cX1_feedFor 11 = .ok (.getfield 31, 3) := by decide +kernel
theorem dX1_feedFor_14 : decode cX1_feedFor 14 = .ok (.iload_n 3, 1) := by decide +kernel
theorem dX1_feedFor_15 : decode cX1_feedFor 15 = .ok (.isub, 1) := by decide +kernel
theorem dX1_feedFor_16 : decode cX1_feedFor 16 = .ok (.invokestatic 40, 3) := by decide +kernel
theorem dX1_feedFor_19 : decode cX1_feedFor 19 = .ok (.istore 4, 2) := by decide +kernel
theorem dX1_feedFor_21 : decode cX1_feedFor 21 = .ok (.aload_n 0, 1) := by decide +kernel
theorem dX1_feedFor_22 : decode cX1_feedFor 22 = .ok (.iload_n 2, 1) := by decide +kernel
theorem dX1_feedFor_23 : decode cX1_feedFor 23 = .ok (.putfield 53, 3) := by decide +kernel
theorem dX1_feedFor_26 : decode cX1_feedFor 26 = .ok (.aload_n 0, 1) := by decide +kernel
theorem dX1_feedFor_27 : decode cX1_feedFor 27 = .ok (.iload_n 3, 1) := by decide +kernel
theorem dX1_feedFor_28 : decode cX1_feedFor 28 = .ok (.iload 4, 2) := by decide +kernel
theorem dX1_feedFor_30 : decode cX1_feedFor 30 = .ok (.iadd, 1) := by decide +kernel
theorem dX1_feedFor_31 : decode cX1_feedFor 31 = .ok (.putfield 56, 3) := by decide +kernel
theorem dX1_feedFor_34 : decode cX1_feedFor 34 = .ok (.iload 4, 2) := by decide +kernel
theorem dX1_feedFor_36 : decode cX1_feedFor 36 = .ok (.ireturn, 1) := by decide +kernel
theorem dX1_isAlarming_0 : decode cX1_isAlarming 0 = .ok (.aload_n 0, 1) := by decide +kernel
theorem dX1_isAlarming_1 : decode cX1_isAlarming 1 = .ok (.getfield 62, 3) := by decide +kernel
theorem dX1_isAlarming_4 : decode cX1_isAlarming 4 = .ok (.iconst 3, 1) := by decide +kernel
theorem dX1_isAlarming_5 : decode cX1_isAlarming 5 = .ok (.if_icmp .ge 5, 3) := by decide +kernel
theorem dX1_isAlarming_8 : decode cX1_isAlarming 8 = .ok (.iconst 0, 1) := by decide +kernel
theorem dX1_isAlarming_9 : decode cX1_isAlarming 9 = .ok (.ireturn, 1) := by decide +kernel
theorem dX1_isAlarming_10 : decode cX1_isAlarming 10 = .ok (.iconst 0, 1) := by decide +kernel
theorem dX1_isAlarming_11 : decode cX1_isAlarming 11 = .ok (.istore_n 2, 1) := by decide +kernel
theorem dX1_isAlarming_12 : decode cX1_isAlarming 12 = .ok (.iconst 0, 1) := by decide +kernel
theorem dX1_isAlarming_13 : decode cX1_isAlarming 13 = .ok (.istore_n 3, 1) := by decide +kernel
theorem dX1_isAlarming_14 : decode cX1_isAlarming 14 = .ok (.iload_n 3, 1) := by decide +kernel
theorem dX1_isAlarming_15 : decode cX1_isAlarming 15 = .ok (.aload_n 0, 1) := by decide +kernel
theorem dX1_isAlarming_16 : decode cX1_isAlarming 16 = .ok (.getfield 15, 3) := by decide +kernel
theorem dX1_isAlarming_19 : decode cX1_isAlarming 19 = .ok (.arraylength, 1) := by decide +kernel
theorem dX1_isAlarming_20 : decode cX1_isAlarming 20 = .ok (.if_icmp .ge 18, 3) := by decide +kernel
theorem dX1_isAlarming_23 : decode cX1_isAlarming 23 = .ok (.iload_n 2, 1) := by decide +kernel
theorem dX1_isAlarming_24 : decode cX1_isAlarming 24 = .ok (.aload_n 0, 1) := by decide +kernel
theorem dX1_isAlarming_25 : decode cX1_isAlarming 25 = .ok (.getfield 15, 3) := by decide +kernel
theorem dX1_isAlarming_28 : decode cX1_isAlarming 28 = .ok (.iload_n 3, 1) := by decide +kernel
theorem dX1_isAlarming_29 : decode cX1_isAlarming 29 = .ok (.iaload, 1) := by decide +kernel
theorem dX1_isAlarming_30 : decode cX1_isAlarming 30 = .ok (.iadd, 1) := by decide +kernel
theorem dX1_isAlarming_31 : decode cX1_isAlarming 31 = .ok (.istore_n 2, 1) := by decide +kernel
theorem dX1_isAlarming_32 : decode cX1_isAlarming 32 = .ok (.iinc 3 1, 3) := by decide +kernel
theorem dX1_isAlarming_35 : decode cX1_isAlarming 35 = .ok (.goto (-21), 3) := by decide +kernel
theorem dX1_isAlarming_38 : decode cX1_isAlarming 38 = .ok (.bipush 10, 2) := by decide +kernel
theorem dX1_isAlarming_40 : decode cX1_isAlarming 40 = .ok (.iload_n 1, 1) := by decide +kernel
theorem dX1_isAlarming_41 : decode cX1_isAlarming 41 = .ok (.imul, 1) := by decide +kernel
theorem dX1_isAlarming_42 : decode cX1_isAlarming 42 = .ok (.aload_n 0, 1) := by decide +kernel
theorem dX1_isAlarming_43 : decode cX1_isAlarming 43 = .ok (.getfield 62, 3) := by decide +kernel
theorem dX1_isAlarming_46 : decode cX1_isAlarming 46 = .ok (.iconst 5, 1) := by decide +kernel
theorem dX1_isAlarming_47 : decode cX1_isAlarming 47 = .ok (.invokestatic 40, 3) := by decide +kernel
theorem dX1_isAlarming_50 : decode cX1_isAlarming 50 = .ok (.imul, 1) := by decide +kernel
theorem dX1_isAlarming_51 : decode cX1_isAlarming 51 = .ok (.bipush 12, 2) := by decide +kernel
theorem dX1_isAlarming_53 : decode cX1_isAlarming 53 = .ok (.iload_n 2, 1) := by decide +kernel
theorem dX1_isAlarming_54 : decode cX1_isAlarming 54 = .ok (.imul, 1) := by decide +kernel
theorem dX1_isAlarming_55 : decode cX1_isAlarming 55 = .ok (.if_icmp .le 7, 3) := by decide +kernel
theorem dX1_isAlarming_58 : decode cX1_isAlarming 58 = .ok (.iconst 1, 1) := by decide +kernel
theorem dX1_isAlarming_59 : decode cX1_isAlarming 59 = .ok (.goto 4, 3) := by decide +kernel
theorem dX1_isAlarming_62 : decode cX1_isAlarming 62 = .ok (.iconst 0, 1) := by decide +kernel
theorem dX1_isAlarming_63 : decode cX1_isAlarming 63 = .ok (.ireturn, 1) := by decide +kernel
theorem dX1_keepReading_0 : decode cX1_keepReading 0 = .ok (.aload_n 0, 1) := by decide +kernel
theorem dX1_keepReading_1 : decode cX1_keepReading 1 = .ok (.getfield 62, 3) := by decide +kernel
theorem dX1_keepReading_4 : decode cX1_keepReading 4 = .ok (.iconst 5, 1) := by decide +kernel
theorem dX1_keepReading_5 : decode cX1_keepReading 5 = .ok (.irem, 1) := by decide +kernel
theorem dX1_keepReading_6 : decode cX1_keepReading 6 = .ok (.istore_n 2, 1) := by decide +kernel
theorem dX1_keepReading_7 : decode cX1_keepReading 7 = .ok (.iload_n 2, 1) := by decide +kernel
theorem dX1_keepReading_8 : decode cX1_keepReading 8 = .ok (.ifCond .lt 19, 3) := by decide +kernel
theorem dX1_keepReading_11 : decode cX1_keepReading 11 = .ok (.iload_n 2, 1) := by decide +kernel
theorem dX1_keepReading_12 : decode cX1_keepReading 12 = .ok (.aload_n 0, 1) := by decide +kernel
theorem dX1_keepReading_13 : decode cX1_keepReading 13 = .ok (.getfield 15, 3) := by decide +kernel
theorem dX1_keepReading_16 : decode cX1_keepReading 16 = .ok (.arraylength, 1) := by decide +kernel
theorem dX1_keepReading_17 : decode cX1_keepReading 17 = .ok (.if_icmp .ge 10, 3) := by decide +kernel
theorem dX1_keepReading_20 : decode cX1_keepReading 20 = .ok (.aload_n 0, 1) := by decide +kernel
theorem dX1_keepReading_21 : decode cX1_keepReading 21 = .ok (.getfield 15, 3) := by decide +kernel
theorem dX1_keepReading_24 : decode cX1_keepReading 24 = .ok (.iload_n 2, 1) := by decide +kernel
theorem dX1_keepReading_25 : decode cX1_keepReading 25 = .ok (.iload_n 1, 1) := by decide +kernel
theorem dX1_keepReading_26 : decode cX1_keepReading 26 = .ok (.iastore, 1) := by decide +kernel
theorem dX1_keepReading_27 : decode cX1_keepReading 27 = .ok (.aload_n 0, 1) := by decide +kernel
theorem dX1_keepReading_28 : decode cX1_keepReading 28 = .ok (.dup, 1) := by decide +kernel
theorem dX1_keepReading_29 : decode cX1_keepReading 29 = .ok (.getfield 62, 3) := by decide +kernel
theorem dX1_keepReading_32 : decode cX1_keepReading 32 = .ok (.iconst 1, 1) := by decide +kernel
theorem dX1_keepReading_33 : decode cX1_keepReading 33 = .ok (.iadd, 1) := by decide +kernel
theorem dX1_keepReading_34 : decode cX1_keepReading 34 = .ok (.putfield 62, 3) := by decide +kernel
theorem dX1_keepReading_37 : decode cX1_keepReading 37 = .ok (.return_, 1) := by decide +kernel
theorem dX1_beginMilking_0 : decode cX1_beginMilking 0 = .ok (.aload_n 0, 1) := by decide +kernel
theorem dX1_beginMilking_1 : decode cX1_beginMilking 1 = .ok (.iload_n 1, 1) := by decide +kernel
theorem dX1_beginMilking_2 : decode cX1_beginMilking 2 = .ok (.putfield 18, 3) := by decide +kernel
theorem dX1_beginMilking_5 : decode cX1_beginMilking 5 = .ok (.aload_n 0, 1) := by decide +kernel
theorem dX1_beginMilking_6 : decode cX1_beginMilking 6 = .ok (.iload_n 1, 1) := by decide +kernel
theorem dX1_beginMilking_7 : decode cX1_beginMilking 7 = .ok (.putfield 34, 3) := by decide +kernel
theorem dX1_beginMilking_10 : decode cX1_beginMilking 10 = .ok (.aload_n 0, 1) := by decide +kernel
theorem dX1_beginMilking_11 : decode cX1_beginMilking 11 = .ok (.iconst 0, 1) := by decide +kernel
theorem dX1_beginMilking_12 : decode cX1_beginMilking 12 = .ok (.putfield 37, 3) := by decide +kernel
theorem dX1_beginMilking_15 : decode cX1_beginMilking 15 = .ok (.iconst 0, 1) := by decide +kernel
theorem dX1_beginMilking_16 : decode cX1_beginMilking 16 = .ok (.istore_n 2, 1) := by decide +kernel
theorem dX1_beginMilking_17 : decode cX1_beginMilking 17 = .ok (.iload_n 2, 1) := by decide +kernel
theorem dX1_beginMilking_18 : decode cX1_beginMilking 18 = .ok (.aload_n 0, 1) := by decide +kernel
theorem dX1_beginMilking_19 : decode cX1_beginMilking 19 = .ok (.getfield 9, 3) := by decide +kernel
theorem dX1_beginMilking_22 : decode cX1_beginMilking 22 = .ok (.arraylength, 1) := by decide +kernel
theorem dX1_beginMilking_23 : decode cX1_beginMilking 23 = .ok (.if_icmp .ge 16, 3) := by decide +kernel
theorem dX1_beginMilking_26 : decode cX1_beginMilking 26 = .ok (.aload_n 0, 1) := by decide +kernel
theorem dX1_beginMilking_27 : decode cX1_beginMilking 27 = .ok (.getfield 9, 3) := by decide +kernel
theorem dX1_beginMilking_30 : decode cX1_beginMilking 30 = .ok (.iload_n 2, 1) := by decide +kernel
theorem dX1_beginMilking_31 : decode cX1_beginMilking 31 = .ok (.iconst 0, 1) := by decide +kernel
theorem dX1_beginMilking_32 : decode cX1_beginMilking 32 = .ok (.iastore, 1) := by decide +kernel
theorem dX1_beginMilking_33 : decode cX1_beginMilking 33 = .ok (.iinc 2 1, 3) := by decide +kernel
theorem dX1_beginMilking_36 : decode cX1_beginMilking 36 = .ok (.goto (-19), 3) := by decide +kernel
theorem dX1_beginMilking_39 : decode cX1_beginMilking 39 = .ok (.return_, 1) := by decide +kernel
theorem dX2_init_0 : decode cX2_init 0 = .ok (.aload_n 0, 1) := by decide +kernel
theorem dX2_init_1 : decode cX2_init 1 = .ok (.invokespecial 3, 3) := by decide +kernel
theorem dX2_init_4 : decode cX2_init 4 = .ok (.aload_n 0, 1) := by decide +kernel
theorem dX2_init_5 : decode cX2_init 5 = .ok (.bipush 12, 2) := by decide +kernel
theorem dX2_init_7 : decode cX2_init 7 = .ok (.anewarray 9, 3) := by decide +kernel
theorem dX2_init_10 : decode cX2_init 10 = .ok (.putfield 11, 3) := by decide +kernel
theorem dX2_init_13 : decode cX2_init 13 = .ok (.return_, 1) := by decide +kernel
theorem dX2_at_0 : decode cX2_at 0 = .ok (.iload_n 1, 1) := by decide +kernel
theorem dX2_at_1 : decode cX2_at 1 = .ok (.ifCond .lt 29, 3) := by decide +kernel
theorem dX2_at_4 : decode cX2_at 4 = .ok (.iload_n 1, 1) := by decide +kernel
theorem dX2_at_5 : decode cX2_at 5 = .ok (.aload_n 0, 1) := by decide +kernel
theorem dX2_at_6 : decode cX2_at 6 = .ok (.getfield 17, 3) := by decide +kernel
theorem dX2_at_9 : decode cX2_at 9 = .ok (.if_icmp .ge 21, 3) := by decide +kernel
theorem dX2_at_12 : decode cX2_at 12 = .ok (.iload_n 1, 1) := by decide +kernel
theorem dX2_at_13 : decode cX2_at 13 = .ok (.aload_n 0, 1) := by decide +kernel
theorem dX2_at_14 : decode cX2_at 14 = .ok (.getfield 11, 3) := by decide +kernel
theorem dX2_at_17 : decode cX2_at 17 = .ok (.arraylength, 1) := by decide +kernel
theorem dX2_at_18 : decode cX2_at 18 = .ok (.if_icmp .ge 12, 3) := by decide +kernel
theorem dX2_at_21 : decode cX2_at 21 = .ok (.aload_n 0, 1) := by decide +kernel
theorem dX2_at_22 : decode cX2_at 22 = .ok (.getfield 11, 3) := by decide +kernel
theorem dX2_at_25 : decode cX2_at 25 = .ok (.iload_n 1, 1) := by decide +kernel
theorem dX2_at_26 : decode cX2_at 26 = .ok (.aaload, 1) := by decide +kernel
theorem dX2_at_27 : decode cX2_at 27 = .ok (.goto 4, 3) := by decide +kernel
theorem dX2_at_30 : decode cX2_at 30 = .ok (.aconst_null, 1) := by decide +kernel
theorem dX2_at_31 : decode cX2_at 31 = .ok (.areturn, 1) := by decide +kernel
theorem dX2_placeOf_0 : decode cX2_placeOf 0 = .ok (.iconst 0, 1) := by decide +kernel
theorem dX2_placeOf_1 : decode cX2_placeOf 1 = .ok (.istore_n 2, 1) := by decide +kernel
theorem dX2_placeOf_2 : decode cX2_placeOf 2 = .ok (.iload_n 2, 1) := by decide +kernel
theorem dX2_placeOf_3 : decode cX2_placeOf 3 = .ok (.aload_n 0, 1) := by decide +kernel
theorem dX2_placeOf_4 : decode cX2_placeOf 4 = .ok (.getfield 17, 3) := by decide +kernel
theorem dX2_placeOf_7 : decode cX2_placeOf 7 = .ok (.if_icmp .ge 29, 3) := by decide +kernel
theorem dX2_placeOf_10 : decode cX2_placeOf 10 = .ok (.aload_n 0, 1) := by decide +kernel
theorem dX2_placeOf_11 : decode cX2_placeOf 11 = .ok (.iload_n 2, 1) := by decide +kernel
theorem dX2_placeOf_12 : decode cX2_placeOf 12 = .ok (.invokevirtual 21, 3) := by decide +kernel
theorem dX2_placeOf_15 : decode cX2_placeOf 15 = .ok (.astore_n 3, 1) := by decide +kernel
theorem dX2_placeOf_16 : decode cX2_placeOf 16 = .ok (.aload_n 3, 1) := by decide +kernel
theorem dX2_placeOf_17 : decode cX2_placeOf 17 = .ok (.ifnull 13, 3) := by decide +kernel
theorem dX2_placeOf_20 : decode cX2_placeOf 20 = .ok (.aload_n 3, 1) := by decide +kernel
theorem dX2_placeOf_21 : decode cX2_placeOf 21 = .ok (.getfield 25, 3) := by decide +kernel
theorem dX2_placeOf_24 : decode cX2_placeOf 24 = .ok (.iload_n 1, 1) := by decide +kernel
theorem dX2_placeOf_25 : decode cX2_placeOf 25 = .ok (.if_icmp .ne 5, 3) := by decide +kernel
theorem dX2_placeOf_28 : decode cX2_placeOf 28 = .ok (.iload_n 2, 1) := by decide +kernel
theorem dX2_placeOf_29 : decode cX2_placeOf 29 = .ok (.ireturn, 1) := by decide +kernel
theorem dX2_placeOf_30 : decode cX2_placeOf 30 = .ok (.iinc 2 1, 3) := by decide +kernel
theorem dX2_placeOf_33 : decode cX2_placeOf 33 = .ok (.goto (-31), 3) := by decide +kernel
theorem dX2_placeOf_36 : decode cX2_placeOf 36 = .ok (.bipush (-9), 2) := by decide +kernel
theorem dX2_placeOf_38 : decode cX2_placeOf 38 = .ok (.ireturn, 1) := by decide +kernel
theorem dX2_addLast_0 : decode cX2_addLast 0 = .ok (.aload_n 0, 1) := by decide +kernel
theorem dX2_addLast_1 : decode cX2_addLast 1 = .ok (.getfield 17, 3) := by decide +kernel
theorem dX2_addLast_4 : decode cX2_addLast 4 = .ok (.ifCond .lt 35, 3) := by decide +kernel
theorem dX2_addLast_7 : decode cX2_addLast 7 = .ok (.aload_n 0, 1) := by decide +kernel
theorem dX2_addLast_8 : decode cX2_addLast 8 = .ok (.getfield 17, 3) := by decide +kernel
theorem dX2_addLast_11 : decode cX2_addLast 11 = .ok (.aload_n 0, 1) := by decide +kernel
theorem dX2_addLast_12 : decode cX2_addLast 12 = .ok (.getfield 11, 3) := by decide +kernel
theorem dX2_addLast_15 : decode cX2_addLast 15 = .ok (.arraylength, 1) := by decide +kernel
theorem dX2_addLast_16 : decode cX2_addLast 16 = .ok (.if_icmp .ge 23, 3) := by decide +kernel
theorem dX2_addLast_19 : decode cX2_addLast 19 = .ok (.aload_n 0, 1) := by decide +kernel
theorem dX2_addLast_20 : decode cX2_addLast 20 = .ok (.getfield 11, 3) := by decide +kernel
theorem dX2_addLast_23 : decode cX2_addLast 23 = .ok (.aload_n 0, 1) := by decide +kernel
theorem dX2_addLast_24 : decode cX2_addLast 24 = .ok (.getfield 17, 3) := by decide +kernel
theorem dX2_addLast_27 : decode cX2_addLast 27 = .ok (.aload_n 1, 1) := by decide +kernel
theorem dX2_addLast_28 : decode cX2_addLast 28 = .ok (.aastore, 1) := by decide +kernel
theorem dX2_addLast_29 : decode cX2_addLast 29 = .ok (.aload_n 0, 1) := by decide +kernel
theorem dX2_addLast_30 : decode cX2_addLast 30 = .ok (.dup, 1) := by decide +kernel
theorem dX2_addLast_31 : decode cX2_addLast 31 = .ok (.getfield 17, 3) := by decide +kernel
theorem dX2_addLast_34 : decode cX2_addLast 34 = .ok (.iconst 1, 1) := by decide +kernel
theorem dX2_addLast_35 : decode cX2_addLast 35 = .ok (.iadd, 1) := by decide +kernel
theorem dX2_addLast_36 : decode cX2_addLast 36 = .ok (.putfield 17, 3) := by decide +kernel
theorem dX2_addLast_39 : decode cX2_addLast 39 = .ok (.return_, 1) := by decide +kernel
theorem dX2_takeNext_0 : decode cX2_takeNext 0 = .ok (.aload_n 0, 1) := by decide +kernel
theorem dX2_takeNext_1 : decode cX2_takeNext 1 = .ok (.iload_n 1, 1) := by decide +kernel
theorem dX2_takeNext_2 : decode cX2_takeNext 2 = .ok (.invokevirtual 28, 3) := by decide +kernel
theorem dX2_takeNext_5 : decode cX2_takeNext 5 = .ok (.istore_n 2, 1) := by decide +kernel
theorem dX2_takeNext_6 : decode cX2_takeNext 6 = .ok (.aload_n 0, 1) := by decide +kernel
theorem dX2_takeNext_7 : decode cX2_takeNext 7 = .ok (.iload_n 2, 1) := by decide +kernel
theorem dX2_takeNext_8 : decode cX2_takeNext 8 = .ok (.invokevirtual 21, 3) := by decide +kernel
theorem dX2_takeNext_11 : decode cX2_takeNext 11 = .ok (.astore_n 3, 1) := by decide +kernel
theorem dX2_takeNext_12 : decode cX2_takeNext 12 = .ok (.aload_n 3, 1) := by decide +kernel
theorem dX2_takeNext_13 : decode cX2_takeNext 13 = .ok (.ifnull 8, 3) := by decide +kernel
theorem dX2_takeNext_16 : decode cX2_takeNext 16 = .ok (.aload_n 0, 1) := by decide +kernel
theorem dX2_takeNext_17 : decode cX2_takeNext 17 = .ok (.iload_n 2, 1) := by decide +kernel
theorem dX2_takeNext_18 : decode cX2_takeNext 18 = .ok (.invokevirtual 32, 3) := by decide +kernel
theorem dX2_takeNext_21 : decode cX2_takeNext 21 = .ok (.aload_n 3, 1) := by decide +kernel
theorem dX2_takeNext_22 : decode cX2_takeNext 22 = .ok (.areturn, 1) := by decide +kernel
theorem dX2_choose_0 : decode cX2_choose 0 = .ok (.iconst 0, 1) := by decide +kernel
theorem dX2_choose_1 : decode cX2_choose 1 = .ok (.istore_n 2, 1) := by decide +kernel
theorem dX2_choose_2 : decode cX2_choose 2 = .ok (.iload_n 2, 1) := by decide +kernel
theorem dX2_choose_3 : decode cX2_choose 3 = .ok (.aload_n 0, 1) := by decide +kernel
theorem dX2_choose_4 : decode cX2_choose 4 = .ok (.getfield 17, 3) := by decide +kernel
theorem dX2_choose_7 : decode cX2_choose 7 = .ok (.if_icmp .ge 39, 3) := by decide +kernel
theorem dX2_choose_10 : decode cX2_choose 10 = .ok (.aload_n 0, 1) := by decide +kernel
theorem dX2_choose_11 : decode cX2_choose 11 = .ok (.iload_n 2, 1) := by decide +kernel
theorem dX2_choose_12 : decode cX2_choose 12 = .ok (.invokevirtual 21, 3) := by decide +kernel
theorem dX2_choose_15 : decode cX2_choose 15 = .ok (.astore_n 3, 1) := by decide +kernel
theorem dX2_choose_16 : decode cX2_choose 16 = .ok (.aload_n 3, 1) := by decide +kernel
theorem dX2_choose_17 : decode cX2_choose 17 = .ok (.ifnull 23, 3) := by decide +kernel
theorem dX2_choose_20 : decode cX2_choose 20 = .ok (.aload_n 3, 1) := by decide +kernel
theorem dX2_choose_21 : decode cX2_choose 21 = .ok (.getfield 36, 3) := by decide +kernel
theorem dX2_choose_24 : decode cX2_choose 24 = .ok (.ifCond .eq 16, 3) := by decide +kernel
theorem dX2_choose_27 : decode cX2_choose 27 = .ok (.iload_n 1, 1) := by decide +kernel
theorem dX2_choose_28 : decode cX2_choose 28 = .ok (.aload_n 3, 1) := by decide +kernel
theorem dX2_choose_29 : decode cX2_choose 29 = .ok (.getfield 40, 3) := by decide +kernel
theorem dX2_choose_32 : decode cX2_choose 32 = .ok (.isub, 1) := by decide +kernel
theorem dX2_choose_33 : decode cX2_choose 33 = .ok (.bipush 30, 2) := by decide +kernel
theorem dX2_choose_35 : decode cX2_choose 35 = .ok (.if_icmp .lt 5, 3) := by decide +kernel
theorem dX2_choose_38 : decode cX2_choose 38 = .ok (.iload_n 2, 1) := by decide +kernel
theorem dX2_choose_39 : decode cX2_choose 39 = .ok (.ireturn, 1) := by decide +kernel
theorem dX2_choose_40 : decode cX2_choose 40 = .ok (.iinc 2 1, 3) := by decide +kernel
theorem dX2_choose_43 : decode cX2_choose 43 = .ok (.goto (-41), 3) := by decide +kernel
theorem dX2_choose_46 : decode cX2_choose 46 = .ok (.iconst 0, 1) := by decide +kernel
theorem dX2_choose_47 : decode cX2_choose 47 = .ok (.ireturn, 1) := by decide +kernel
theorem dX2_closeUp_0 : decode cX2_closeUp 0 = .ok (.iconst 0, 1) := by decide +kernel
theorem dX2_closeUp_1 : decode cX2_closeUp 1 = .ok (.iload_n 1, 1) := by decide +kernel
theorem dX2_closeUp_2 : decode cX2_closeUp 2 = .ok (.invokestatic 43, 3) := by decide +kernel
theorem dX2_closeUp_5 : decode cX2_closeUp 5 = .ok (.istore_n 2, 1) := by decide +kernel
theorem dX2_closeUp_6 : decode cX2_closeUp 6 = .ok (.iload_n 2, 1) := by decide +kernel
theorem dX2_closeUp_7 : decode cX2_closeUp 7 = .ok (.iconst 1, 1) := by decide +kernel
theorem dX2_closeUp_8 : decode cX2_closeUp 8 = .ok (.iadd, 1) := by decide +kernel
theorem dX2_closeUp_9 : decode cX2_closeUp 9 = .ok (.aload_n 0, 1) := by decide +kernel
theorem dX2_closeUp_10 : decode cX2_closeUp 10 = .ok (.getfield 17, 3) := by decide +kernel
theorem dX2_closeUp_13 : decode cX2_closeUp 13 = .ok (.if_icmp .ge 34, 3) := by decide +kernel
theorem dX2_closeUp_16 : decode cX2_closeUp 16 = .ok (.iload_n 2, 1) := by decide +kernel
theorem dX2_closeUp_17 : decode cX2_closeUp 17 = .ok (.iconst 1, 1) := by decide +kernel
theorem dX2_closeUp_18 : decode cX2_closeUp 18 = .ok (.iadd, 1) := by decide +kernel
theorem dX2_closeUp_19 : decode cX2_closeUp 19 = .ok (.aload_n 0, 1) := by decide +kernel
theorem dX2_closeUp_20 : decode cX2_closeUp 20 = .ok (.getfield 11, 3) := by decide +kernel
theorem dX2_closeUp_23 : decode cX2_closeUp 23 = .ok (.arraylength, 1) := by decide +kernel
theorem dX2_closeUp_24 : decode cX2_closeUp 24 = .ok (.if_icmp .ge 23, 3) := by decide +kernel
theorem dX2_closeUp_27 : decode cX2_closeUp 27 = .ok (.aload_n 0, 1) := by decide +kernel
theorem dX2_closeUp_28 : decode cX2_closeUp 28 = .ok (.getfield 11, 3) := by decide +kernel
theorem dX2_closeUp_31 : decode cX2_closeUp 31 = .ok (.iload_n 2, 1) := by decide +kernel
theorem dX2_closeUp_32 : decode cX2_closeUp 32 = .ok (.aload_n 0, 1) := by decide +kernel
theorem dX2_closeUp_33 : decode cX2_closeUp 33 = .ok (.getfield 11, 3) := by decide +kernel
theorem dX2_closeUp_36 : decode cX2_closeUp 36 = .ok (.iload_n 2, 1) := by decide +kernel
theorem dX2_closeUp_37 : decode cX2_closeUp 37 = .ok (.iconst 1, 1) := by decide +kernel
theorem dX2_closeUp_38 : decode cX2_closeUp 38 = .ok (.iadd, 1) := by decide +kernel
theorem dX2_closeUp_39 : decode cX2_closeUp 39 = .ok (.aaload, 1) := by decide +kernel
theorem dX2_closeUp_40 : decode cX2_closeUp 40 = .ok (.aastore, 1) := by decide +kernel
theorem dX2_closeUp_41 : decode cX2_closeUp 41 = .ok (.iinc 2 1, 3) := by decide +kernel
theorem dX2_closeUp_44 : decode cX2_closeUp 44 = .ok (.goto (-38), 3) := by decide +kernel
theorem dX2_closeUp_47 : decode cX2_closeUp 47 = .ok (.aload_n 0, 1) := by decide +kernel
theorem dX2_closeUp_48 : decode cX2_closeUp 48 = .ok (.dup, 1) := by decide +kernel
theorem dX2_closeUp_49 : decode cX2_closeUp 49 = .ok (.getfield 17, 3) := by decide +kernel
theorem dX2_closeUp_52 : decode cX2_closeUp 52 = .ok (.iconst 1, 1) := by decide +kernel
theorem dX2_closeUp_53 : decode cX2_closeUp 53 = .ok (.isub, 1) := by decide +kernel
theorem dX2_closeUp_54 : decode cX2_closeUp 54 = .ok (.putfield 17, 3) := by decide +kernel
theorem dX2_closeUp_57 : decode cX2_closeUp 57 = .ok (.return_, 1) := by decide +kernel
theorem dX3_init_0 : decode cX3_init 0 = .ok (.aload_n 0, 1) := by decide +kernel
theorem dX3_init_1 : decode cX3_init 1 = .ok (.invokespecial 3, 3) := by decide +kernel
theorem dX3_init_4 : decode cX3_init 4 = .ok (.aload_n 0, 1) := by decide +kernel
theorem dX3_init_5 : decode cX3_init 5 = .ok (.sipush 5000, 3) := by decide +kernel
theorem dX3_init_8 : decode cX3_init 8 = .ok (.putfield 9, 3) := by decide +kernel
theorem dX3_init_11 : decode cX3_init 11 = .ok (.return_, 1) := by decide +kernel
theorem dX3_put_0 : decode cX3_put 0 = .ok (.iload_n 2, 1) := by decide +kernel
theorem dX3_put_1 : decode cX3_put 1 = .ok (.ifCond .eq 15, 3) := by decide +kernel
theorem dX3_put_4 : decode cX3_put 4 = .ok (.aload_n 0, 1) := by decide +kernel
theorem dX3_put_5 : decode cX3_put 5 = .ok (.dup, 1) := by decide +kernel
theorem dX3_put_6 : decode cX3_put 6 = .ok (.getfield 15, 3) := by decide +kernel
theorem dX3_put_9 : decode cX3_put 9 = .ok (.iload_n 1, 1) := by decide +kernel
theorem dX3_put_10 : decode cX3_put 10 = .ok (.iadd, 1) := by decide +kernel
theorem dX3_put_11 : decode cX3_put 11 = .ok (.putfield 15, 3) := by decide +kernel
theorem dX3_put_14 : decode cX3_put 14 = .ok (.iconst 1, 1) := by decide +kernel
theorem dX3_put_15 : decode cX3_put 15 = .ok (.ireturn, 1) := by decide +kernel
theorem dX3_put_16 : decode cX3_put 16 = .ok (.iload_n 1, 1) := by decide +kernel
theorem dX3_put_17 : decode cX3_put 17 = .ok (.aload_n 0, 1) := by decide +kernel
theorem dX3_put_18 : decode cX3_put 18 = .ok (.getfield 9, 3) := by decide +kernel
theorem dX3_put_21 : decode cX3_put 21 = .ok (.aload_n 0, 1) := by decide +kernel
theorem dX3_put_22 : decode cX3_put 22 = .ok (.getfield 18, 3) := by decide +kernel
theorem dX3_put_25 : decode cX3_put 25 = .ok (.isub, 1) := by decide +kernel
theorem dX3_put_26 : decode cX3_put 26 = .ok (.if_icmp .gt 15, 3) := by decide +kernel
theorem dX3_put_29 : decode cX3_put 29 = .ok (.aload_n 0, 1) := by decide +kernel
theorem dX3_put_30 : decode cX3_put 30 = .ok (.dup, 1) := by decide +kernel
theorem dX3_put_31 : decode cX3_put 31 = .ok (.getfield 18, 3) := by decide +kernel
theorem dX3_put_34 : decode cX3_put 34 = .ok (.iload_n 1, 1) := by decide +kernel
theorem dX3_put_35 : decode cX3_put 35 = .ok (.iadd, 1) := by decide +kernel
theorem dX3_put_36 : decode cX3_put 36 = .ok (.putfield 18, 3) := by decide +kernel
theorem dX3_put_39 : decode cX3_put 39 = .ok (.iconst 0, 1) := by decide +kernel
theorem dX3_put_40 : decode cX3_put 40 = .ok (.ireturn, 1) := by decide +kernel
theorem dX3_put_41 : decode cX3_put 41 = .ok (.aload_n 0, 1) := by decide +kernel
theorem dX3_put_42 : decode cX3_put 42 = .ok (.dup, 1) := by decide +kernel
theorem dX3_put_43 : decode cX3_put 43 = .ok (.getfield 21, 3) := by decide +kernel
theorem dX3_put_46 : decode cX3_put 46 = .ok (.iload_n 1, 1) := by decide +kernel
theorem dX3_put_47 : decode cX3_put 47 = .ok (.iadd, 1) := by decide +kernel
theorem dX3_put_48 : decode cX3_put 48 = .ok (.putfield 21, 3) := by decide +kernel
theorem dX3_put_51 : decode cX3_put 51 = .ok (.iconst 2, 1) := by decide +kernel
theorem dX3_put_52 : decode cX3_put 52 = .ok (.ireturn, 1) := by decide +kernel
theorem dX3_takeAway_0 : decode cX3_takeAway 0 = .ok (.iload_n 1, 1) := by decide +kernel
theorem dX3_takeAway_1 : decode cX3_takeAway 1 = .ok (.aload_n 0, 1) := by decide +kernel
theorem dX3_takeAway_2 : decode cX3_takeAway 2 = .ok (.getfield 18, 3) := by decide +kernel
theorem dX3_takeAway_5 : decode cX3_takeAway 5 = .ok (.invokestatic 24, 3) := by decide +kernel
theorem dX3_takeAway_8 : decode cX3_takeAway 8 = .ok (.istore_n 2, 1) := by decide +kernel
theorem dX3_takeAway_9 : decode cX3_takeAway 9 = .ok (.aload_n 0, 1) := by decide +kernel
theorem dX3_takeAway_10 : decode cX3_takeAway 10 = .ok (.dup, 1) := by decide +kernel
theorem dX3_takeAway_11 : decode cX3_takeAway 11 = .ok (.getfield 18, 3) := by decide +kernel
theorem dX3_takeAway_14 : decode cX3_takeAway 14 = .ok (.iload_n 2, 1) := by decide +kernel
theorem dX3_takeAway_15 : decode cX3_takeAway 15 = .ok (.isub, 1) := by decide +kernel
theorem dX3_takeAway_16 : decode cX3_takeAway 16 = .ok (.putfield 18, 3) := by decide +kernel
theorem dX3_takeAway_19 : decode cX3_takeAway 19 = .ok (.aload_n 0, 1) := by decide +kernel
theorem dX3_takeAway_20 : decode cX3_takeAway 20 = .ok (.dup, 1) := by decide +kernel
theorem dX3_takeAway_21 : decode cX3_takeAway 21 = .ok (.getfield 30, 3) := by decide +kernel
theorem dX3_takeAway_24 : decode cX3_takeAway 24 = .ok (.iload_n 2, 1) := by decide +kernel
theorem dX3_takeAway_25 : decode cX3_takeAway 25 = .ok (.iadd, 1) := by decide +kernel
theorem dX3_takeAway_26 : decode cX3_takeAway 26 = .ok (.putfield 30, 3) := by decide +kernel
theorem dX3_takeAway_29 : decode cX3_takeAway 29 = .ok (.iload_n 2, 1) := by decide +kernel
theorem dX3_takeAway_30 : decode cX3_takeAway 30 = .ok (.ireturn, 1) := by decide +kernel
theorem dX4_init_0 : decode cX4_init 0 = .ok (.aload_n 0, 1) := by decide +kernel
theorem dX4_init_1 : decode cX4_init 1 = .ok (.invokespecial 3, 3) := by decide +kernel
theorem dX4_init_4 : decode cX4_init 4 = .ok (.aload_n 0, 1) := by decide +kernel
theorem dX4_init_5 : decode cX4_init 5 = .ok (.iconst 1, 1) := by decide +kernel
theorem dX4_init_6 : decode cX4_init 6 = .ok (.putfield 9, 3) := by decide +kernel
theorem dX4_init_9 : decode cX4_init 9 = .ok (.aload_n 0, 1) := by decide +kernel
theorem dX4_init_10 : decode cX4_init 10 = .ok (.bipush (-9), 2) := by decide +kernel
theorem dX4_init_12 : decode cX4_init 12 = .ok (.putfield 15, 3) := by decide +kernel
theorem dX4_init_15 : decode cX4_init 15 = .ok (.aload_n 0, 1) := by decide +kernel
theorem dX4_init_16 : decode cX4_init 16 = .ok (.bipush (-9), 2) := by decide +kernel
theorem dX4_init_18 : decode cX4_init 18 = .ok (.putfield 18, 3) := by decide +kernel
theorem dX4_init_21 : decode cX4_init 21 = .ok (.aload_n 0, 1) := by decide +kernel
theorem dX4_init_22 : decode cX4_init 22 = .ok (.bipush (-9), 2) := by decide +kernel
theorem dX4_init_24 : decode cX4_init 24 = .ok (.putfield 21, 3) := by decide +kernel
theorem dX4_init_27 : decode cX4_init 27 = .ok (.aload_n 0, 1) := by decide +kernel
theorem dX4_init_28 : decode cX4_init 28 = .ok (.bipush (-9), 2) := by decide +kernel
theorem dX4_init_30 : decode cX4_init 30 = .ok (.putfield 24, 3) := by decide +kernel
theorem dX4_init_33 : decode cX4_init 33 = .ok (.aload_n 0, 1) := by decide +kernel
theorem dX4_init_34 : decode cX4_init 34 = .ok (.bipush (-9), 2) := by decide +kernel
theorem dX4_init_36 : decode cX4_init 36 = .ok (.putfield 27, 3) := by decide +kernel
theorem dX4_init_39 : decode cX4_init 39 = .ok (.aload_n 0, 1) := by decide +kernel
theorem dX4_init_40 : decode cX4_init 40 = .ok (.bipush (-9), 2) := by decide +kernel
theorem dX4_init_42 : decode cX4_init 42 = .ok (.putfield 30, 3) := by decide +kernel
theorem dX4_init_45 : decode cX4_init 45 = .ok (.aload_n 0, 1) := by decide +kernel
theorem dX4_init_46 : decode cX4_init 46 = .ok (.iload_n 1, 1) := by decide +kernel
theorem dX4_init_47 : decode cX4_init 47 = .ok (.putfield 33, 3) := by decide +kernel
theorem dX4_init_50 : decode cX4_init 50 = .ok (.aload_n 0, 1) := by decide +kernel
theorem dX4_init_51 : decode cX4_init 51 = .ok (.iload_n 2, 1) := by decide +kernel
theorem dX4_init_52 : decode cX4_init 52 = .ok (.putfield 36, 3) := by decide +kernel
theorem dX4_init_55 : decode cX4_init 55 = .ok (.aload_n 0, 1) := by decide +kernel
theorem dX4_init_56 : decode cX4_init 56 = .ok (.iload_n 3, 1) := by decide +kernel
theorem dX4_init_57 : decode cX4_init 57 = .ok (.putfield 40, 3) := by decide +kernel
theorem dX4_init_60 : decode cX4_init 60 = .ok (.aload_n 0, 1) := by decide +kernel
theorem dX4_init_61 : decode cX4_init 61 = .ok (.iload 4, 2) := by decide +kernel
theorem dX4_init_63 : decode cX4_init 63 = .ok (.putfield 43, 3) := by decide +kernel
theorem dX4_init_66 : decode cX4_init 66 = .ok (.aload_n 0, 1) := by decide +kernel
theorem dX4_init_67 : decode cX4_init 67 = .ok (.iload 5, 2) := by decide +kernel
theorem dX4_init_69 : decode cX4_init 69 = .ok (.putfield 46, 3) := by decide +kernel
theorem dX4_init_72 : decode cX4_init 72 = .ok (.return_, 1) := by decide +kernel
theorem dX4_isOfKind_0 : decode cX4_isOfKind 0 = .ok (.iload_n 1, 1) := by decide +kernel
theorem dX4_isOfKind_1 : decode cX4_isOfKind 1 = .ok (.iconst 3, 1) := by decide +kernel
theorem dX4_isOfKind_2 : decode cX4_isOfKind 2 = .ok (.if_icmp .eq 24, 3) := by decide +kernel
theorem dX4_isOfKind_5 : decode cX4_isOfKind 5 = .ok (.iload_n 1, 1) := by decide +kernel
theorem dX4_isOfKind_6 : decode cX4_isOfKind 6 = .ok (.aload_n 0, 1) := by decide +kernel
theorem dX4_isOfKind_7 : decode cX4_isOfKind 7 = .ok (.getfield 9, 3) := by decide +kernel
theorem dX4_isOfKind_10 : decode cX4_isOfKind 10 = .ok (.if_icmp .eq 16, 3) := by decide +kernel
theorem dX4_isOfKind_13 : decode cX4_isOfKind 13 = .ok (.iload_n 1, 1) := by decide +kernel
theorem dX4_isOfKind_14 : decode cX4_isOfKind 14 = .ok (.iconst 1, 1) := by decide +kernel
theorem dX4_isOfKind_15 : decode cX4_isOfKind 15 = .ok (.if_icmp .ne 15, 3) := by decide +kernel
theorem dX4_isOfKind_18 : decode cX4_isOfKind 18 = .ok (.aload_n 0, 1) := by decide +kernel
theorem dX4_isOfKind_19 : decode cX4_isOfKind 19 = .ok (.getfield 9, 3) := by decide +kernel
theorem dX4_isOfKind_22 : decode cX4_isOfKind 22 = .ok (.iconst 2, 1) := by decide +kernel
theorem dX4_isOfKind_23 : decode cX4_isOfKind 23 = .ok (.if_icmp .ne 7, 3) := by decide +kernel
theorem dX4_isOfKind_26 : decode cX4_isOfKind 26 = .ok (.iconst 1, 1) := by decide +kernel
theorem dX4_isOfKind_27 : decode cX4_isOfKind 27 = .ok (.goto 4, 3) := by decide +kernel
theorem dX4_isOfKind_30 : decode cX4_isOfKind 30 = .ok (.iconst 0, 1) := by decide +kernel
theorem dX4_isOfKind_31 : decode cX4_isOfKind 31 = .ok (.ireturn, 1) := by decide +kernel
theorem dX4_endedOn_0 : decode cX4_endedOn 0 = .ok (.aload_n 0, 1) := by decide +kernel
theorem dX4_endedOn_1 : decode cX4_endedOn 1 = .ok (.getfield 18, 3) := by decide +kernel
theorem dX4_endedOn_4 : decode cX4_endedOn 4 = .ok (.bipush (-9), 2) := by decide +kernel
theorem dX4_endedOn_6 : decode cX4_endedOn 6 = .ok (.if_icmp .eq 19, 3) := by decide +kernel
theorem dX4_endedOn_9 : decode cX4_endedOn 9 = .ok (.aload_n 0, 1) := by decide +kernel
theorem dX4_endedOn_10 : decode cX4_endedOn 10 = .ok (.getfield 18, 3) := by decide +kernel
theorem dX4_endedOn_13 : decode cX4_endedOn 13 = .ok (.sipush 1440, 3) := by decide +kernel
theorem dX4_endedOn_16 : decode cX4_endedOn 16 = .ok (.idiv, 1) := by decide +kernel
theorem dX4_endedOn_17 : decode cX4_endedOn 17 = .ok (.iload_n 1, 1) := by decide +kernel
theorem dX4_endedOn_18 : decode cX4_endedOn 18 = .ok (.if_icmp .ne 7, 3) := by decide +kernel
theorem dX4_endedOn_21 : decode cX4_endedOn 21 = .ok (.iconst 1, 1) := by decide +kernel
theorem dX4_endedOn_22 : decode cX4_endedOn 22 = .ok (.goto 4, 3) := by decide +kernel
theorem dX4_endedOn_25 : decode cX4_endedOn 25 = .ok (.iconst 0, 1) := by decide +kernel
theorem dX4_endedOn_26 : decode cX4_endedOn 26 = .ok (.ireturn, 1) := by decide +kernel
theorem dX4_tell_0 : decode cX4_tell 0 = .ok (.iload_n 1, 1) := by decide +kernel
theorem dX4_tell_1 : decode cX4_tell 1 = .ok (.tableswitch 108 0 9 #[55, 60, 65, 70, 75, 83, 88, 93, 98, 103], 55) := by decide +kernel
theorem dX4_tell_56 : decode cX4_tell 56 = .ok (.aload_n 0, 1) := by decide +kernel
theorem dX4_tell_57 : decode cX4_tell 57 = .ok (.getfield 9, 3) := by decide +kernel
theorem dX4_tell_60 : decode cX4_tell 60 = .ok (.ireturn, 1) := by decide +kernel
theorem dX4_tell_61 : decode cX4_tell 61 = .ok (.aload_n 0, 1) := by decide +kernel
theorem dX4_tell_62 : decode cX4_tell 62 = .ok (.getfield 33, 3) := by decide +kernel
theorem dX4_tell_65 : decode cX4_tell 65 = .ok (.ireturn, 1) := by decide +kernel
theorem dX4_tell_66 : decode cX4_tell 66 = .ok (.aload_n 0, 1) := by decide +kernel
theorem dX4_tell_67 : decode cX4_tell 67 = .ok (.getfield 40, 3) := by decide +kernel
theorem dX4_tell_70 : decode cX4_tell 70 = .ok (.ireturn, 1) := by decide +kernel
theorem dX4_tell_71 : decode cX4_tell 71 = .ok (.aload_n 0, 1) := by decide +kernel
theorem dX4_tell_72 : decode cX4_tell 72 = .ok (.getfield 43, 3) := by decide +kernel
theorem dX4_tell_75 : decode cX4_tell 75 = .ok (.ireturn, 1) := by decide +kernel
theorem dX4_tell_76 : decode cX4_tell 76 = .ok (.aload_n 0, 1) := by decide +kernel
theorem dX4_tell_77 : decode cX4_tell 77 = .ok (.getfield 46, 3) := by decide +kernel
theorem dX4_tell_80 : decode cX4_tell 80 = .ok (.invokestatic 49, 3) := by decide +kernel
theorem dX4_tell_83 : decode cX4_tell 83 = .ok (.ireturn, 1) := by decide +kernel
theorem dX4_tell_84 : decode cX4_tell 84 = .ok (.aload_n 0, 1) := by decide +kernel
theorem dX4_tell_85 : decode cX4_tell 85 = .ok (.getfield 15, 3) := by decide +kernel
theorem dX4_tell_88 : decode cX4_tell 88 = .ok (.ireturn, 1) := by decide +kernel
theorem dX4_tell_89 : decode cX4_tell 89 = .ok (.aload_n 0, 1) := by decide +kernel
theorem dX4_tell_90 : decode cX4_tell 90 = .ok (.getfield 18, 3) := by decide +kernel
theorem dX4_tell_93 : decode cX4_tell 93 = .ok (.ireturn, 1) := by decide +kernel
theorem dX4_tell_94 : decode cX4_tell 94 = .ok (.aload_n 0, 1) := by decide +kernel
theorem dX4_tell_95 : decode cX4_tell 95 = .ok (.getfield 21, 3) := by decide +kernel
theorem dX4_tell_98 : decode cX4_tell 98 = .ok (.ireturn, 1) := by decide +kernel
theorem dX4_tell_99 : decode cX4_tell 99 = .ok (.aload_n 0, 1) := by decide +kernel
theorem dX4_tell_100 : decode cX4_tell 100 = .ok (.getfield 24, 3) := by decide +kernel
theorem dX4_tell_103 : decode cX4_tell 103 = .ok (.ireturn, 1) := by decide +kernel
theorem dX4_tell_104 : decode cX4_tell 104 = .ok (.aload_n 0, 1) := by decide +kernel
theorem dX4_tell_105 : decode cX4_tell 105 = .ok (.getfield 27, 3) := by decide +kernel
theorem dX4_tell_108 : decode cX4_tell 108 = .ok (.ireturn, 1) := by decide +kernel
theorem dX4_tell_109 : decode cX4_tell 109 = .ok (.aload_n 0, 1) := by decide +kernel
theorem dX4_tell_110 : decode cX4_tell 110 = .ok (.getfield 30, 3) := by decide +kernel
theorem dX4_tell_113 : decode cX4_tell 113 = .ok (.ireturn, 1) := by decide +kernel
theorem dX5_init_0 : decode cX5_init 0 = .ok (.aload_n 0, 1) := by decide +kernel
theorem dX5_init_1 : decode cX5_init 1 = .ok (.invokespecial 1, 3) := by decide +kernel
theorem dX5_init_4 : decode cX5_init 4 = .ok (.aload_n 0, 1) := by decide +kernel
theorem dX5_init_5 : decode cX5_init 5 = .ok (.bipush 12, 2) := by decide +kernel
theorem dX5_init_7 : decode cX5_init 7 = .ok (.anewarray 9, 3) := by decide +kernel
theorem dX5_init_10 : decode cX5_init 10 = .ok (.putfield 11, 3) := by decide +kernel
theorem dX5_init_13 : decode cX5_init 13 = .ok (.aload_n 0, 1) := by decide +kernel
theorem dX5_init_14 : decode cX5_init 14 = .ok (.sipush 500, 3) := by decide +kernel
theorem dX5_init_17 : decode cX5_init 17 = .ok (.anewarray 15, 3) := by decide +kernel
theorem dX5_init_20 : decode cX5_init 20 = .ok (.putfield 17, 3) := by decide +kernel
theorem dX5_init_23 : decode cX5_init 23 = .ok (.aload_n 0, 1) := by decide +kernel
theorem dX5_init_24 : decode cX5_init 24 = .ok (.new 21, 3) := by decide +kernel
theorem dX5_init_27 : decode cX5_init 27 = .ok (.dup, 1) := by decide +kernel
theorem dX5_init_28 : decode cX5_init 28 = .ok (.invokespecial 23, 3) := by decide +kernel
theorem dX5_init_31 : decode cX5_init 31 = .ok (.putfield 24, 3) := by decide +kernel
theorem dX5_init_34 : decode cX5_init 34 = .ok (.aload_n 0, 1) := by decide +kernel
theorem dX5_init_35 : decode cX5_init 35 = .ok (.new 28, 3) := by decide +kernel
theorem dX5_init_38 : decode cX5_init 38 = .ok (.dup, 1) := by decide +kernel
theorem dX5_init_39 : decode cX5_init 39 = .ok (.invokespecial 30, 3) := by decide +kernel
theorem dX5_init_42 : decode cX5_init 42 = .ok (.putfield 31, 3) := by decide +kernel
theorem dX5_init_45 : decode cX5_init 45 = .ok (.aload_n 0, 1) := by decide +kernel
theorem dX5_init_46 : decode cX5_init 46 = .ok (.new 35, 3) := by decide +kernel
theorem dX5_init_49 : decode cX5_init 49 = .ok (.dup, 1) := by decide +kernel
theorem dX5_init_50 : decode cX5_init 50 = .ok (.invokespecial 37, 3) := by decide +kernel
theorem dX5_init_53 : decode cX5_init 53 = .ok (.putfield 38, 3) := by decide +kernel
theorem dX5_init_56 : decode cX5_init 56 = .ok (.aload_n 0, 1) := by decide +kernel
theorem dX5_init_57 : decode cX5_init 57 = .ok (.iconst 1, 1) := by decide +kernel
theorem dX5_init_58 : decode cX5_init 58 = .ok (.putfield 42, 3) := by decide +kernel
theorem dX5_init_61 : decode cX5_init 61 = .ok (.return_, 1) := by decide +kernel
theorem dX5_cow_0 : decode cX5_cow 0 = .ok (.iload_n 1, 1) := by decide +kernel
theorem dX5_cow_1 : decode cX5_cow 1 = .ok (.iconst 0, 1) := by decide +kernel
theorem dX5_cow_2 : decode cX5_cow 2 = .ok (.iconst 2, 1) := by decide +kernel
theorem dX5_cow_3 : decode cX5_cow 3 = .ok (.invokestatic 46, 3) := by decide +kernel
theorem dX5_cow_6 : decode cX5_cow 6 = .ok (.ifCond .eq 13, 3) := by decide +kernel
theorem dX5_cow_9 : decode cX5_cow 9 = .ok (.iload_n 2, 1) := by decide +kernel
theorem dX5_cow_10 : decode cX5_cow 10 = .ok (.iconst 1, 1) := by decide +kernel
theorem dX5_cow_11 : decode cX5_cow 11 = .ok (.bipush 30, 2) := by decide +kernel
theorem dX5_cow_13 : decode cX5_cow 13 = .ok (.invokestatic 46, 3) := by decide +kernel
theorem dX5_cow_16 : decode cX5_cow 16 = .ok (.ifCond .ne 6, 3) := by decide +kernel
theorem dX5_cow_19 : decode cX5_cow 19 = .ok (.bipush (-2), 2) := by decide +kernel
theorem dX5_cow_21 : decode cX5_cow 21 = .ok (.ireturn, 1) := by decide +kernel
theorem dX5_cow_22 : decode cX5_cow 22 = .ok (.iload_n 3, 1) := by decide +kernel
theorem dX5_cow_23 : decode cX5_cow 23 = .ok (.iconst 0, 1) := by decide +kernel
theorem dX5_cow_24 : decode cX5_cow 24 = .ok (.sipush 1440, 3) := by decide +kernel
theorem dX5_cow_27 : decode cX5_cow 27 = .ok (.invokestatic 46, 3) := by decide +kernel
theorem dX5_cow_30 : decode cX5_cow 30 = .ok (.ifCond .eq 15, 3) := by decide +kernel
theorem dX5_cow_33 : decode cX5_cow 33 = .ok (.iload 4, 2) := by decide +kernel
theorem dX5_cow_35 : decode cX5_cow 35 = .ok (.iconst 0, 1) := by decide +kernel
theorem dX5_cow_36 : decode cX5_cow 36 = .ok (.sipush 5000, 3) := by decide +kernel
theorem dX5_cow_39 : decode cX5_cow 39 = .ok (.invokestatic 46, 3) := by decide +kernel
theorem dX5_cow_42 : decode cX5_cow 42 = .ok (.ifCond .ne 6, 3) := by decide +kernel
theorem dX5_cow_45 : decode cX5_cow 45 = .ok (.bipush (-2), 2) := by decide +kernel
theorem dX5_cow_47 : decode cX5_cow 47 = .ok (.ireturn, 1) := by decide +kernel
theorem dX5_cow_48 : decode cX5_cow 48 = .ok (.aload_n 0, 1) := by decide +kernel
theorem dX5_cow_49 : decode cX5_cow 49 = .ok (.getfield 50, 3) := by decide +kernel
theorem dX5_cow_52 : decode cX5_cow 52 = .ok (.bipush 12, 2) := by decide +kernel
theorem dX5_cow_54 : decode cX5_cow 54 = .ok (.if_icmp .lt 6, 3) := by decide +kernel
theorem dX5_cow_57 : decode cX5_cow 57 = .ok (.bipush (-4), 2) := by decide +kernel
theorem dX5_cow_59 : decode cX5_cow 59 = .ok (.ireturn, 1) := by decide +kernel
theorem dX5_cow_60 : decode cX5_cow 60 = .ok (.aload_n 0, 1) := by decide +kernel
theorem dX5_cow_61 : decode cX5_cow 61 = .ok (.getfield 11, 3) := by decide +kernel
theorem dX5_cow_64 : decode cX5_cow 64 = .ok (.aload_n 0, 1) := by decide +kernel
theorem dX5_cow_65 : decode cX5_cow 65 = .ok (.getfield 50, 3) := by decide +kernel
theorem dX5_cow_68 : decode cX5_cow 68 = .ok (.new 9, 3) := by decide +kernel
theorem dX5_cow_71 : decode cX5_cow 71 = .ok (.dup, 1) := by decide +kernel
theorem dX5_cow_72 : decode cX5_cow 72 = .ok (.iload_n 1, 1) := by decide +kernel
theorem dX5_cow_73 : decode cX5_cow 73 = .ok (.iload_n 2, 1) := by decide +kernel
theorem dX5_cow_74 : decode cX5_cow 74 = .ok (.iload_n 3, 1) := by decide +kernel
theorem dX5_cow_75 : decode cX5_cow 75 = .ok (.iload 4, 2) := by decide +kernel
theorem dX5_cow_77 : decode cX5_cow 77 = .ok (.aload_n 0, 1) := by decide +kernel
theorem dX5_cow_78 : decode cX5_cow 78 = .ok (.getfield 54, 3) := by decide +kernel
theorem dX5_cow_81 : decode cX5_cow 81 = .ok (.invokespecial 57, 3) := by decide +kernel
theorem dX5_cow_84 : decode cX5_cow 84 = .ok (.aastore, 1) := by decide +kernel
theorem dX5_cow_85 : decode cX5_cow 85 = .ok (.aload_n 0, 1) := by decide +kernel
theorem dX5_cow_86 : decode cX5_cow 86 = .ok (.dup, 1) := by decide +kernel
theorem dX5_cow_87 : decode cX5_cow 87 = .ok (.getfield 50, 3) := by decide +kernel
theorem dX5_cow_90 : decode cX5_cow 90 = .ok (.iconst 1, 1) := by decide +kernel
theorem dX5_cow_91 : decode cX5_cow 91 = .ok (.iadd, 1) := by decide +kernel
theorem dX5_cow_92 : decode cX5_cow 92 = .ok (.putfield 50, 3) := by decide +kernel
theorem dX5_cow_95 : decode cX5_cow 95 = .ok (.aload_n 0, 1) := by decide +kernel
theorem dX5_cow_96 : decode cX5_cow 96 = .ok (.getfield 50, 3) := by decide +kernel
theorem dX5_cow_99 : decode cX5_cow 99 = .ok (.iconst 1, 1) := by decide +kernel
theorem dX5_cow_100 : decode cX5_cow 100 = .ok (.isub, 1) := by decide +kernel
theorem dX5_cow_101 : decode cX5_cow 101 = .ok (.ireturn, 1) := by decide +kernel
theorem dX5_taken_0 : decode cX5_taken 0 = .ok (.aload_n 0, 1) := by decide +kernel
theorem dX5_taken_1 : decode cX5_taken 1 = .ok (.iload_n 1, 1) := by decide +kernel
theorem dX5_taken_2 : decode cX5_taken 2 = .ok (.invokevirtual 60, 3) := by decide +kernel
theorem dX5_taken_5 : decode cX5_taken 5 = .ok (.astore 4, 2) := by decide +kernel
theorem dX5_taken_7 : decode cX5_taken 7 = .ok (.aload 4, 2) := by decide +kernel
theorem dX5_taken_9 : decode cX5_taken 9 = .ok (.ifnonnull 5, 3) := by decide +kernel
theorem dX5_taken_12 : decode cX5_taken 12 = .ok (.iconst (-1), 1) := by decide +kernel
theorem dX5_taken_13 : decode cX5_taken 13 = .ok (.ireturn, 1) := by decide +kernel
theorem dX5_taken_14 : decode cX5_taken 14 = .ok (.iload_n 2, 1) := by decide +kernel
theorem dX5_taken_15 : decode cX5_taken 15 = .ok (.iconst 0, 1) := by decide +kernel
theorem dX5_taken_16 : decode cX5_taken 16 = .ok (.iconst 2, 1) := by decide +kernel
theorem dX5_taken_17 : decode cX5_taken 17 = .ok (.invokestatic 46, 3) := by decide +kernel
theorem dX5_taken_20 : decode cX5_taken 20 = .ok (.ifCond .eq 12, 3) := by decide +kernel
theorem dX5_taken_23 : decode cX5_taken 23 = .ok (.iload_n 3, 1) := by decide +kernel
theorem dX5_taken_24 : decode cX5_taken 24 = .ok (.iconst 0, 1) := by decide +kernel
theorem dX5_taken_25 : decode cX5_taken 25 = .ok (.iconst 3, 1) := by decide +kernel
theorem dX5_taken_26 : decode cX5_taken 26 = .ok (.invokestatic 46, 3) := by decide +kernel
theorem dX5_taken_29 : decode cX5_taken 29 = .ok (.ifCond .ne 6, 3) := by decide +kernel
theorem dX5_taken_32 : decode cX5_taken 32 = .ok (.bipush (-2), 2) := by decide +kernel
theorem dX5_taken_34 : decode cX5_taken 34 = .ok (.ireturn, 1) := by decide +kernel
theorem dX5_taken_35 : decode cX5_taken 35 = .ok (.iload_n 2, 1) := by decide +kernel
theorem dX5_taken_36 : decode cX5_taken 36 = .ok (.ifCond .eq 15, 3) := by decide +kernel
theorem dX5_taken_39 : decode cX5_taken 39 = .ok (.iload_n 2, 1) := by decide +kernel
theorem dX5_taken_40 : decode cX5_taken 40 = .ok (.aload 4, 2) := by decide +kernel
theorem dX5_taken_42 : decode cX5_taken 42 = .ok (.getfield 64, 3) := by decide +kernel
theorem dX5_taken_45 : decode cX5_taken 45 = .ok (.if_icmp .eq 6, 3) := by decide +kernel
theorem dX5_taken_48 : decode cX5_taken 48 = .ok (.bipush (-13), 2) := by decide +kernel
theorem dX5_taken_50 : decode cX5_taken 50 = .ok (.ireturn, 1) := by decide +kernel
theorem dX5_taken_51 : decode cX5_taken 51 = .ok (.iload_n 3, 1) := by decide +kernel
theorem dX5_taken_52 : decode cX5_taken 52 = .ok (.tableswitch 46 0 2 #[28, 34, 40], 28) := by decide +kernel
theorem dX5_taken_80 : decode cX5_taken 80 = .ok (.aload 4, 2) := by decide +kernel
theorem dX5_taken_82 : decode cX5_taken 82 = .ok (.getfield 64, 3) := by decide +kernel
theorem dX5_taken_85 : decode cX5_taken 85 = .ok (.ireturn, 1) := by decide +kernel
theorem dX5_taken_86 : decode cX5_taken 86 = .ok (.aload 4, 2) := by decide +kernel
theorem dX5_taken_88 : decode cX5_taken 88 = .ok (.getfield 67, 3) := by decide +kernel
theorem dX5_taken_91 : decode cX5_taken 91 = .ok (.ireturn, 1) := by decide +kernel
theorem dX5_taken_92 : decode cX5_taken 92 = .ok (.aload 4, 2) := by decide +kernel
theorem dX5_taken_94 : decode cX5_taken 94 = .ok (.getfield 70, 3) := by decide +kernel
theorem dX5_taken_97 : decode cX5_taken 97 = .ok (.ireturn, 1) := by decide +kernel
theorem dX5_taken_98 : decode cX5_taken 98 = .ok (.aload 4, 2) := by decide +kernel
theorem dX5_taken_100 : decode cX5_taken 100 = .ok (.getfield 73, 3) := by decide +kernel
theorem dX5_taken_103 : decode cX5_taken 103 = .ok (.ireturn, 1) := by decide +kernel
theorem dX5_withhold_0 : decode cX5_withhold 0 = .ok (.aload_n 0, 1) := by decide +kernel
theorem dX5_withhold_1 : decode cX5_withhold 1 = .ok (.iload_n 1, 1) := by decide +kernel
theorem dX5_withhold_2 : decode cX5_withhold 2 = .ok (.invokevirtual 60, 3) := by decide +kernel
theorem dX5_withhold_5 : decode cX5_withhold 5 = .ok (.astore_n 3, 1) := by decide +kernel
theorem dX5_withhold_6 : decode cX5_withhold 6 = .ok (.aload_n 3, 1) := by decide +kernel
theorem dX5_withhold_7 : decode cX5_withhold 7 = .ok (.ifnonnull 5, 3) := by decide +kernel
theorem dX5_withhold_10 : decode cX5_withhold 10 = .ok (.iconst (-1), 1) := by decide +kernel
theorem dX5_withhold_11 : decode cX5_withhold 11 = .ok (.ireturn, 1) := by decide +kernel
theorem dX5_withhold_12 : decode cX5_withhold 12 = .ok (.iload_n 2, 1) := by decide +kernel
theorem dX5_withhold_13 : decode cX5_withhold 13 = .ok (.iconst 0, 1) := by decide +kernel
theorem dX5_withhold_14 : decode cX5_withhold 14 = .ok (.ldc 76, 2) := by decide +kernel
theorem dX5_withhold_16 : decode cX5_withhold 16 = .ok (.invokestatic 46, 3) := by decide +kernel
theorem dX5_withhold_19 : decode cX5_withhold 19 = .ok (.ifCond .ne 6, 3) := by decide +kernel
theorem dX5_withhold_22 : decode cX5_withhold 22 = .ok (.bipush (-2), 2) := by decide +kernel
theorem dX5_withhold_24 : decode cX5_withhold 24 = .ok (.ireturn, 1) := by decide +kernel
theorem dX5_withhold_25 : decode cX5_withhold 25 = .ok (.aload_n 3, 1) := by decide +kernel
theorem dX5_withhold_26 : decode cX5_withhold 26 = .ok (.getfield 77, 3) := by decide +kernel
theorem dX5_withhold_29 : decode cX5_withhold 29 = .ok (.istore 4, 2) := by decide +kernel
theorem dX5_withhold_31 : decode cX5_withhold 31 = .ok (.aload_n 3, 1) := by decide +kernel
theorem dX5_withhold_32 : decode cX5_withhold 32 = .ok (.iload_n 2, 1) := by decide +kernel
theorem dX5_withhold_33 : decode cX5_withhold 33 = .ok (.putfield 77, 3) := by decide +kernel
theorem dX5_withhold_36 : decode cX5_withhold 36 = .ok (.iload 4, 2) := by decide +kernel
theorem dX5_withhold_38 : decode cX5_withhold 38 = .ok (.ireturn, 1) := by decide +kernel
theorem dX5_trouble_0 : decode cX5_trouble 0 = .ok (.aload_n 0, 1) := by decide +kernel
theorem dX5_trouble_1 : decode cX5_trouble 1 = .ok (.iload_n 1, 1) := by decide +kernel
theorem dX5_trouble_2 : decode cX5_trouble 2 = .ok (.invokevirtual 60, 3) := by decide +kernel
theorem dX5_trouble_5 : decode cX5_trouble 5 = .ok (.astore 4, 2) := by decide +kernel
theorem dX5_trouble_7 : decode cX5_trouble 7 = .ok (.aload 4, 2) := by decide +kernel
theorem dX5_trouble_9 : decode cX5_trouble 9 = .ok (.ifnull 12, 3) := by decide +kernel
theorem dX5_trouble_12 : decode cX5_trouble 12 = .ok (.iload_n 2, 1) := by decide +kernel
theorem dX5_trouble_13 : decode cX5_trouble 13 = .ok (.iconst 0, 1) := by decide +kernel
theorem dX5_trouble_14 : decode cX5_trouble 14 = .ok (.iconst 3, 1) := by decide +kernel
theorem dX5_trouble_15 : decode cX5_trouble 15 = .ok (.invokestatic 46, 3) := by decide +kernel
theorem dX5_trouble_18 : decode cX5_trouble 18 = .ok (.ifCond .ne 5, 3) := by decide +kernel
theorem dX5_trouble_21 : decode cX5_trouble 21 = .ok (.iconst (-1), 1) := by decide +kernel
theorem dX5_trouble_22 : decode cX5_trouble 22 = .ok (.ireturn, 1) := by decide +kernel
theorem dX5_trouble_23 : decode cX5_trouble 23 = .ok (.iload_n 3, 1) := by decide +kernel
theorem dX5_trouble_24 : decode cX5_trouble 24 = .ok (.iconst 0, 1) := by decide +kernel
theorem dX5_trouble_25 : decode cX5_trouble 25 = .ok (.bipush 9, 2) := by decide +kernel
theorem dX5_trouble_27 : decode cX5_trouble 27 = .ok (.invokestatic 46, 3) := by decide +kernel
theorem dX5_trouble_30 : decode cX5_trouble 30 = .ok (.ifCond .ne 6, 3) := by decide +kernel
theorem dX5_trouble_33 : decode cX5_trouble 33 = .ok (.bipush (-2), 2) := by decide +kernel
theorem dX5_trouble_35 : decode cX5_trouble 35 = .ok (.ireturn, 1) := by decide +kernel
theorem dX5_trouble_36 : decode cX5_trouble 36 = .ok (.aload 4, 2) := by decide +kernel
theorem dX5_trouble_38 : decode cX5_trouble 38 = .ok (.getfield 80, 3) := by decide +kernel
theorem dX5_trouble_41 : decode cX5_trouble 41 = .ok (.iload_n 2, 1) := by decide +kernel
theorem dX5_trouble_42 : decode cX5_trouble 42 = .ok (.iaload, 1) := by decide +kernel
theorem dX5_trouble_43 : decode cX5_trouble 43 = .ok (.istore 5, 2) := by decide +kernel
theorem dX5_trouble_45 : decode cX5_trouble 45 = .ok (.aload 4, 2) := by decide +kernel
theorem dX5_trouble_47 : decode cX5_trouble 47 = .ok (.getfield 80, 3) := by decide +kernel
theorem dX5_trouble_50 : decode cX5_trouble 50 = .ok (.iload_n 2, 1) := by decide +kernel
theorem dX5_trouble_51 : decode cX5_trouble 51 = .ok (.iload_n 3, 1) := by decide +kernel
theorem dX5_trouble_52 : decode cX5_trouble 52 = .ok (.iastore, 1) := by decide +kernel
theorem dX5_trouble_53 : decode cX5_trouble 53 = .ok (.iload 5, 2) := by decide +kernel
theorem dX5_trouble_55 : decode cX5_trouble 55 = .ok (.ireturn, 1) := by decide +kernel
theorem dX5_about_0 : decode cX5_about 0 = .ok (.aload_n 0, 1) := by decide +kernel
theorem dX5_about_1 : decode cX5_about 1 = .ok (.iload_n 1, 1) := by decide +kernel
theorem dX5_about_2 : decode cX5_about 2 = .ok (.invokevirtual 60, 3) := by decide +kernel
theorem dX5_about_5 : decode cX5_about 5 = .ok (.astore_n 3, 1) := by decide +kernel
theorem dX5_about_6 : decode cX5_about 6 = .ok (.aload_n 3, 1) := by decide +kernel
theorem dX5_about_7 : decode cX5_about 7 = .ok (.ifnonnull 5, 3) := by decide +kernel
theorem dX5_about_10 : decode cX5_about 10 = .ok (.iconst (-1), 1) := by decide +kernel
theorem dX5_about_11 : decode cX5_about 11 = .ok (.ireturn, 1) := by decide +kernel
theorem dX5_about_12 : decode cX5_about 12 = .ok (.iload_n 2, 1) := by decide +kernel
theorem dX5_about_13 : decode cX5_about 13 = .ok (.iconst 0, 1) := by decide +kernel
theorem dX5_about_14 : decode cX5_about 14 = .ok (.bipush 6, 2) := by decide +kernel
theorem dX5_about_16 : decode cX5_about 16 = .ok (.invokestatic 46, 3) := by decide +kernel
theorem dX5_about_19 : decode cX5_about 19 = .ok (.ifCond .ne 6, 3) := by decide +kernel
theorem dX5_about_22 : decode cX5_about 22 = .ok (.bipush (-2), 2) := by decide +kernel
theorem dX5_about_24 : decode cX5_about 24 = .ok (.ireturn, 1) := by decide +kernel
theorem dX5_about_25 : decode cX5_about 25 = .ok (.iload_n 2, 1) := by decide +kernel
theorem dX5_about_26 : decode cX5_about 26 = .ok (.tableswitch 91 0 5 #[38, 47, 52, 64, 77, 86], 38) := by decide +kernel
theorem dX5_about_64 : decode cX5_about 64 = .ok (.aload_n 3, 1) := by decide +kernel
theorem dX5_about_65 : decode cX5_about 65 = .ok (.aload_n 0, 1) := by decide +kernel
theorem dX5_about_66 : decode cX5_about 66 = .ok (.getfield 54, 3) := by decide +kernel
theorem dX5_about_69 : decode cX5_about 69 = .ok (.invokevirtual 84, 3) := by decide +kernel
theorem dX5_about_72 : decode cX5_about 72 = .ok (.ireturn, 1) := by decide +kernel
theorem dX5_about_73 : decode cX5_about 73 = .ok (.aload_n 3, 1) := by decide +kernel
theorem dX5_about_74 : decode cX5_about 74 = .ok (.getfield 88, 3) := by decide +kernel
theorem dX5_about_77 : decode cX5_about 77 = .ok (.ireturn, 1) := by decide +kernel
theorem dX5_about_78 : decode cX5_about 78 = .ok (.aload_n 3, 1) := by decide +kernel
theorem dX5_about_79 : decode cX5_about 79 = .ok (.aload_n 0, 1) := by decide +kernel
theorem dX5_about_80 : decode cX5_about 80 = .ok (.getfield 54, 3) := by decide +kernel
theorem dX5_about_83 : decode cX5_about 83 = .ok (.invokevirtual 91, 3) := by decide +kernel
theorem dX5_about_86 : decode cX5_about 86 = .ok (.invokestatic 95, 3) := by decide +kernel
theorem dX5_about_89 : decode cX5_about 89 = .ok (.ireturn, 1) := by decide +kernel
theorem dX5_about_90 : decode cX5_about 90 = .ok (.aload_n 3, 1) := by decide +kernel
theorem dX5_about_91 : decode cX5_about 91 = .ok (.aload_n 0, 1) := by decide +kernel
theorem dX5_about_92 : decode cX5_about 92 = .ok (.getfield 54, 3) := by decide +kernel
theorem dX5_about_95 : decode cX5_about 95 = .ok (.sipush 1440, 3) := by decide +kernel
theorem dX5_about_98 : decode cX5_about 98 = .ok (.idiv, 1) := by decide +kernel
theorem dX5_about_99 : decode cX5_about 99 = .ok (.invokevirtual 99, 3) := by decide +kernel
theorem dX5_about_102 : decode cX5_about 102 = .ok (.ireturn, 1) := by decide +kernel
theorem dX5_about_103 : decode cX5_about 103 = .ok (.aload_n 0, 1) := by decide +kernel
theorem dX5_about_104 : decode cX5_about 104 = .ok (.getfield 24, 3) := by decide +kernel
theorem dX5_about_107 : decode cX5_about 107 = .ok (.iload_n 1, 1) := by decide +kernel
theorem dX5_about_108 : decode cX5_about 108 = .ok (.invokevirtual 102, 3) := by decide +kernel
theorem dX5_about_111 : decode cX5_about 111 = .ok (.ireturn, 1) := by decide +kernel
theorem dX5_about_112 : decode cX5_about 112 = .ok (.aload_n 3, 1) := by decide +kernel
theorem dX5_about_113 : decode cX5_about 113 = .ok (.getfield 105, 3) := by decide +kernel
theorem dX5_about_116 : decode cX5_about 116 = .ok (.ireturn, 1) := by decide +kernel
theorem dX5_about_117 : decode cX5_about 117 = .ok (.aload_n 3, 1) := by decide +kernel
theorem dX5_about_118 : decode cX5_about 118 = .ok (.getfield 108, 3) := by decide +kernel
theorem dX5_about_121 : decode cX5_about 121 = .ok (.ireturn, 1) := by decide +kernel
theorem dX5_pass_0 : decode cX5_pass 0 = .ok (.iload_n 1, 1) := by decide +kernel
theorem dX5_pass_1 : decode cX5_pass 1 = .ok (.iconst 1, 1) := by decide +kernel
theorem dX5_pass_2 : decode cX5_pass 2 = .ok (.sipush 20000, 3) := by decide +kernel
theorem dX5_pass_5 : decode cX5_pass 5 = .ok (.invokestatic 46, 3) := by decide +kernel
theorem dX5_pass_8 : decode cX5_pass 8 = .ok (.ifCond .ne 6, 3) := by decide +kernel
theorem dX5_pass_11 : decode cX5_pass 11 = .ok (.bipush (-2), 2) := by decide +kernel
theorem dX5_pass_13 : decode cX5_pass 13 = .ok (.ireturn, 1) := by decide +kernel
theorem dX5_pass_14 : decode cX5_pass 14 = .ok (.aload_n 0, 1) := by decide +kernel
theorem dX5_pass_15 : decode cX5_pass 15 = .ok (.getfield 54, 3) := by decide +kernel
theorem dX5_pass_18 : decode cX5_pass 18 = .ok (.iload_n 1, 1) := by decide +kernel
theorem dX5_pass_19 : decode cX5_pass 19 = .ok (.iadd, 1) := by decide +kernel
theorem dX5_pass_20 : decode cX5_pass 20 = .ok (.istore_n 2, 1) := by decide +kernel
theorem dX5_pass_21 : decode cX5_pass 21 = .ok (.iload_n 2, 1) := by decide +kernel
theorem dX5_pass_22 : decode cX5_pass 22 = .ok (.ldc 111, 2) := by decide +kernel
theorem dX5_pass_24 : decode cX5_pass 24 = .ok (.if_icmp .le 6, 3) := by decide +kernel
theorem dX5_pass_27 : decode cX5_pass 27 = .ok (.bipush (-4), 2) := by decide +kernel
theorem dX5_pass_29 : decode cX5_pass 29 = .ok (.ireturn, 1) := by decide +kernel
theorem dX5_pass_30 : decode cX5_pass 30 = .ok (.iconst 0, 1) := by decide +kernel
theorem dX5_pass_31 : decode cX5_pass 31 = .ok (.istore_n 3, 1) := by decide +kernel
theorem dX5_pass_32 : decode cX5_pass 32 = .ok (.iload_n 3, 1) := by decide +kernel
theorem dX5_pass_33 : decode cX5_pass 33 = .ok (.bipush 12, 2) := by decide +kernel
theorem dX5_pass_35 : decode cX5_pass 35 = .ok (.if_icmp .ge 50, 3) := by decide +kernel
theorem dX5_pass_38 : decode cX5_pass 38 = .ok (.aload_n 0, 1) := by decide +kernel
theorem dX5_pass_39 : decode cX5_pass 39 = .ok (.getfield 31, 3) := by decide +kernel
theorem dX5_pass_42 : decode cX5_pass 42 = .ok (.invokevirtual 112, 3) := by decide +kernel
theorem dX5_pass_45 : decode cX5_pass 45 = .ok (.ifCond .eq 40, 3) := by decide +kernel
theorem dX5_pass_48 : decode cX5_pass 48 = .ok (.aload_n 0, 1) := by decide +kernel
theorem dX5_pass_49 : decode cX5_pass 49 = .ok (.getfield 31, 3) := by decide +kernel
theorem dX5_pass_52 : decode cX5_pass 52 = .ok (.getfield 116, 3) := by decide +kernel
theorem dX5_pass_55 : decode cX5_pass 55 = .ok (.iload_n 2, 1) := by decide +kernel
theorem dX5_pass_56 : decode cX5_pass 56 = .ok (.if_icmp .gt 29, 3) := by decide +kernel
theorem dX5_pass_59 : decode cX5_pass 59 = .ok (.aload_n 0, 1) := by decide +kernel
theorem dX5_pass_60 : decode cX5_pass 60 = .ok (.aload_n 0, 1) := by decide +kernel
theorem dX5_pass_61 : decode cX5_pass 61 = .ok (.getfield 31, 3) := by decide +kernel
theorem dX5_pass_64 : decode cX5_pass 64 = .ok (.getfield 116, 3) := by decide +kernel
theorem dX5_pass_67 : decode cX5_pass 67 = .ok (.putfield 54, 3) := by decide +kernel
theorem dX5_pass_70 : decode cX5_pass 70 = .ok (.aload_n 0, 1) := by decide +kernel
theorem dX5_pass_71 : decode cX5_pass 71 = .ok (.iconst 1, 1) := by decide +kernel
theorem dX5_pass_72 : decode cX5_pass 72 = .ok (.invokevirtual 119, 3) := by decide +kernel
theorem dX5_pass_75 : decode cX5_pass 75 = .ok (.aload_n 0, 1) := by decide +kernel
theorem dX5_pass_76 : decode cX5_pass 76 = .ok (.invokevirtual 123, 3) := by decide +kernel
theorem dX5_pass_79 : decode cX5_pass 79 = .ok (.iinc 3 1, 3) := by decide +kernel
theorem dX5_pass_82 : decode cX5_pass 82 = .ok (.goto (-50), 3) := by decide +kernel
theorem dX5_pass_85 : decode cX5_pass 85 = .ok (.aload_n 0, 1) := by decide +kernel
theorem dX5_pass_86 : decode cX5_pass 86 = .ok (.iload_n 2, 1) := by decide +kernel
theorem dX5_pass_87 : decode cX5_pass 87 = .ok (.putfield 54, 3) := by decide +kernel
theorem dX5_pass_90 : decode cX5_pass 90 = .ok (.aload_n 0, 1) := by decide +kernel
theorem dX5_pass_91 : decode cX5_pass 91 = .ok (.getfield 54, 3) := by decide +kernel
theorem dX5_pass_94 : decode cX5_pass 94 = .ok (.ireturn, 1) := by decide +kernel
theorem dX5_come_0 : decode cX5_come 0 = .ok (.aload_n 0, 1) := by decide +kernel
theorem dX5_come_1 : decode cX5_come 1 = .ok (.iload_n 1, 1) := by decide +kernel
theorem dX5_come_2 : decode cX5_come 2 = .ok (.invokevirtual 60, 3) := by decide +kernel
theorem dX5_come_5 : decode cX5_come 5 = .ok (.astore_n 3, 1) := by decide +kernel
theorem dX5_come_6 : decode cX5_come 6 = .ok (.aload_n 3, 1) := by decide +kernel
theorem dX5_come_7 : decode cX5_come 7 = .ok (.ifnonnull 5, 3) := by decide +kernel
theorem dX5_come_10 : decode cX5_come 10 = .ok (.iconst (-1), 1) := by decide +kernel
theorem dX5_come_11 : decode cX5_come 11 = .ok (.ireturn, 1) := by decide +kernel
theorem dX5_come_12 : decode cX5_come 12 = .ok (.iload_n 2, 1) := by decide +kernel
theorem dX5_come_13 : decode cX5_come 13 = .ok (.iconst 0, 1) := by decide +kernel
theorem dX5_come_14 : decode cX5_come 14 = .ok (.sipush 1000, 3) := by decide +kernel
theorem dX5_come_17 : decode cX5_come 17 = .ok (.invokestatic 46, 3) := by decide +kernel
theorem dX5_come_20 : decode cX5_come 20 = .ok (.ifCond .ne 6, 3) := by decide +kernel
theorem dX5_come_23 : decode cX5_come 23 = .ok (.bipush (-2), 2) := by decide +kernel
theorem dX5_come_25 : decode cX5_come 25 = .ok (.ireturn, 1) := by decide +kernel
theorem dX5_come_26 : decode cX5_come 26 = .ok (.aload_n 0, 1) := by decide +kernel
theorem dX5_come_27 : decode cX5_come 27 = .ok (.getfield 24, 3) := by decide +kernel
theorem dX5_come_30 : decode cX5_come 30 = .ok (.iload_n 1, 1) := by decide +kernel
theorem dX5_come_31 : decode cX5_come 31 = .ok (.invokevirtual 102, 3) := by decide +kernel
theorem dX5_come_34 : decode cX5_come 34 = .ok (.bipush (-9), 2) := by decide +kernel
theorem dX5_come_36 : decode cX5_come 36 = .ok (.if_icmp .ne 14, 3) := by decide +kernel
theorem dX5_come_39 : decode cX5_come 39 = .ok (.aload_n 0, 1) := by decide +kernel
theorem dX5_come_40 : decode cX5_come 40 = .ok (.getfield 31, 3) := by decide +kernel
theorem dX5_come_43 : decode cX5_come 43 = .ok (.iload_n 1, 1) := by decide +kernel
theorem dX5_come_44 : decode cX5_come 44 = .ok (.invokevirtual 126, 3) := by decide +kernel
theorem dX5_come_47 : decode cX5_come 47 = .ok (.ifCond .eq 6, 3) := by decide +kernel
theorem dX5_come_50 : decode cX5_come 50 = .ok (.bipush (-3), 2) := by decide +kernel
theorem dX5_come_52 : decode cX5_come 52 = .ok (.ireturn, 1) := by decide +kernel
theorem dX5_come_53 : decode cX5_come 53 = .ok (.aload_n 0, 1) := by decide +kernel
theorem dX5_come_54 : decode cX5_come 54 = .ok (.getfield 129, 3) := by decide +kernel
theorem dX5_come_57 : decode cX5_come 57 = .ok (.sipush 500, 3) := by decide +kernel
theorem dX5_come_60 : decode cX5_come 60 = .ok (.if_icmp .lt 6, 3) := by decide +kernel
theorem dX5_come_63 : decode cX5_come 63 = .ok (.bipush (-4), 2) := by decide +kernel
theorem dX5_come_65 : decode cX5_come 65 = .ok (.ireturn, 1) := by decide +kernel
theorem dX5_come_66 : decode cX5_come 66 = .ok (.aload_n 0, 1) := by decide +kernel
theorem dX5_come_67 : decode cX5_come 67 = .ok (.getfield 129, 3) := by decide +kernel
theorem dX5_come_70 : decode cX5_come 70 = .ok (.istore 4, 2) := by decide +kernel
theorem dX5_come_72 : decode cX5_come 72 = .ok (.new 15, 3) := by decide +kernel
theorem dX5_come_75 : decode cX5_come 75 = .ok (.dup, 1) := by decide +kernel
theorem dX5_come_76 : decode cX5_come 76 = .ok (.iload_n 1, 1) := by decide +kernel
theorem dX5_come_77 : decode cX5_come 77 = .ok (.aload_n 3, 1) := by decide +kernel
theorem dX5_come_78 : decode cX5_come 78 = .ok (.getfield 64, 3) := by decide +kernel
theorem dX5_come_81 : decode cX5_come 81 = .ok (.iconst 1, 1) := by decide +kernel
theorem dX5_come_82 : decode cX5_come 82 = .ok (.if_icmp .ne 7, 3) := by decide +kernel
theorem dX5_come_85 : decode cX5_come 85 = .ok (.iconst 1, 1) := by decide +kernel
theorem dX5_come_86 : decode cX5_come 86 = .ok (.goto 4, 3) := by decide +kernel
theorem dX5_come_89 : decode cX5_come 89 = .ok (.iconst 0, 1) := by decide +kernel
theorem dX5_come_90 : decode cX5_come 90 = .ok (.aload_n 0, 1) := by decide +kernel
theorem dX5_come_91 : decode cX5_come 91 = .ok (.getfield 54, 3) := by decide +kernel
theorem dX5_come_94 : decode cX5_come 94 = .ok (.iload_n 2, 1) := by decide +kernel
theorem dX5_come_95 : decode cX5_come 95 = .ok (.aload_n 3, 1) := by decide +kernel
theorem dX5_come_96 : decode cX5_come 96 = .ok (.iload_n 2, 1) := by decide +kernel
theorem dX5_come_97 : decode cX5_come 97 = .ok (.invokevirtual 132, 3) := by decide +kernel
theorem dX5_come_100 : decode cX5_come 100 = .ok (.invokespecial 135, 3) := by decide +kernel
theorem dX5_come_103 : decode cX5_come 103 = .ok (.astore 5, 2) := by decide +kernel
theorem dX5_come_105 : decode cX5_come 105 = .ok (.aload_n 0, 1) := by decide +kernel
theorem dX5_come_106 : decode cX5_come 106 = .ok (.getfield 17, 3) := by decide +kernel
theorem dX5_come_109 : decode cX5_come 109 = .ok (.iload 4, 2) := by decide +kernel
theorem dX5_come_111 : decode cX5_come 111 = .ok (.aload 5, 2) := by decide +kernel
theorem dX5_come_113 : decode cX5_come 113 = .ok (.aastore, 1) := by decide +kernel
theorem dX5_come_114 : decode cX5_come 114 = .ok (.aload_n 0, 1) := by decide +kernel
theorem dX5_come_115 : decode cX5_come 115 = .ok (.dup, 1) := by decide +kernel
theorem dX5_come_116 : decode cX5_come 116 = .ok (.getfield 129, 3) := by decide +kernel
theorem dX5_come_119 : decode cX5_come 119 = .ok (.iconst 1, 1) := by decide +kernel
theorem dX5_come_120 : decode cX5_come 120 = .ok (.iadd, 1) := by decide +kernel
theorem dX5_come_121 : decode cX5_come 121 = .ok (.putfield 129, 3) := by decide +kernel
theorem dX5_come_124 : decode cX5_come 124 = .ok (.aload_n 3, 1) := by decide +kernel
theorem dX5_come_125 : decode cX5_come 125 = .ok (.iload_n 2, 1) := by decide +kernel
theorem dX5_come_126 : decode cX5_come 126 = .ok (.invokevirtual 138, 3) := by decide +kernel
theorem dX5_come_129 : decode cX5_come 129 = .ok (.aload 5, 2) := by decide +kernel
theorem dX5_come_131 : decode cX5_come 131 = .ok (.getfield 141, 3) := by decide +kernel
theorem dX5_come_134 : decode cX5_come 134 = .ok (.ifCond .eq 13, 3) := by decide +kernel
theorem dX5_come_137 : decode cX5_come 137 = .ok (.aload_n 0, 1) := by decide +kernel
theorem dX5_come_138 : decode cX5_come 138 = .ok (.dup, 1) := by decide +kernel
theorem dX5_come_139 : decode cX5_come 139 = .ok (.getfield 144, 3) := by decide +kernel
theorem dX5_come_142 : decode cX5_come 142 = .ok (.iconst 1, 1) := by decide +kernel
theorem dX5_come_143 : decode cX5_come 143 = .ok (.iadd, 1) := by decide +kernel
theorem dX5_come_144 : decode cX5_come 144 = .ok (.putfield 144, 3) := by decide +kernel
theorem dX5_come_147 : decode cX5_come 147 = .ok (.aload_n 3, 1) := by decide +kernel
theorem dX5_come_148 : decode cX5_come 148 = .ok (.aload_n 0, 1) := by decide +kernel
theorem dX5_come_149 : decode cX5_come 149 = .ok (.getfield 54, 3) := by decide +kernel
theorem dX5_come_152 : decode cX5_come 152 = .ok (.invokevirtual 91, 3) := by decide +kernel
theorem dX5_come_155 : decode cX5_come 155 = .ok (.ifCond .eq 19, 3) := by decide +kernel
theorem dX5_come_158 : decode cX5_come 158 = .ok (.aload_n 0, 1) := by decide +kernel
theorem dX5_come_159 : decode cX5_come 159 = .ok (.getfield 24, 3) := by decide +kernel
theorem dX5_come_162 : decode cX5_come 162 = .ok (.aload 5, 2) := by decide +kernel
theorem dX5_come_164 : decode cX5_come 164 = .ok (.invokevirtual 147, 3) := by decide +kernel
theorem dX5_come_167 : decode cX5_come 167 = .ok (.aload_n 0, 1) := by decide +kernel
theorem dX5_come_168 : decode cX5_come 168 = .ok (.invokevirtual 123, 3) := by decide +kernel
theorem dX5_come_171 : decode cX5_come 171 = .ok (.goto 19, 3) := by decide +kernel
theorem dX5_come_174 : decode cX5_come 174 = .ok (.aload 5, 2) := by decide +kernel
theorem dX5_come_176 : decode cX5_come 176 = .ok (.iconst 0, 1) := by decide +kernel
theorem dX5_come_177 : decode cX5_come 177 = .ok (.putfield 151, 3) := by decide +kernel
theorem dX5_come_180 : decode cX5_come 180 = .ok (.aload_n 0, 1) := by decide +kernel
theorem dX5_come_181 : decode cX5_come 181 = .ok (.dup, 1) := by decide +kernel
theorem dX5_come_182 : decode cX5_come 182 = .ok (.getfield 152, 3) := by decide +kernel
theorem dX5_come_185 : decode cX5_come 185 = .ok (.iconst 1, 1) := by decide +kernel
theorem dX5_come_186 : decode cX5_come 186 = .ok (.iadd, 1) := by decide +kernel
theorem dX5_come_187 : decode cX5_come 187 = .ok (.putfield 152, 3) := by decide +kernel
theorem dX5_come_190 : decode cX5_come 190 = .ok (.iload 4, 2) := by decide +kernel
theorem dX5_come_192 : decode cX5_come 192 = .ok (.ireturn, 1) := by decide +kernel
theorem dX5_power_0 : decode cX5_power 0 = .ok (.aload_n 0, 1) := by decide +kernel
theorem dX5_power_1 : decode cX5_power 1 = .ok (.getfield 42, 3) := by decide +kernel
theorem dX5_power_4 : decode cX5_power 4 = .ok (.invokestatic 95, 3) := by decide +kernel
theorem dX5_power_7 : decode cX5_power 7 = .ok (.istore_n 2, 1) := by decide +kernel
theorem dX5_power_8 : decode cX5_power 8 = .ok (.aload_n 0, 1) := by decide +kernel
theorem dX5_power_9 : decode cX5_power 9 = .ok (.iload_n 1, 1) := by decide +kernel
theorem dX5_power_10 : decode cX5_power 10 = .ok (.putfield 42, 3) := by decide +kernel
theorem dX5_power_13 : decode cX5_power 13 = .ok (.iload_n 1, 1) := by decide +kernel
theorem dX5_power_14 : decode cX5_power 14 = .ok (.ifCond .eq 10, 3) := by decide +kernel
theorem dX5_power_17 : decode cX5_power 17 = .ok (.aload_n 0, 1) := by decide +kernel
theorem dX5_power_18 : decode cX5_power 18 = .ok (.invokevirtual 123, 3) := by decide +kernel
theorem dX5_power_21 : decode cX5_power 21 = .ok (.goto 8, 3) := by decide +kernel
theorem dX5_power_24 : decode cX5_power 24 = .ok (.aload_n 0, 1) := by decide +kernel
theorem dX5_power_25 : decode cX5_power 25 = .ok (.iconst 2, 1) := by decide +kernel
theorem dX5_power_26 : decode cX5_power 26 = .ok (.invokevirtual 119, 3) := by decide +kernel
theorem dX5_power_29 : decode cX5_power 29 = .ok (.iload_n 2, 1) := by decide +kernel
theorem dX5_power_30 : decode cX5_power 30 = .ok (.ireturn, 1) := by decide +kernel
theorem dX5_box_0 : decode cX5_box 0 = .ok (.aload_n 0, 1) := by decide +kernel
theorem dX5_box_1 : decode cX5_box 1 = .ok (.getfield 31, 3) := by decide +kernel
theorem dX5_box_4 : decode cX5_box 4 = .ok (.getfield 155, 3) := by decide +kernel
theorem dX5_box_7 : decode cX5_box 7 = .ok (.astore_n 1, 1) := by decide +kernel
theorem dX5_box_8 : decode cX5_box 8 = .ok (.aload_n 1, 1) := by decide +kernel
theorem dX5_box_9 : decode cX5_box 9 = .ok (.ifnonnull 8, 3) := by decide +kernel
theorem dX5_box_12 : decode cX5_box 12 = .ok (.bipush (-9), 2) := by decide +kernel
theorem dX5_box_14 : decode cX5_box 14 = .ok (.goto 7, 3) := by decide +kernel
theorem dX5_box_17 : decode cX5_box 17 = .ok (.aload_n 1, 1) := by decide +kernel
theorem dX5_box_18 : decode cX5_box 18 = .ok (.getfield 159, 3) := by decide +kernel
theorem dX5_box_21 : decode cX5_box 21 = .ok (.ireturn, 1) := by decide +kernel
theorem dX5_queue_0 : decode cX5_queue 0 = .ok (.aload_n 0, 1) := by decide +kernel
theorem dX5_queue_1 : decode cX5_queue 1 = .ok (.getfield 24, 3) := by decide +kernel
theorem dX5_queue_4 : decode cX5_queue 4 = .ok (.iload_n 1, 1) := by decide +kernel
theorem dX5_queue_5 : decode cX5_queue 5 = .ok (.invokevirtual 162, 3) := by decide +kernel
theorem dX5_queue_8 : decode cX5_queue 8 = .ok (.astore_n 2, 1) := by decide +kernel
theorem dX5_queue_9 : decode cX5_queue 9 = .ok (.aload_n 2, 1) := by decide +kernel
theorem dX5_queue_10 : decode cX5_queue 10 = .ok (.ifnonnull 8, 3) := by decide +kernel
theorem dX5_queue_13 : decode cX5_queue 13 = .ok (.bipush (-9), 2) := by decide +kernel
theorem dX5_queue_15 : decode cX5_queue 15 = .ok (.goto 7, 3) := by decide +kernel
theorem dX5_queue_18 : decode cX5_queue 18 = .ok (.aload_n 2, 1) := by decide +kernel
theorem dX5_queue_19 : decode cX5_queue 19 = .ok (.getfield 159, 3) := by decide +kernel
theorem dX5_queue_22 : decode cX5_queue 22 = .ok (.ireturn, 1) := by decide +kernel
theorem dX5_ends_0 : decode cX5_ends 0 = .ok (.aload_n 0, 1) := by decide +kernel
theorem dX5_ends_1 : decode cX5_ends 1 = .ok (.getfield 31, 3) := by decide +kernel
theorem dX5_ends_4 : decode cX5_ends 4 = .ok (.invokevirtual 112, 3) := by decide +kernel
theorem dX5_ends_7 : decode cX5_ends 7 = .ok (.ifCond .eq 13, 3) := by decide +kernel
theorem dX5_ends_10 : decode cX5_ends 10 = .ok (.aload_n 0, 1) := by decide +kernel
theorem dX5_ends_11 : decode cX5_ends 11 = .ok (.getfield 31, 3) := by decide +kernel
theorem dX5_ends_14 : decode cX5_ends 14 = .ok (.getfield 116, 3) := by decide +kernel
theorem dX5_ends_17 : decode cX5_ends 17 = .ok (.goto 5, 3) := by decide +kernel
theorem dX5_ends_20 : decode cX5_ends 20 = .ok (.bipush (-9), 2) := by decide +kernel
theorem dX5_ends_22 : decode cX5_ends 22 = .ok (.ireturn, 1) := by decide +kernel
theorem dX5_room_0 : decode cX5_room 0 = .ok (.iload_n 1, 1) := by decide +kernel
theorem dX5_room_1 : decode cX5_room 1 = .ok (.iconst 1, 1) := by decide +kernel
theorem dX5_room_2 : decode cX5_room 2 = .ok (.ldc 111, 2) := by decide +kernel
theorem dX5_room_4 : decode cX5_room 4 = .ok (.invokestatic 46, 3) := by decide +kernel
theorem dX5_room_7 : decode cX5_room 7 = .ok (.ifCond .ne 6, 3) := by decide +kernel
theorem dX5_room_10 : decode cX5_room 10 = .ok (.bipush (-2), 2) := by decide +kernel
theorem dX5_room_12 : decode cX5_room 12 = .ok (.ireturn, 1) := by decide +kernel
theorem dX5_room_13 : decode cX5_room 13 = .ok (.aload_n 0, 1) := by decide +kernel
theorem dX5_room_14 : decode cX5_room 14 = .ok (.getfield 38, 3) := by decide +kernel
theorem dX5_room_17 : decode cX5_room 17 = .ok (.getfield 166, 3) := by decide +kernel
theorem dX5_room_20 : decode cX5_room 20 = .ok (.iload_n 1, 1) := by decide +kernel
theorem dX5_room_21 : decode cX5_room 21 = .ok (.if_icmp .le 6, 3) := by decide +kernel
theorem dX5_room_24 : decode cX5_room 24 = .ok (.bipush (-3), 2) := by decide +kernel
theorem dX5_room_26 : decode cX5_room 26 = .ok (.ireturn, 1) := by decide +kernel
theorem dX5_room_27 : decode cX5_room 27 = .ok (.aload_n 0, 1) := by decide +kernel
theorem dX5_room_28 : decode cX5_room 28 = .ok (.getfield 38, 3) := by decide +kernel
theorem dX5_room_31 : decode cX5_room 31 = .ok (.getfield 169, 3) := by decide +kernel
theorem dX5_room_34 : decode cX5_room 34 = .ok (.istore_n 2, 1) := by decide +kernel
theorem dX5_room_35 : decode cX5_room 35 = .ok (.aload_n 0, 1) := by decide +kernel
theorem dX5_room_36 : decode cX5_room 36 = .ok (.getfield 38, 3) := by decide +kernel
theorem dX5_room_39 : decode cX5_room 39 = .ok (.iload_n 1, 1) := by decide +kernel
theorem dX5_room_40 : decode cX5_room 40 = .ok (.putfield 169, 3) := by decide +kernel
theorem dX5_room_43 : decode cX5_room 43 = .ok (.iload_n 2, 1) := by decide +kernel
theorem dX5_room_44 : decode cX5_room 44 = .ok (.ireturn, 1) := by decide +kernel
theorem dX5_pick_0 : decode cX5_pick 0 = .ok (.iload_n 1, 1) := by decide +kernel
theorem dX5_pick_1 : decode cX5_pick 1 = .ok (.iconst 1, 1) := by decide +kernel
theorem dX5_pick_2 : decode cX5_pick 2 = .ok (.ldc 111, 2) := by decide +kernel
theorem dX5_pick_4 : decode cX5_pick 4 = .ok (.invokestatic 46, 3) := by decide +kernel
theorem dX5_pick_7 : decode cX5_pick 7 = .ok (.ifCond .ne 6, 3) := by decide +kernel
theorem dX5_pick_10 : decode cX5_pick 10 = .ok (.bipush (-2), 2) := by decide +kernel
theorem dX5_pick_12 : decode cX5_pick 12 = .ok (.ireturn, 1) := by decide +kernel
theorem dX5_pick_13 : decode cX5_pick 13 = .ok (.aload_n 0, 1) := by decide +kernel
theorem dX5_pick_14 : decode cX5_pick 14 = .ok (.getfield 38, 3) := by decide +kernel
theorem dX5_pick_17 : decode cX5_pick 17 = .ok (.iload_n 1, 1) := by decide +kernel
theorem dX5_pick_18 : decode cX5_pick 18 = .ok (.invokevirtual 172, 3) := by decide +kernel
theorem dX5_pick_21 : decode cX5_pick 21 = .ok (.ireturn, 1) := by decide +kernel
theorem dX5_total_0 : decode cX5_total 0 = .ok (.iload_n 1, 1) := by decide +kernel
theorem dX5_total_1 : decode cX5_total 1 = .ok (.tableswitch 150 0 12 #[67, 75, 83, 91, 99, 104, 109, 114, 119, 124, 132, 137, 145], 67) := by decide +kernel
theorem dX5_total_68 : decode cX5_total 68 = .ok (.aload_n 0, 1) := by decide +kernel
theorem dX5_total_69 : decode cX5_total 69 = .ok (.getfield 38, 3) := by decide +kernel
theorem dX5_total_72 : decode cX5_total 72 = .ok (.getfield 166, 3) := by decide +kernel
theorem dX5_total_75 : decode cX5_total 75 = .ok (.ireturn, 1) := by decide +kernel
theorem dX5_total_76 : decode cX5_total 76 = .ok (.aload_n 0, 1) := by decide +kernel
theorem dX5_total_77 : decode cX5_total 77 = .ok (.getfield 38, 3) := by decide +kernel
theorem dX5_total_80 : decode cX5_total 80 = .ok (.getfield 175, 3) := by decide +kernel
theorem dX5_total_83 : decode cX5_total 83 = .ok (.ireturn, 1) := by decide +kernel
theorem dX5_total_84 : decode cX5_total 84 = .ok (.aload_n 0, 1) := by decide +kernel
theorem dX5_total_85 : decode cX5_total 85 = .ok (.getfield 38, 3) := by decide +kernel
theorem dX5_total_88 : decode cX5_total 88 = .ok (.getfield 178, 3) := by decide +kernel
theorem dX5_total_91 : decode cX5_total 91 = .ok (.ireturn, 1) := by decide +kernel
theorem dX5_total_92 : decode cX5_total 92 = .ok (.aload_n 0, 1) := by decide +kernel
theorem dX5_total_93 : decode cX5_total 93 = .ok (.getfield 38, 3) := by decide +kernel
theorem dX5_total_96 : decode cX5_total 96 = .ok (.getfield 181, 3) := by decide +kernel
theorem dX5_total_99 : decode cX5_total 99 = .ok (.ireturn, 1) := by decide +kernel
theorem dX5_total_100 : decode cX5_total 100 = .ok (.aload_n 0, 1) := by decide +kernel
theorem dX5_total_101 : decode cX5_total 101 = .ok (.getfield 184, 3) := by decide +kernel
theorem dX5_total_104 : decode cX5_total 104 = .ok (.ireturn, 1) := by decide +kernel
theorem dX5_total_105 : decode cX5_total 105 = .ok (.aload_n 0, 1) := by decide +kernel
theorem dX5_total_106 : decode cX5_total 106 = .ok (.getfield 187, 3) := by decide +kernel
theorem dX5_total_109 : decode cX5_total 109 = .ok (.ireturn, 1) := by decide +kernel
theorem dX5_total_110 : decode cX5_total 110 = .ok (.aload_n 0, 1) := by decide +kernel
theorem dX5_total_111 : decode cX5_total 111 = .ok (.getfield 54, 3) := by decide +kernel
theorem dX5_total_114 : decode cX5_total 114 = .ok (.ireturn, 1) := by decide +kernel
theorem dX5_total_115 : decode cX5_total 115 = .ok (.aload_n 0, 1) := by decide +kernel
theorem dX5_total_116 : decode cX5_total 116 = .ok (.getfield 50, 3) := by decide +kernel
theorem dX5_total_119 : decode cX5_total 119 = .ok (.ireturn, 1) := by decide +kernel
theorem dX5_total_120 : decode cX5_total 120 = .ok (.aload_n 0, 1) := by decide +kernel
theorem dX5_total_121 : decode cX5_total 121 = .ok (.getfield 129, 3) := by decide +kernel
theorem dX5_total_124 : decode cX5_total 124 = .ok (.ireturn, 1) := by decide +kernel
theorem dX5_total_125 : decode cX5_total 125 = .ok (.aload_n 0, 1) := by decide +kernel
theorem dX5_total_126 : decode cX5_total 126 = .ok (.getfield 24, 3) := by decide +kernel
theorem dX5_total_129 : decode cX5_total 129 = .ok (.getfield 190, 3) := by decide +kernel
theorem dX5_total_132 : decode cX5_total 132 = .ok (.ireturn, 1) := by decide +kernel
theorem dX5_total_133 : decode cX5_total 133 = .ok (.aload_n 0, 1) := by decide +kernel
theorem dX5_total_134 : decode cX5_total 134 = .ok (.getfield 144, 3) := by decide +kernel
theorem dX5_total_137 : decode cX5_total 137 = .ok (.ireturn, 1) := by decide +kernel
theorem dX5_total_138 : decode cX5_total 138 = .ok (.aload_n 0, 1) := by decide +kernel
theorem dX5_total_139 : decode cX5_total 139 = .ok (.getfield 42, 3) := by decide +kernel
theorem dX5_total_142 : decode cX5_total 142 = .ok (.invokestatic 95, 3) := by decide +kernel
theorem dX5_total_145 : decode cX5_total 145 = .ok (.ireturn, 1) := by decide +kernel
theorem dX5_total_146 : decode cX5_total 146 = .ok (.aload_n 0, 1) := by decide +kernel
theorem dX5_total_147 : decode cX5_total 147 = .ok (.getfield 152, 3) := by decide +kernel
theorem dX5_total_150 : decode cX5_total 150 = .ok (.ireturn, 1) := by decide +kernel
theorem dX5_total_151 : decode cX5_total 151 = .ok (.bipush (-2), 2) := by decide +kernel
theorem dX5_total_153 : decode cX5_total 153 = .ok (.ireturn, 1) := by decide +kernel
theorem dX5_visit_0 : decode cX5_visit 0 = .ok (.aload_n 0, 1) := by decide +kernel
theorem dX5_visit_1 : decode cX5_visit 1 = .ok (.iload_n 1, 1) := by decide +kernel
theorem dX5_visit_2 : decode cX5_visit 2 = .ok (.invokevirtual 193, 3) := by decide +kernel
theorem dX5_visit_5 : decode cX5_visit 5 = .ok (.astore 4, 2) := by decide +kernel
theorem dX5_visit_7 : decode cX5_visit 7 = .ok (.aload 4, 2) := by decide +kernel
theorem dX5_visit_9 : decode cX5_visit 9 = .ok (.ifnonnull 5, 3) := by decide +kernel
theorem dX5_visit_12 : decode cX5_visit 12 = .ok (.iconst (-1), 1) := by decide +kernel
theorem dX5_visit_13 : decode cX5_visit 13 = .ok (.ireturn, 1) := by decide +kernel
theorem dX5_visit_14 : decode cX5_visit 14 = .ok (.iload_n 2, 1) := by decide +kernel
theorem dX5_visit_15 : decode cX5_visit 15 = .ok (.iconst 0, 1) := by decide +kernel
theorem dX5_visit_16 : decode cX5_visit 16 = .ok (.iconst 3, 1) := by decide +kernel
theorem dX5_visit_17 : decode cX5_visit 17 = .ok (.invokestatic 46, 3) := by decide +kernel
theorem dX5_visit_20 : decode cX5_visit 20 = .ok (.ifCond .eq 13, 3) := by decide +kernel
theorem dX5_visit_23 : decode cX5_visit 23 = .ok (.iload_n 3, 1) := by decide +kernel
theorem dX5_visit_24 : decode cX5_visit 24 = .ok (.iconst 0, 1) := by decide +kernel
theorem dX5_visit_25 : decode cX5_visit 25 = .ok (.bipush 10, 2) := by decide +kernel
theorem dX5_visit_27 : decode cX5_visit 27 = .ok (.invokestatic 46, 3) := by decide +kernel
theorem dX5_visit_30 : decode cX5_visit 30 = .ok (.ifCond .ne 6, 3) := by decide +kernel
theorem dX5_visit_33 : decode cX5_visit 33 = .ok (.bipush (-2), 2) := by decide +kernel
theorem dX5_visit_35 : decode cX5_visit 35 = .ok (.ireturn, 1) := by decide +kernel
theorem dX5_visit_36 : decode cX5_visit 36 = .ok (.aload 4, 2) := by decide +kernel
theorem dX5_visit_38 : decode cX5_visit 38 = .ok (.iload_n 2, 1) := by decide +kernel
theorem dX5_visit_39 : decode cX5_visit 39 = .ok (.invokevirtual 196, 3) := by decide +kernel
theorem dX5_visit_42 : decode cX5_visit 42 = .ok (.ifCond .ne 6, 3) := by decide +kernel
theorem dX5_visit_45 : decode cX5_visit 45 = .ok (.bipush (-13), 2) := by decide +kernel
theorem dX5_visit_47 : decode cX5_visit 47 = .ok (.ireturn, 1) := by decide +kernel
theorem dX5_visit_48 : decode cX5_visit 48 = .ok (.aload 4, 2) := by decide +kernel
theorem dX5_visit_50 : decode cX5_visit 50 = .ok (.iload_n 3, 1) := by decide +kernel
theorem dX5_visit_51 : decode cX5_visit 51 = .ok (.invokevirtual 199, 3) := by decide +kernel
theorem dX5_visit_54 : decode cX5_visit 54 = .ok (.ireturn, 1) := by decide +kernel
theorem dX5_visitOf_0 : decode cX5_visitOf 0 = .ok (.aload_n 0, 1) := by decide +kernel
theorem dX5_visitOf_1 : decode cX5_visitOf 1 = .ok (.iload_n 1, 1) := by decide +kernel
theorem dX5_visitOf_2 : decode cX5_visitOf 2 = .ok (.invokevirtual 60, 3) := by decide +kernel
theorem dX5_visitOf_5 : decode cX5_visitOf 5 = .ok (.ifnonnull 5, 3) := by decide +kernel
theorem dX5_visitOf_8 : decode cX5_visitOf 8 = .ok (.iconst (-1), 1) := by decide +kernel
theorem dX5_visitOf_9 : decode cX5_visitOf 9 = .ok (.ireturn, 1) := by decide +kernel
theorem dX5_visitOf_10 : decode cX5_visitOf 10 = .ok (.iconst 0, 1) := by decide +kernel
theorem dX5_visitOf_11 : decode cX5_visitOf 11 = .ok (.istore_n 3, 1) := by decide +kernel
theorem dX5_visitOf_12 : decode cX5_visitOf 12 = .ok (.iconst 0, 1) := by decide +kernel
theorem dX5_visitOf_13 : decode cX5_visitOf 13 = .ok (.istore 4, 2) := by decide +kernel
theorem dX5_visitOf_15 : decode cX5_visitOf 15 = .ok (.iload 4, 2) := by decide +kernel
theorem dX5_visitOf_17 : decode cX5_visitOf 17 = .ok (.aload_n 0, 1) := by decide +kernel
theorem dX5_visitOf_18 : decode cX5_visitOf 18 = .ok (.getfield 129, 3) := by decide +kernel
theorem dX5_visitOf_21 : decode cX5_visitOf 21 = .ok (.if_icmp .ge 42, 3) := by decide +kernel
theorem dX5_visitOf_24 : decode cX5_visitOf 24 = .ok (.aload_n 0, 1) := by decide +kernel
theorem dX5_visitOf_25 : decode cX5_visitOf 25 = .ok (.iload 4, 2) := by decide +kernel
theorem dX5_visitOf_27 : decode cX5_visitOf 27 = .ok (.invokevirtual 193, 3) := by decide +kernel
theorem dX5_visitOf_30 : decode cX5_visitOf 30 = .ok (.astore 5, 2) := by decide +kernel
theorem dX5_visitOf_32 : decode cX5_visitOf 32 = .ok (.aload 5, 2) := by decide +kernel
theorem dX5_visitOf_34 : decode cX5_visitOf 34 = .ok (.ifnull 23, 3) := by decide +kernel
theorem dX5_visitOf_37 : decode cX5_visitOf 37 = .ok (.aload 5, 2) := by decide +kernel
theorem dX5_visitOf_39 : decode cX5_visitOf 39 = .ok (.getfield 159, 3) := by decide +kernel
theorem dX5_visitOf_42 : decode cX5_visitOf 42 = .ok (.iload_n 1, 1) := by decide +kernel
theorem dX5_visitOf_43 : decode cX5_visitOf 43 = .ok (.if_icmp .ne 14, 3) := by decide +kernel
theorem dX5_visitOf_46 : decode cX5_visitOf 46 = .ok (.iload_n 3, 1) := by decide +kernel
theorem dX5_visitOf_47 : decode cX5_visitOf 47 = .ok (.iload_n 2, 1) := by decide +kernel
theorem dX5_visitOf_48 : decode cX5_visitOf 48 = .ok (.if_icmp .ne 6, 3) := by decide +kernel
theorem dX5_visitOf_51 : decode cX5_visitOf 51 = .ok (.iload 4, 2) := by decide +kernel
theorem dX5_visitOf_53 : decode cX5_visitOf 53 = .ok (.ireturn, 1) := by decide +kernel
theorem dX5_visitOf_54 : decode cX5_visitOf 54 = .ok (.iinc 3 1, 3) := by decide +kernel
theorem dX5_visitOf_57 : decode cX5_visitOf 57 = .ok (.iinc 4 1, 3) := by decide +kernel
theorem dX5_visitOf_60 : decode cX5_visitOf 60 = .ok (.goto (-45), 3) := by decide +kernel
theorem dX5_visitOf_63 : decode cX5_visitOf 63 = .ok (.bipush (-9), 2) := by decide +kernel
theorem dX5_visitOf_65 : decode cX5_visitOf 65 = .ok (.ireturn, 1) := by decide +kernel
theorem dX5_gave_0 : decode cX5_gave 0 = .ok (.aload_n 0, 1) := by decide +kernel
theorem dX5_gave_1 : decode cX5_gave 1 = .ok (.iload_n 1, 1) := by decide +kernel
theorem dX5_gave_2 : decode cX5_gave 2 = .ok (.invokevirtual 60, 3) := by decide +kernel
theorem dX5_gave_5 : decode cX5_gave 5 = .ok (.ifnonnull 5, 3) := by decide +kernel
theorem dX5_gave_8 : decode cX5_gave 8 = .ok (.iconst (-1), 1) := by decide +kernel
theorem dX5_gave_9 : decode cX5_gave 9 = .ok (.ireturn, 1) := by decide +kernel
theorem dX5_gave_10 : decode cX5_gave 10 = .ok (.iload_n 2, 1) := by decide +kernel
theorem dX5_gave_11 : decode cX5_gave 11 = .ok (.ifCond .ge 6, 3) := by decide +kernel
theorem dX5_gave_14 : decode cX5_gave 14 = .ok (.bipush (-2), 2) := by decide +kernel
theorem dX5_gave_16 : decode cX5_gave 16 = .ok (.ireturn, 1) := by decide +kernel
theorem dX5_gave_17 : decode cX5_gave 17 = .ok (.iconst 0, 1) := by decide +kernel
theorem dX5_gave_18 : decode cX5_gave 18 = .ok (.istore_n 3, 1) := by decide +kernel
theorem dX5_gave_19 : decode cX5_gave 19 = .ok (.iconst 0, 1) := by decide +kernel
theorem dX5_gave_20 : decode cX5_gave 20 = .ok (.istore 4, 2) := by decide +kernel
theorem dX5_gave_22 : decode cX5_gave 22 = .ok (.iload 4, 2) := by decide +kernel
theorem dX5_gave_24 : decode cX5_gave 24 = .ok (.aload_n 0, 1) := by decide +kernel
theorem dX5_gave_25 : decode cX5_gave 25 = .ok (.getfield 129, 3) := by decide +kernel
theorem dX5_gave_28 : decode cX5_gave 28 = .ok (.if_icmp .ge 48, 3) := by decide +kernel
theorem dX5_gave_31 : decode cX5_gave 31 = .ok (.aload_n 0, 1) := by decide +kernel
theorem dX5_gave_32 : decode cX5_gave 32 = .ok (.iload 4, 2) := by decide +kernel
theorem dX5_gave_34 : decode cX5_gave 34 = .ok (.invokevirtual 193, 3) := by decide +kernel
theorem dX5_gave_37 : decode cX5_gave 37 = .ok (.astore 5, 2) := by decide +kernel
theorem dX5_gave_39 : decode cX5_gave 39 = .ok (.aload 5, 2) := by decide +kernel
theorem dX5_gave_41 : decode cX5_gave 41 = .ok (.ifnull 29, 3) := by decide +kernel
theorem dX5_gave_44 : decode cX5_gave 44 = .ok (.aload 5, 2) := by decide +kernel
theorem dX5_gave_46 : decode cX5_gave 46 = .ok (.getfield 159, 3) := by decide +kernel
theorem dX5_gave_49 : decode cX5_gave 49 = .ok (.iload_n 1, 1) := by decide +kernel
theorem dX5_gave_50 : decode cX5_gave 50 = .ok (.if_icmp .ne 20, 3) := by decide +kernel
theorem dX5_gave_53 : decode cX5_gave 53 = .ok (.aload 5, 2) := by decide +kernel
theorem dX5_gave_55 : decode cX5_gave 55 = .ok (.iload_n 2, 1) := by decide +kernel
theorem dX5_gave_56 : decode cX5_gave 56 = .ok (.invokevirtual 202, 3) := by decide +kernel
theorem dX5_gave_59 : decode cX5_gave 59 = .ok (.ifCond .eq 11, 3) := by decide +kernel
theorem dX5_gave_62 : decode cX5_gave 62 = .ok (.iload_n 3, 1) := by decide +kernel
theorem dX5_gave_63 : decode cX5_gave 63 = .ok (.aload 5, 2) := by decide +kernel
theorem dX5_gave_65 : decode cX5_gave 65 = .ok (.getfield 205, 3) := by decide +kernel
theorem dX5_gave_68 : decode cX5_gave 68 = .ok (.iadd, 1) := by decide +kernel
theorem dX5_gave_69 : decode cX5_gave 69 = .ok (.istore_n 3, 1) := by decide +kernel
theorem dX5_gave_70 : decode cX5_gave 70 = .ok (.iinc 4 1, 3) := by decide +kernel
theorem dX5_gave_73 : decode cX5_gave 73 = .ok (.goto (-51), 3) := by decide +kernel
theorem dX5_gave_76 : decode cX5_gave 76 = .ok (.iload_n 3, 1) := by decide +kernel
theorem dX5_gave_77 : decode cX5_gave 77 = .ok (.ireturn, 1) := by decide +kernel
theorem dX5_longest_0 : decode cX5_longest 0 = .ok (.aload_n 0, 1) := by decide +kernel
theorem dX5_longest_1 : decode cX5_longest 1 = .ok (.getfield 208, 3) := by decide +kernel
theorem dX5_longest_4 : decode cX5_longest 4 = .ok (.ireturn, 1) := by decide +kernel
theorem dX5_rank_0 : decode cX5_rank 0 = .ok (.iconst 0, 1) := by decide +kernel
theorem dX5_rank_1 : decode cX5_rank 1 = .ok (.istore_n 2, 1) := by decide +kernel
theorem dX5_rank_2 : decode cX5_rank 2 = .ok (.iload_n 2, 1) := by decide +kernel
theorem dX5_rank_3 : decode cX5_rank 3 = .ok (.aload_n 0, 1) := by decide +kernel
theorem dX5_rank_4 : decode cX5_rank 4 = .ok (.getfield 50, 3) := by decide +kernel
theorem dX5_rank_7 : decode cX5_rank 7 = .ok (.if_icmp .ge 20, 3) := by decide +kernel
theorem dX5_rank_10 : decode cX5_rank 10 = .ok (.aload_n 0, 1) := by decide +kernel
theorem dX5_rank_11 : decode cX5_rank 11 = .ok (.iload_n 2, 1) := by decide +kernel
theorem dX5_rank_12 : decode cX5_rank 12 = .ok (.invokevirtual 211, 3) := by decide +kernel
theorem dX5_rank_15 : decode cX5_rank 15 = .ok (.iload_n 1, 1) := by decide +kernel
theorem dX5_rank_16 : decode cX5_rank 16 = .ok (.if_icmp .ne 5, 3) := by decide +kernel
theorem dX5_rank_19 : decode cX5_rank 19 = .ok (.iload_n 2, 1) := by decide +kernel
theorem dX5_rank_20 : decode cX5_rank 20 = .ok (.ireturn, 1) := by decide +kernel
theorem dX5_rank_21 : decode cX5_rank 21 = .ok (.iinc 2 1, 3) := by decide +kernel
theorem dX5_rank_24 : decode cX5_rank 24 = .ok (.goto (-22), 3) := by decide +kernel
theorem dX5_rank_27 : decode cX5_rank 27 = .ok (.bipush (-9), 2) := by decide +kernel
theorem dX5_rank_29 : decode cX5_rank 29 = .ok (.ireturn, 1) := by decide +kernel
theorem dX5_until_0 : decode cX5_until 0 = .ok (.aload_n 0, 1) := by decide +kernel
theorem dX5_until_1 : decode cX5_until 1 = .ok (.iload_n 1, 1) := by decide +kernel
theorem dX5_until_2 : decode cX5_until 2 = .ok (.invokevirtual 60, 3) := by decide +kernel
theorem dX5_until_5 : decode cX5_until 5 = .ok (.astore_n 3, 1) := by decide +kernel
theorem dX5_until_6 : decode cX5_until 6 = .ok (.aload_n 3, 1) := by decide +kernel
theorem dX5_until_7 : decode cX5_until 7 = .ok (.ifnonnull 5, 3) := by decide +kernel
theorem dX5_until_10 : decode cX5_until 10 = .ok (.iconst (-1), 1) := by decide +kernel
theorem dX5_until_11 : decode cX5_until 11 = .ok (.ireturn, 1) := by decide +kernel
theorem dX5_until_12 : decode cX5_until 12 = .ok (.iload_n 2, 1) := by decide +kernel
theorem dX5_until_13 : decode cX5_until 13 = .ok (.iconst 1, 1) := by decide +kernel
theorem dX5_until_14 : decode cX5_until 14 = .ok (.sipush 400, 3) := by decide +kernel
theorem dX5_until_17 : decode cX5_until 17 = .ok (.invokestatic 46, 3) := by decide +kernel
theorem dX5_until_20 : decode cX5_until 20 = .ok (.ifCond .ne 6, 3) := by decide +kernel
theorem dX5_until_23 : decode cX5_until 23 = .ok (.bipush (-2), 2) := by decide +kernel
theorem dX5_until_25 : decode cX5_until 25 = .ok (.ireturn, 1) := by decide +kernel
theorem dX5_until_26 : decode cX5_until 26 = .ok (.aload_n 0, 1) := by decide +kernel
theorem dX5_until_27 : decode cX5_until 27 = .ok (.getfield 31, 3) := by decide +kernel
theorem dX5_until_30 : decode cX5_until 30 = .ok (.iload_n 1, 1) := by decide +kernel
theorem dX5_until_31 : decode cX5_until 31 = .ok (.invokevirtual 126, 3) := by decide +kernel
theorem dX5_until_34 : decode cX5_until 34 = .ok (.ifCond .eq 6, 3) := by decide +kernel
theorem dX5_until_37 : decode cX5_until 37 = .ok (.bipush (-9), 2) := by decide +kernel
theorem dX5_until_39 : decode cX5_until 39 = .ok (.ireturn, 1) := by decide +kernel
theorem dX5_until_40 : decode cX5_until 40 = .ok (.aload_n 3, 1) := by decide +kernel
theorem dX5_until_41 : decode cX5_until 41 = .ok (.iload_n 2, 1) := by decide +kernel
theorem dX5_until_42 : decode cX5_until 42 = .ok (.aload_n 0, 1) := by decide +kernel
theorem dX5_until_43 : decode cX5_until 43 = .ok (.getfield 54, 3) := by decide +kernel
theorem dX5_until_46 : decode cX5_until 46 = .ok (.invokevirtual 214, 3) := by decide +kernel
theorem dX5_until_49 : decode cX5_until 49 = .ok (.ireturn, 1) := by decide +kernel
theorem dX5_within_0 : decode cX5_within 0 = .ok (.iload_n 0, 1) := by decide +kernel
theorem dX5_within_1 : decode cX5_within 1 = .ok (.iload_n 1, 1) := by decide +kernel
theorem dX5_within_2 : decode cX5_within 2 = .ok (.if_icmp .lt 12, 3) := by decide +kernel
theorem dX5_within_5 : decode cX5_within 5 = .ok (.iload_n 0, 1) := by decide +kernel
theorem dX5_within_6 : decode cX5_within 6 = .ok (.iload_n 2, 1) := by decide +kernel
theorem dX5_within_7 : decode cX5_within 7 = .ok (.if_icmp .gt 7, 3) := by decide +kernel
theorem dX5_within_10 : decode cX5_within 10 = .ok (.iconst 1, 1) := by decide +kernel
theorem dX5_within_11 : decode cX5_within 11 = .ok (.goto 4, 3) := by decide +kernel
theorem dX5_within_14 : decode cX5_within 14 = .ok (.iconst 0, 1) := by decide +kernel
theorem dX5_within_15 : decode cX5_within 15 = .ok (.ireturn, 1) := by decide +kernel
theorem dX5_asNumber_0 : decode cX5_asNumber 0 = .ok (.iload_n 0, 1) := by decide +kernel
theorem dX5_asNumber_1 : decode cX5_asNumber 1 = .ok (.ifCond .eq 7, 3) := by decide +kernel
theorem dX5_asNumber_4 : decode cX5_asNumber 4 = .ok (.iconst 1, 1) := by decide +kernel
theorem dX5_asNumber_5 : decode cX5_asNumber 5 = .ok (.goto 4, 3) := by decide +kernel
theorem dX5_asNumber_8 : decode cX5_asNumber 8 = .ok (.iconst 0, 1) := by decide +kernel
theorem dX5_asNumber_9 : decode cX5_asNumber 9 = .ok (.ireturn, 1) := by decide +kernel
theorem dX5_cowAt_0 : decode cX5_cowAt 0 = .ok (.iload_n 1, 1) := by decide +kernel
theorem dX5_cowAt_1 : decode cX5_cowAt 1 = .ok (.iconst 0, 1) := by decide +kernel
theorem dX5_cowAt_2 : decode cX5_cowAt 2 = .ok (.aload_n 0, 1) := by decide +kernel
theorem dX5_cowAt_3 : decode cX5_cowAt 3 = .ok (.getfield 50, 3) := by decide +kernel
theorem dX5_cowAt_6 : decode cX5_cowAt 6 = .ok (.iconst 1, 1) := by decide +kernel
theorem dX5_cowAt_7 : decode cX5_cowAt 7 = .ok (.isub, 1) := by decide +kernel
theorem dX5_cowAt_8 : decode cX5_cowAt 8 = .ok (.invokestatic 46, 3) := by decide +kernel
theorem dX5_cowAt_11 : decode cX5_cowAt 11 = .ok (.ifCond .eq 21, 3) := by decide +kernel
theorem dX5_cowAt_14 : decode cX5_cowAt 14 = .ok (.iload_n 1, 1) := by decide +kernel
theorem dX5_cowAt_15 : decode cX5_cowAt 15 = .ok (.aload_n 0, 1) := by decide +kernel
theorem dX5_cowAt_16 : decode cX5_cowAt 16 = .ok (.getfield 11, 3) := by decide +kernel
theorem dX5_cowAt_19 : decode cX5_cowAt 19 = .ok (.arraylength, 1) := by decide +kernel
theorem dX5_cowAt_20 : decode cX5_cowAt 20 = .ok (.if_icmp .ge 12, 3) := by decide +kernel
theorem dX5_cowAt_23 : decode cX5_cowAt 23 = .ok (.aload_n 0, 1) := by decide +kernel
theorem dX5_cowAt_24 : decode cX5_cowAt 24 = .ok (.getfield 11, 3) := by decide +kernel
theorem dX5_cowAt_27 : decode cX5_cowAt 27 = .ok (.iload_n 1, 1) := by decide +kernel
theorem dX5_cowAt_28 : decode cX5_cowAt 28 = .ok (.aaload, 1) := by decide +kernel
theorem dX5_cowAt_29 : decode cX5_cowAt 29 = .ok (.goto 4, 3) := by decide +kernel
theorem dX5_cowAt_32 : decode cX5_cowAt 32 = .ok (.aconst_null, 1) := by decide +kernel
theorem dX5_cowAt_33 : decode cX5_cowAt 33 = .ok (.areturn, 1) := by decide +kernel
theorem dX5_visitAt_0 : decode cX5_visitAt 0 = .ok (.iload_n 1, 1) := by decide +kernel
theorem dX5_visitAt_1 : decode cX5_visitAt 1 = .ok (.iconst 0, 1) := by decide +kernel
theorem dX5_visitAt_2 : decode cX5_visitAt 2 = .ok (.aload_n 0, 1) := by decide +kernel
theorem dX5_visitAt_3 : decode cX5_visitAt 3 = .ok (.getfield 129, 3) := by decide +kernel
theorem dX5_visitAt_6 : decode cX5_visitAt 6 = .ok (.iconst 1, 1) := by decide +kernel
theorem dX5_visitAt_7 : decode cX5_visitAt 7 = .ok (.isub, 1) := by decide +kernel
theorem dX5_visitAt_8 : decode cX5_visitAt 8 = .ok (.invokestatic 46, 3) := by decide +kernel
theorem dX5_visitAt_11 : decode cX5_visitAt 11 = .ok (.ifCond .eq 21, 3) := by decide +kernel
theorem dX5_visitAt_14 : decode cX5_visitAt 14 = .ok (.iload_n 1, 1) := by decide +kernel
theorem dX5_visitAt_15 : decode cX5_visitAt 15 = .ok (.aload_n 0, 1) := by decide +kernel
theorem dX5_visitAt_16 : decode cX5_visitAt 16 = .ok (.getfield 17, 3) := by decide +kernel
theorem dX5_visitAt_19 : decode cX5_visitAt 19 = .ok (.arraylength, 1) := by decide +kernel
theorem dX5_visitAt_20 : decode cX5_visitAt 20 = .ok (.if_icmp .ge 12, 3) := by decide +kernel
theorem dX5_visitAt_23 : decode cX5_visitAt 23 = .ok (.aload_n 0, 1) := by decide +kernel
theorem dX5_visitAt_24 : decode cX5_visitAt 24 = .ok (.getfield 17, 3) := by decide +kernel
theorem dX5_visitAt_27 : decode cX5_visitAt 27 = .ok (.iload_n 1, 1) := by decide +kernel
theorem dX5_visitAt_28 : decode cX5_visitAt 28 = .ok (.aaload, 1) := by decide +kernel
theorem dX5_visitAt_29 : decode cX5_visitAt 29 = .ok (.goto 4, 3) := by decide +kernel
theorem dX5_visitAt_32 : decode cX5_visitAt 32 = .ok (.aconst_null, 1) := by decide +kernel
theorem dX5_visitAt_33 : decode cX5_visitAt 33 = .ok (.areturn, 1) := by decide +kernel
theorem dX5_fillBox_0 : decode cX5_fillBox 0 = .ok (.aload_n 0, 1) := by decide +kernel
theorem dX5_fillBox_1 : decode cX5_fillBox 1 = .ok (.getfield 42, 3) := by decide +kernel
theorem dX5_fillBox_4 : decode cX5_fillBox 4 = .ok (.ifCond .eq 13, 3) := by decide +kernel
theorem dX5_fillBox_7 : decode cX5_fillBox 7 = .ok (.aload_n 0, 1) := by decide +kernel
theorem dX5_fillBox_8 : decode cX5_fillBox 8 = .ok (.getfield 31, 3) := by decide +kernel
theorem dX5_fillBox_11 : decode cX5_fillBox 11 = .ok (.invokevirtual 112, 3) := by decide +kernel
theorem dX5_fillBox_14 : decode cX5_fillBox 14 = .ok (.ifCond .eq 4, 3) := by decide +kernel
theorem dX5_fillBox_17 : decode cX5_fillBox 17 = .ok (.return_, 1) := by decide +kernel
theorem dX5_fillBox_18 : decode cX5_fillBox 18 = .ok (.aload_n 0, 1) := by decide +kernel
theorem dX5_fillBox_19 : decode cX5_fillBox 19 = .ok (.getfield 24, 3) := by decide +kernel
theorem dX5_fillBox_22 : decode cX5_fillBox 22 = .ok (.aload_n 0, 1) := by decide +kernel
theorem dX5_fillBox_23 : decode cX5_fillBox 23 = .ok (.getfield 54, 3) := by decide +kernel
theorem dX5_fillBox_26 : decode cX5_fillBox 26 = .ok (.invokevirtual 218, 3) := by decide +kernel
theorem dX5_fillBox_29 : decode cX5_fillBox 29 = .ok (.astore_n 1, 1) := by decide +kernel
theorem dX5_fillBox_30 : decode cX5_fillBox 30 = .ok (.aload_n 1, 1) := by decide +kernel
theorem dX5_fillBox_31 : decode cX5_fillBox 31 = .ok (.ifnonnull 4, 3) := by decide +kernel
theorem dX5_fillBox_34 : decode cX5_fillBox 34 = .ok (.return_, 1) := by decide +kernel
theorem dX5_fillBox_35 : decode cX5_fillBox 35 = .ok (.aload_n 0, 1) := by decide +kernel
theorem dX5_fillBox_36 : decode cX5_fillBox 36 = .ok (.aload_n 1, 1) := by decide +kernel
theorem dX5_fillBox_37 : decode cX5_fillBox 37 = .ok (.getfield 159, 3) := by decide +kernel
theorem dX5_fillBox_40 : decode cX5_fillBox 40 = .ok (.invokevirtual 60, 3) := by decide +kernel
theorem dX5_fillBox_43 : decode cX5_fillBox 43 = .ok (.astore_n 2, 1) := by decide +kernel
theorem dX5_fillBox_44 : decode cX5_fillBox 44 = .ok (.aload_n 2, 1) := by decide +kernel
theorem dX5_fillBox_45 : decode cX5_fillBox 45 = .ok (.ifnonnull 4, 3) := by decide +kernel
theorem dX5_fillBox_48 : decode cX5_fillBox 48 = .ok (.return_, 1) := by decide +kernel
theorem dX5_fillBox_49 : decode cX5_fillBox 49 = .ok (.aload_n 0, 1) := by decide +kernel
theorem dX5_fillBox_50 : decode cX5_fillBox 50 = .ok (.aload_n 0, 1) := by decide +kernel
theorem dX5_fillBox_51 : decode cX5_fillBox 51 = .ok (.getfield 208, 3) := by decide +kernel
theorem dX5_fillBox_54 : decode cX5_fillBox 54 = .ok (.aload_n 0, 1) := by decide +kernel
theorem dX5_fillBox_55 : decode cX5_fillBox 55 = .ok (.getfield 54, 3) := by decide +kernel
theorem dX5_fillBox_58 : decode cX5_fillBox 58 = .ok (.aload_n 1, 1) := by decide +kernel
theorem dX5_fillBox_59 : decode cX5_fillBox 59 = .ok (.getfield 221, 3) := by decide +kernel
theorem dX5_fillBox_62 : decode cX5_fillBox 62 = .ok (.isub, 1) := by decide +kernel
theorem dX5_fillBox_63 : decode cX5_fillBox 63 = .ok (.invokestatic 224, 3) := by decide +kernel
theorem dX5_fillBox_66 : decode cX5_fillBox 66 = .ok (.putfield 208, 3) := by decide +kernel
theorem dX5_fillBox_69 : decode cX5_fillBox 69 = .ok (.aload_n 0, 1) := by decide +kernel
theorem dX5_fillBox_70 : decode cX5_fillBox 70 = .ok (.getfield 31, 3) := by decide +kernel
theorem dX5_fillBox_73 : decode cX5_fillBox 73 = .ok (.aload_n 1, 1) := by decide +kernel
theorem dX5_fillBox_74 : decode cX5_fillBox 74 = .ok (.aload_n 2, 1) := by decide +kernel
theorem dX5_fillBox_75 : decode cX5_fillBox 75 = .ok (.aload_n 0, 1) := by decide +kernel
theorem dX5_fillBox_76 : decode cX5_fillBox 76 = .ok (.getfield 54, 3) := by decide +kernel
theorem dX5_fillBox_79 : decode cX5_fillBox 79 = .ok (.invokevirtual 229, 3) := by decide +kernel
theorem dX5_fillBox_82 : decode cX5_fillBox 82 = .ok (.aload_n 2, 1) := by decide +kernel
theorem dX5_fillBox_83 : decode cX5_fillBox 83 = .ok (.aload_n 0, 1) := by decide +kernel
theorem dX5_fillBox_84 : decode cX5_fillBox 84 = .ok (.getfield 54, 3) := by decide +kernel
theorem dX5_fillBox_87 : decode cX5_fillBox 87 = .ok (.invokevirtual 233, 3) := by decide +kernel
theorem dX5_fillBox_90 : decode cX5_fillBox 90 = .ok (.return_, 1) := by decide +kernel
theorem dX5_finishMilking_0 : decode cX5_finishMilking 0 = .ok (.aload_n 0, 1) := by decide +kernel
theorem dX5_finishMilking_1 : decode cX5_finishMilking 1 = .ok (.getfield 31, 3) := by decide +kernel
theorem dX5_finishMilking_4 : decode cX5_finishMilking 4 = .ok (.getfield 155, 3) := by decide +kernel
theorem dX5_finishMilking_7 : decode cX5_finishMilking 7 = .ok (.astore_n 2, 1) := by decide +kernel
theorem dX5_finishMilking_8 : decode cX5_finishMilking 8 = .ok (.aload_n 2, 1) := by decide +kernel
theorem dX5_finishMilking_9 : decode cX5_finishMilking 9 = .ok (.ifnonnull 4, 3) := by decide +kernel
theorem dX5_finishMilking_12 : decode cX5_finishMilking 12 = .ok (.return_, 1) := by decide +kernel
theorem dX5_finishMilking_13 : decode cX5_finishMilking 13 = .ok (.aload_n 0, 1) := by decide +kernel
theorem dX5_finishMilking_14 : decode cX5_finishMilking 14 = .ok (.aload_n 2, 1) := by decide +kernel
theorem dX5_finishMilking_15 : decode cX5_finishMilking 15 = .ok (.getfield 159, 3) := by decide +kernel
theorem dX5_finishMilking_18 : decode cX5_finishMilking 18 = .ok (.invokevirtual 60, 3) := by decide +kernel
theorem dX5_finishMilking_21 : decode cX5_finishMilking 21 = .ok (.astore_n 3, 1) := by decide +kernel
theorem dX5_finishMilking_22 : decode cX5_finishMilking 22 = .ok (.aload_n 3, 1) := by decide +kernel
theorem dX5_finishMilking_23 : decode cX5_finishMilking 23 = .ok (.ifnonnull 4, 3) := by decide +kernel
theorem dX5_finishMilking_26 : decode cX5_finishMilking 26 = .ok (.return_, 1) := by decide +kernel
theorem dX5_finishMilking_27 : decode cX5_finishMilking 27 = .ok (.iload_n 1, 1) := by decide +kernel
theorem dX5_finishMilking_28 : decode cX5_finishMilking 28 = .ok (.iconst 2, 1) := by decide +kernel
theorem dX5_finishMilking_29 : decode cX5_finishMilking 29 = .ok (.if_icmp .ne 17, 3) := by decide +kernel
theorem dX5_finishMilking_32 : decode cX5_finishMilking 32 = .ok (.aload_n 0, 1) := by decide +kernel
theorem dX5_finishMilking_33 : decode cX5_finishMilking 33 = .ok (.getfield 31, 3) := by decide +kernel
theorem dX5_finishMilking_36 : decode cX5_finishMilking 36 = .ok (.aload_n 0, 1) := by decide +kernel
theorem dX5_finishMilking_37 : decode cX5_finishMilking 37 = .ok (.getfield 54, 3) := by decide +kernel
theorem dX5_finishMilking_40 : decode cX5_finishMilking 40 = .ok (.invokevirtual 236, 3) := by decide +kernel
theorem dX5_finishMilking_43 : decode cX5_finishMilking 43 = .ok (.goto 10, 3) := by decide +kernel
theorem dX5_finishMilking_46 : decode cX5_finishMilking 46 = .ok (.aload_n 0, 1) := by decide +kernel
theorem dX5_finishMilking_47 : decode cX5_finishMilking 47 = .ok (.getfield 31, 3) := by decide +kernel
theorem dX5_finishMilking_50 : decode cX5_finishMilking 50 = .ok (.getfield 239, 3) := by decide +kernel
theorem dX5_finishMilking_53 : decode cX5_finishMilking 53 = .ok (.istore 4, 2) := by decide +kernel
theorem dX5_finishMilking_55 : decode cX5_finishMilking 55 = .ok (.aload_n 2, 1) := by decide +kernel
theorem dX5_finishMilking_56 : decode cX5_finishMilking 56 = .ok (.iload_n 1, 1) := by decide +kernel
theorem dX5_finishMilking_57 : decode cX5_finishMilking 57 = .ok (.putfield 151, 3) := by decide +kernel
theorem dX5_finishMilking_60 : decode cX5_finishMilking 60 = .ok (.aload_n 2, 1) := by decide +kernel
theorem dX5_finishMilking_61 : decode cX5_finishMilking 61 = .ok (.aload_n 0, 1) := by decide +kernel
theorem dX5_finishMilking_62 : decode cX5_finishMilking 62 = .ok (.getfield 54, 3) := by decide +kernel
theorem dX5_finishMilking_65 : decode cX5_finishMilking 65 = .ok (.putfield 242, 3) := by decide +kernel
theorem dX5_finishMilking_68 : decode cX5_finishMilking 68 = .ok (.aload_n 2, 1) := by decide +kernel
theorem dX5_finishMilking_69 : decode cX5_finishMilking 69 = .ok (.iload 4, 2) := by decide +kernel
theorem dX5_finishMilking_71 : decode cX5_finishMilking 71 = .ok (.putfield 205, 3) := by decide +kernel
theorem dX5_finishMilking_74 : decode cX5_finishMilking 74 = .ok (.aload_n 2, 1) := by decide +kernel
theorem dX5_finishMilking_75 : decode cX5_finishMilking 75 = .ok (.aload_n 0, 1) := by decide +kernel
theorem dX5_finishMilking_76 : decode cX5_finishMilking 76 = .ok (.getfield 38, 3) := by decide +kernel
theorem dX5_finishMilking_79 : decode cX5_finishMilking 79 = .ok (.iload 4, 2) := by decide +kernel
theorem dX5_finishMilking_81 : decode cX5_finishMilking 81 = .ok (.aload_n 3, 1) := by decide +kernel
theorem dX5_finishMilking_82 : decode cX5_finishMilking 82 = .ok (.aload_n 0, 1) := by decide +kernel
theorem dX5_finishMilking_83 : decode cX5_finishMilking 83 = .ok (.getfield 54, 3) := by decide +kernel
theorem dX5_finishMilking_86 : decode cX5_finishMilking 86 = .ok (.invokevirtual 245, 3) := by decide +kernel
theorem dX5_finishMilking_89 : decode cX5_finishMilking 89 = .ok (.invokevirtual 248, 3) := by decide +kernel
theorem dX5_finishMilking_92 : decode cX5_finishMilking 92 = .ok (.putfield 252, 3) := by decide +kernel
theorem dX5_finishMilking_95 : decode cX5_finishMilking 95 = .ok (.aload_n 2, 1) := by decide +kernel
theorem dX5_finishMilking_96 : decode cX5_finishMilking 96 = .ok (.aload_n 3, 1) := by decide +kernel
theorem dX5_finishMilking_97 : decode cX5_finishMilking 97 = .ok (.iload 4, 2) := by decide +kernel
theorem dX5_finishMilking_99 : decode cX5_finishMilking 99 = .ok (.aload_n 0, 1) := by decide +kernel
theorem dX5_finishMilking_100 : decode cX5_finishMilking 100 = .ok (.getfield 54, 3) := by decide +kernel
theorem dX5_finishMilking_103 : decode cX5_finishMilking 103 = .ok (.sipush 1440, 3) := by decide +kernel
theorem dX5_finishMilking_106 : decode cX5_finishMilking 106 = .ok (.idiv, 1) := by decide +kernel
theorem dX5_finishMilking_107 : decode cX5_finishMilking 107 = .ok (.invokevirtual 255, 3) := by decide +kernel
theorem dX5_finishMilking_110 : decode cX5_finishMilking 110 = .ok (.putfield 258, 3) := by decide +kernel
theorem dX5_finishMilking_113 : decode cX5_finishMilking 113 = .ok (.aload_n 3, 1) := by decide +kernel
theorem dX5_finishMilking_114 : decode cX5_finishMilking 114 = .ok (.aload_n 0, 1) := by decide +kernel
theorem dX5_finishMilking_115 : decode cX5_finishMilking 115 = .ok (.getfield 31, 3) := by decide +kernel
theorem dX5_finishMilking_118 : decode cX5_finishMilking 118 = .ok (.getfield 261, 3) := by decide +kernel
theorem dX5_finishMilking_121 : decode cX5_finishMilking 121 = .ok (.iload 4, 2) := by decide +kernel
theorem dX5_finishMilking_123 : decode cX5_finishMilking 123 = .ok (.isub, 1) := by decide +kernel
theorem dX5_finishMilking_124 : decode cX5_finishMilking 124 = .ok (.putfield 264, 3) := by decide +kernel
theorem dX5_finishMilking_127 : decode cX5_finishMilking 127 = .ok (.aload_n 3, 1) := by decide +kernel
theorem dX5_finishMilking_128 : decode cX5_finishMilking 128 = .ok (.dup, 1) := by decide +kernel
theorem dX5_finishMilking_129 : decode cX5_finishMilking 129 = .ok (.getfield 105, 3) := by decide +kernel
theorem dX5_finishMilking_132 : decode cX5_finishMilking 132 = .ok (.iload 4, 2) := by decide +kernel
theorem dX5_finishMilking_134 : decode cX5_finishMilking 134 = .ok (.iadd, 1) := by decide +kernel
theorem dX5_finishMilking_135 : decode cX5_finishMilking 135 = .ok (.putfield 105, 3) := by decide +kernel
theorem dX5_finishMilking_138 : decode cX5_finishMilking 138 = .ok (.aload_n 0, 1) := by decide +kernel
theorem dX5_finishMilking_139 : decode cX5_finishMilking 139 = .ok (.dup, 1) := by decide +kernel
theorem dX5_finishMilking_140 : decode cX5_finishMilking 140 = .ok (.getfield 184, 3) := by decide +kernel
theorem dX5_finishMilking_143 : decode cX5_finishMilking 143 = .ok (.iload 4, 2) := by decide +kernel
theorem dX5_finishMilking_145 : decode cX5_finishMilking 145 = .ok (.iadd, 1) := by decide +kernel
theorem dX5_finishMilking_146 : decode cX5_finishMilking 146 = .ok (.putfield 184, 3) := by decide +kernel
theorem dX5_finishMilking_149 : decode cX5_finishMilking 149 = .ok (.aload_n 0, 1) := by decide +kernel
theorem dX5_finishMilking_150 : decode cX5_finishMilking 150 = .ok (.dup, 1) := by decide +kernel
theorem dX5_finishMilking_151 : decode cX5_finishMilking 151 = .ok (.getfield 187, 3) := by decide +kernel
theorem dX5_finishMilking_154 : decode cX5_finishMilking 154 = .ok (.aload_n 2, 1) := by decide +kernel
theorem dX5_finishMilking_155 : decode cX5_finishMilking 155 = .ok (.getfield 258, 3) := by decide +kernel
theorem dX5_finishMilking_158 : decode cX5_finishMilking 158 = .ok (.iadd, 1) := by decide +kernel
theorem dX5_finishMilking_159 : decode cX5_finishMilking 159 = .ok (.putfield 187, 3) := by decide +kernel
theorem dX5_finishMilking_162 : decode cX5_finishMilking 162 = .ok (.aload_n 0, 1) := by decide +kernel
theorem dX5_finishMilking_163 : decode cX5_finishMilking 163 = .ok (.getfield 31, 3) := by decide +kernel
theorem dX5_finishMilking_166 : decode cX5_finishMilking 166 = .ok (.aconst_null, 1) := by decide +kernel
theorem dX5_finishMilking_167 : decode cX5_finishMilking 167 = .ok (.putfield 155, 3) := by decide +kernel
theorem dX5_finishMilking_170 : decode cX5_finishMilking 170 = .ok (.return_, 1) := by decide +kernel
theorem dX5_countAhead_0 : decode cX5_countAhead 0 = .ok (.aload_n 0, 1) := by decide +kernel
theorem dX5_countAhead_1 : decode cX5_countAhead 1 = .ok (.iload_n 1, 1) := by decide +kernel
theorem dX5_countAhead_2 : decode cX5_countAhead 2 = .ok (.invokevirtual 60, 3) := by decide +kernel
theorem dX5_countAhead_5 : decode cX5_countAhead 5 = .ok (.astore_n 2, 1) := by decide +kernel
theorem dX5_countAhead_6 : decode cX5_countAhead 6 = .ok (.aload_n 2, 1) := by decide +kernel
theorem dX5_countAhead_7 : decode cX5_countAhead 7 = .ok (.ifnonnull 6, 3) := by decide +kernel
theorem dX5_countAhead_10 : decode cX5_countAhead 10 = .ok (.bipush (-9), 2) := by decide +kernel
theorem dX5_countAhead_12 : decode cX5_countAhead 12 = .ok (.ireturn, 1) := by decide +kernel
theorem dX5_countAhead_13 : decode cX5_countAhead 13 = .ok (.iconst 0, 1) := by decide +kernel
theorem dX5_countAhead_14 : decode cX5_countAhead 14 = .ok (.istore_n 3, 1) := by decide +kernel
theorem dX5_countAhead_15 : decode cX5_countAhead 15 = .ok (.iconst 0, 1) := by decide +kernel
theorem dX5_countAhead_16 : decode cX5_countAhead 16 = .ok (.istore 4, 2) := by decide +kernel
theorem dX5_countAhead_18 : decode cX5_countAhead 18 = .ok (.iload 4, 2) := by decide +kernel
theorem dX5_countAhead_20 : decode cX5_countAhead 20 = .ok (.aload_n 0, 1) := by decide +kernel
theorem dX5_countAhead_21 : decode cX5_countAhead 21 = .ok (.getfield 50, 3) := by decide +kernel
theorem dX5_countAhead_24 : decode cX5_countAhead 24 = .ok (.if_icmp .ge 56, 3) := by decide +kernel
theorem dX5_countAhead_27 : decode cX5_countAhead 27 = .ok (.aload_n 0, 1) := by decide +kernel
theorem dX5_countAhead_28 : decode cX5_countAhead 28 = .ok (.iload 4, 2) := by decide +kernel
theorem dX5_countAhead_30 : decode cX5_countAhead 30 = .ok (.invokevirtual 60, 3) := by decide +kernel
theorem dX5_countAhead_33 : decode cX5_countAhead 33 = .ok (.astore 5, 2) := by decide +kernel
theorem dX5_countAhead_35 : decode cX5_countAhead 35 = .ok (.iload 4, 2) := by decide +kernel
theorem dX5_countAhead_37 : decode cX5_countAhead 37 = .ok (.iload_n 1, 1) := by decide +kernel
theorem dX5_countAhead_38 : decode cX5_countAhead 38 = .ok (.if_icmp .ge 10, 3) := by decide +kernel
theorem dX5_countAhead_41 : decode cX5_countAhead 41 = .ok (.aload_n 2, 1) := by decide +kernel
theorem dX5_countAhead_42 : decode cX5_countAhead 42 = .ok (.getfield 105, 3) := by decide +kernel
theorem dX5_countAhead_45 : decode cX5_countAhead 45 = .ok (.goto 9, 3) := by decide +kernel
theorem dX5_countAhead_48 : decode cX5_countAhead 48 = .ok (.aload_n 2, 1) := by decide +kernel
theorem dX5_countAhead_49 : decode cX5_countAhead 49 = .ok (.getfield 105, 3) := by decide +kernel
theorem dX5_countAhead_52 : decode cX5_countAhead 52 = .ok (.iconst 1, 1) := by decide +kernel
theorem dX5_countAhead_53 : decode cX5_countAhead 53 = .ok (.iadd, 1) := by decide +kernel
theorem dX5_countAhead_54 : decode cX5_countAhead 54 = .ok (.istore 6, 2) := by decide +kernel
theorem dX5_countAhead_56 : decode cX5_countAhead 56 = .ok (.aload 5, 2) := by decide +kernel
theorem dX5_countAhead_58 : decode cX5_countAhead 58 = .ok (.ifnull 16, 3) := by decide +kernel
theorem dX5_countAhead_61 : decode cX5_countAhead 61 = .ok (.aload 5, 2) := by decide +kernel
theorem dX5_countAhead_63 : decode cX5_countAhead 63 = .ok (.getfield 105, 3) := by decide +kernel
theorem dX5_countAhead_66 : decode cX5_countAhead 66 = .ok (.iload 6, 2) := by decide +kernel
theorem dX5_countAhead_68 : decode cX5_countAhead 68 = .ok (.if_icmp .lt 6, 3) := by decide +kernel
theorem dX5_countAhead_71 : decode cX5_countAhead 71 = .ok (.iinc 3 1, 3) := by decide +kernel
theorem dX5_countAhead_74 : decode cX5_countAhead 74 = .ok (.iinc 4 1, 3) := by decide +kernel
theorem dX5_countAhead_77 : decode cX5_countAhead 77 = .ok (.goto (-59), 3) := by decide +kernel
theorem dX5_countAhead_80 : decode cX5_countAhead 80 = .ok (.iload_n 3, 1) := by decide +kernel
theorem dX5_countAhead_81 : decode cX5_countAhead 81 = .ok (.ireturn, 1) := by decide +kernel
theorem dJ9_max_7cf53_0 : decode cJ9_max_7cf53 0 = .ok (.iload_n 0, 1) := by decide +kernel
theorem dJ9_max_7cf53_1 : decode cJ9_max_7cf53 1 = .ok (.iload_n 1, 1) := by decide +kernel
theorem dJ9_max_7cf53_2 : decode cJ9_max_7cf53 2 = .ok (.if_icmp .lt 7, 3) := by decide +kernel
theorem dJ9_max_7cf53_5 : decode cJ9_max_7cf53 5 = .ok (.iload_n 0, 1) := by decide +kernel
theorem dJ9_max_7cf53_6 : decode cJ9_max_7cf53 6 = .ok (.goto 4, 3) := by decide +kernel
theorem dJ9_max_7cf53_9 : decode cJ9_max_7cf53 9 = .ok (.iload_n 1, 1) := by decide +kernel
theorem dJ9_max_7cf53_10 : decode cJ9_max_7cf53 10 = .ok (.ireturn, 1) := by decide +kernel
theorem dJ9_min_7cf53_0 : decode cJ9_min_7cf53 0 = .ok (.iload_n 0, 1) := by decide +kernel
theorem dJ9_min_7cf53_1 : decode cJ9_min_7cf53 1 = .ok (.iload_n 1, 1) := by decide +kernel
theorem dJ9_min_7cf53_2 : decode cJ9_min_7cf53 2 = .ok (.if_icmp .gt 7, 3) := by decide +kernel
theorem dJ9_min_7cf53_5 : decode cJ9_min_7cf53 5 = .ok (.iload_n 0, 1) := by decide +kernel
theorem dJ9_min_7cf53_6 : decode cJ9_min_7cf53 6 = .ok (.goto 4, 3) := by decide +kernel
theorem dJ9_min_7cf53_9 : decode cJ9_min_7cf53 9 = .ok (.iload_n 1, 1) := by decide +kernel
theorem dJ9_min_7cf53_10 : decode cJ9_min_7cf53 10 = .ok (.ireturn, 1) := by decide +kernel
end
section
theorem dX6_init_0 : decode cX6_init 0 = .ok (.aload_n 0, 1) := by decide +kernel
theorem dX6_init_1 : decode cX6_init 1 = .ok (.invokespecial 1, 3) := by decide +kernel
theorem dX6_init_4 : decode cX6_init 4 = .ok (.aload_n 0, 1) := by decide +kernel
theorem dX6_init_5 : decode cX6_init 5 = .ok (.iconst 1, 1) := by decide +kernel
theorem dX6_init_6 : decode cX6_init 6 = .ok (.putfield 7, 3) := by decide +kernel
theorem dX6_init_9 : decode cX6_init 9 = .ok (.aload_n 0, 1) := by decide +kernel
theorem dX6_init_10 : decode cX6_init 10 = .ok (.bipush 12, 2) := by decide +kernel
theorem dX6_init_12 : decode cX6_init 12 = .ok (.newarray .int, 2) := by decide +kernel
theorem dX6_init_14 : decode cX6_init 14 = .ok (.putfield 13, 3) := by decide +kernel
theorem dX6_init_17 : decode cX6_init 17 = .ok (.aload_n 0, 1) := by decide +kernel
theorem dX6_init_18 : decode cX6_init 18 = .ok (.bipush 12, 2) := by decide +kernel
theorem dX6_init_20 : decode cX6_init 20 = .ok (.newarray .int, 2) := by decide +kernel
theorem dX6_init_22 : decode cX6_init 22 = .ok (.putfield 17, 3) := by decide +kernel
theorem dX6_init_25 : decode cX6_init 25 = .ok (.aload_n 0, 1) := by decide +kernel
theorem dX6_init_26 : decode cX6_init 26 = .ok (.bipush 12, 2) := by decide +kernel
theorem dX6_init_28 : decode cX6_init 28 = .ok (.newarray .int, 2) := by decide +kernel
theorem dX6_init_30 : decode cX6_init 30 = .ok (.putfield 20, 3) := by decide +kernel
theorem dX6_init_33 : decode cX6_init 33 = .ok (.aload_n 0, 1) := by decide +kernel
theorem dX6_init_34 : decode cX6_init 34 = .ok (.bipush 12, 2) := by decide +kernel
theorem dX6_init_36 : decode cX6_init 36 = .ok (.newarray .int, 2) := by decide +kernel
theorem dX6_init_38 : decode cX6_init 38 = .ok (.putfield 23, 3) := by decide +kernel
theorem dX6_init_41 : decode cX6_init 41 = .ok (.aload_n 0, 1) := by decide +kernel
theorem dX6_init_42 : decode cX6_init 42 = .ok (.bipush 12, 2) := by decide +kernel
theorem dX6_init_44 : decode cX6_init 44 = .ok (.newarray .int, 2) := by decide +kernel
theorem dX6_init_46 : decode cX6_init 46 = .ok (.putfield 26, 3) := by decide +kernel
theorem dX6_init_49 : decode cX6_init 49 = .ok (.aload_n 0, 1) := by decide +kernel
theorem dX6_init_50 : decode cX6_init 50 = .ok (.bipush 12, 2) := by decide +kernel
theorem dX6_init_52 : decode cX6_init 52 = .ok (.newarray .int, 2) := by decide +kernel
theorem dX6_init_54 : decode cX6_init 54 = .ok (.putfield 29, 3) := by decide +kernel
theorem dX6_init_57 : decode cX6_init 57 = .ok (.aload_n 0, 1) := by decide +kernel
theorem dX6_init_58 : decode cX6_init 58 = .ok (.bipush 12, 2) := by decide +kernel
theorem dX6_init_60 : decode cX6_init 60 = .ok (.newarray .int, 2) := by decide +kernel
theorem dX6_init_62 : decode cX6_init 62 = .ok (.putfield 32, 3) := by decide +kernel
theorem dX6_init_65 : decode cX6_init 65 = .ok (.aload_n 0, 1) := by decide +kernel
theorem dX6_init_66 : decode cX6_init 66 = .ok (.bipush 12, 2) := by decide +kernel
theorem dX6_init_68 : decode cX6_init 68 = .ok (.newarray .int, 2) := by decide +kernel
theorem dX6_init_70 : decode cX6_init 70 = .ok (.putfield 35, 3) := by decide +kernel
theorem dX6_init_73 : decode cX6_init 73 = .ok (.aload_n 0, 1) := by decide +kernel
theorem dX6_init_74 : decode cX6_init 74 = .ok (.bipush 48, 2) := by decide +kernel
theorem dX6_init_76 : decode cX6_init 76 = .ok (.newarray .int, 2) := by decide +kernel
theorem dX6_init_78 : decode cX6_init 78 = .ok (.putfield 38, 3) := by decide +kernel
theorem dX6_init_81 : decode cX6_init 81 = .ok (.aload_n 0, 1) := by decide +kernel
theorem dX6_init_82 : decode cX6_init 82 = .ok (.bipush 12, 2) := by decide +kernel
theorem dX6_init_84 : decode cX6_init 84 = .ok (.newarray .int, 2) := by decide +kernel
theorem dX6_init_86 : decode cX6_init 86 = .ok (.putfield 41, 3) := by decide +kernel
theorem dX6_init_89 : decode cX6_init 89 = .ok (.aload_n 0, 1) := by decide +kernel
theorem dX6_init_90 : decode cX6_init 90 = .ok (.bipush 12, 2) := by decide +kernel
theorem dX6_init_92 : decode cX6_init 92 = .ok (.newarray .int, 2) := by decide +kernel
theorem dX6_init_94 : decode cX6_init 94 = .ok (.putfield 44, 3) := by decide +kernel
theorem dX6_init_97 : decode cX6_init 97 = .ok (.aload_n 0, 1) := by decide +kernel
theorem dX6_init_98 : decode cX6_init 98 = .ok (.bipush 12, 2) := by decide +kernel
theorem dX6_init_100 : decode cX6_init 100 = .ok (.newarray .int, 2) := by decide +kernel
theorem dX6_init_102 : decode cX6_init 102 = .ok (.putfield 47, 3) := by decide +kernel
theorem dX6_init_105 : decode cX6_init 105 = .ok (.aload_n 0, 1) := by decide +kernel
theorem dX6_init_106 : decode cX6_init 106 = .ok (.bipush 12, 2) := by decide +kernel
theorem dX6_init_108 : decode cX6_init 108 = .ok (.newarray .int, 2) := by decide +kernel
theorem dX6_init_110 : decode cX6_init 110 = .ok (.putfield 50, 3) := by decide +kernel
theorem dX6_init_113 : decode cX6_init 113 = .ok (.aload_n 0, 1) := by decide +kernel
theorem dX6_init_114 : decode cX6_init 114 = .ok (.sipush 500, 3) := by decide +kernel
theorem dX6_init_117 : decode cX6_init 117 = .ok (.newarray .int, 2) := by decide +kernel
theorem dX6_init_119 : decode cX6_init 119 = .ok (.putfield 53, 3) := by decide +kernel
theorem dX6_init_122 : decode cX6_init 122 = .ok (.aload_n 0, 1) := by decide +kernel
theorem dX6_init_123 : decode cX6_init 123 = .ok (.sipush 500, 3) := by decide +kernel
theorem dX6_init_126 : decode cX6_init 126 = .ok (.newarray .int, 2) := by decide +kernel
theorem dX6_init_128 : decode cX6_init 128 = .ok (.putfield 56, 3) := by decide +kernel
theorem dX6_init_131 : decode cX6_init 131 = .ok (.aload_n 0, 1) := by decide +kernel
theorem dX6_init_132 : decode cX6_init 132 = .ok (.sipush 500, 3) := by decide +kernel
theorem dX6_init_135 : decode cX6_init 135 = .ok (.newarray .int, 2) := by decide +kernel
theorem dX6_init_137 : decode cX6_init 137 = .ok (.putfield 59, 3) := by decide +kernel
theorem dX6_init_140 : decode cX6_init 140 = .ok (.aload_n 0, 1) := by decide +kernel
theorem dX6_init_141 : decode cX6_init 141 = .ok (.sipush 500, 3) := by decide +kernel
theorem dX6_init_144 : decode cX6_init 144 = .ok (.newarray .int, 2) := by decide +kernel
theorem dX6_init_146 : decode cX6_init 146 = .ok (.putfield 62, 3) := by decide +kernel
theorem dX6_init_149 : decode cX6_init 149 = .ok (.aload_n 0, 1) := by decide +kernel
theorem dX6_init_150 : decode cX6_init 150 = .ok (.sipush 500, 3) := by decide +kernel
theorem dX6_init_153 : decode cX6_init 153 = .ok (.newarray .boolean, 2) := by decide +kernel
theorem dX6_init_155 : decode cX6_init 155 = .ok (.putfield 65, 3) := by decide +kernel
theorem dX6_init_158 : decode cX6_init 158 = .ok (.aload_n 0, 1) := by decide +kernel
theorem dX6_init_159 : decode cX6_init 159 = .ok (.sipush 500, 3) := by decide +kernel
theorem dX6_init_162 : decode cX6_init 162 = .ok (.newarray .int, 2) := by decide +kernel
theorem dX6_init_164 : decode cX6_init 164 = .ok (.putfield 69, 3) := by decide +kernel
theorem dX6_init_167 : decode cX6_init 167 = .ok (.aload_n 0, 1) := by decide +kernel
theorem dX6_init_168 : decode cX6_init 168 = .ok (.sipush 500, 3) := by decide +kernel
theorem dX6_init_171 : decode cX6_init 171 = .ok (.newarray .int, 2) := by decide +kernel
theorem dX6_init_173 : decode cX6_init 173 = .ok (.putfield 72, 3) := by decide +kernel
theorem dX6_init_176 : decode cX6_init 176 = .ok (.aload_n 0, 1) := by decide +kernel
theorem dX6_init_177 : decode cX6_init 177 = .ok (.sipush 500, 3) := by decide +kernel
theorem dX6_init_180 : decode cX6_init 180 = .ok (.newarray .int, 2) := by decide +kernel
theorem dX6_init_182 : decode cX6_init 182 = .ok (.putfield 75, 3) := by decide +kernel
theorem dX6_init_185 : decode cX6_init 185 = .ok (.aload_n 0, 1) := by decide +kernel
theorem dX6_init_186 : decode cX6_init 186 = .ok (.sipush 500, 3) := by decide +kernel
theorem dX6_init_189 : decode cX6_init 189 = .ok (.newarray .int, 2) := by decide +kernel
theorem dX6_init_191 : decode cX6_init 191 = .ok (.putfield 78, 3) := by decide +kernel
theorem dX6_init_194 : decode cX6_init 194 = .ok (.aload_n 0, 1) := by decide +kernel
theorem dX6_init_195 : decode cX6_init 195 = .ok (.sipush 500, 3) := by decide +kernel
theorem dX6_init_198 : decode cX6_init 198 = .ok (.newarray .int, 2) := by decide +kernel
theorem dX6_init_200 : decode cX6_init 200 = .ok (.putfield 81, 3) := by decide +kernel
theorem dX6_init_203 : decode cX6_init 203 = .ok (.aload_n 0, 1) := by decide +kernel
theorem dX6_init_204 : decode cX6_init 204 = .ok (.sipush 500, 3) := by decide +kernel
theorem dX6_init_207 : decode cX6_init 207 = .ok (.newarray .int, 2) := by decide +kernel
theorem dX6_init_209 : decode cX6_init 209 = .ok (.putfield 84, 3) := by decide +kernel
theorem dX6_init_212 : decode cX6_init 212 = .ok (.aload_n 0, 1) := by decide +kernel
theorem dX6_init_213 : decode cX6_init 213 = .ok (.bipush 12, 2) := by decide +kernel
theorem dX6_init_215 : decode cX6_init 215 = .ok (.newarray .int, 2) := by decide +kernel
theorem dX6_init_217 : decode cX6_init 217 = .ok (.putfield 87, 3) := by decide +kernel
theorem dX6_init_220 : decode cX6_init 220 = .ok (.aload_n 0, 1) := by decide +kernel
theorem dX6_init_221 : decode cX6_init 221 = .ok (.bipush (-9), 2) := by decide +kernel
theorem dX6_init_223 : decode cX6_init 223 = .ok (.putfield 90, 3) := by decide +kernel
theorem dX6_init_226 : decode cX6_init 226 = .ok (.aload_n 0, 1) := by decide +kernel
theorem dX6_init_227 : decode cX6_init 227 = .ok (.sipush 5000, 3) := by decide +kernel
theorem dX6_init_230 : decode cX6_init 230 = .ok (.putfield 94, 3) := by decide +kernel
theorem dX6_init_233 : decode cX6_init 233 = .ok (.return_, 1) := by decide +kernel
theorem dX6_in_0 : decode cX6_in 0 = .ok (.lload_n 0, 1) := by decide +kernel
theorem dX6_in_1 : decode cX6_in 1 = .ok (.lload_n 2, 1) := by decide +kernel
theorem dX6_in_2 : decode cX6_in 2 = .ok (.lcmp, 1) := by decide +kernel
theorem dX6_in_3 : decode cX6_in 3 = .ok (.ifCond .lt 14, 3) := by decide +kernel
theorem dX6_in_6 : decode cX6_in 6 = .ok (.lload_n 0, 1) := by decide +kernel
theorem dX6_in_7 : decode cX6_in 7 = .ok (.lload 4, 2) := by decide +kernel
theorem dX6_in_9 : decode cX6_in 9 = .ok (.lcmp, 1) := by decide +kernel
theorem dX6_in_10 : decode cX6_in 10 = .ok (.ifCond .gt 7, 3) := by decide +kernel
theorem dX6_in_13 : decode cX6_in 13 = .ok (.iconst 1, 1) := by decide +kernel
theorem dX6_in_14 : decode cX6_in 14 = .ok (.goto 4, 3) := by decide +kernel
theorem dX6_in_17 : decode cX6_in 17 = .ok (.iconst 0, 1) := by decide +kernel
theorem dX6_in_18 : decode cX6_in 18 = .ok (.ireturn, 1) := by decide +kernel
theorem dX6_noCow_0 : decode cX6_noCow 0 = .ok (.iload_n 1, 1) := by decide +kernel
theorem dX6_noCow_1 : decode cX6_noCow 1 = .ok (.i2l, 1) := by decide +kernel
theorem dX6_noCow_2 : decode cX6_noCow 2 = .ok (.lconst 0, 1) := by decide +kernel
theorem dX6_noCow_3 : decode cX6_noCow 3 = .ok (.aload_n 0, 1) := by decide +kernel
theorem dX6_noCow_4 : decode cX6_noCow 4 = .ok (.getfield 100, 3) := by decide +kernel
theorem dX6_noCow_7 : decode cX6_noCow 7 = .ok (.iconst 1, 1) := by decide +kernel
theorem dX6_noCow_8 : decode cX6_noCow 8 = .ok (.isub, 1) := by decide +kernel
theorem dX6_noCow_9 : decode cX6_noCow 9 = .ok (.i2l, 1) := by decide +kernel
theorem dX6_noCow_10 : decode cX6_noCow 10 = .ok (.invokestatic 103, 3) := by decide +kernel
theorem dX6_noCow_13 : decode cX6_noCow 13 = .ok (.ifCond .ne 7, 3) := by decide +kernel
theorem dX6_noCow_16 : decode cX6_noCow 16 = .ok (.iconst 1, 1) := by decide +kernel
theorem dX6_noCow_17 : decode cX6_noCow 17 = .ok (.goto 4, 3) := by decide +kernel
theorem dX6_noCow_20 : decode cX6_noCow 20 = .ok (.iconst 0, 1) := by decide +kernel
theorem dX6_noCow_21 : decode cX6_noCow 21 = .ok (.ireturn, 1) := by decide +kernel
theorem dX6_cowInBox_0 : decode cX6_cowInBox 0 = .ok (.aload_n 0, 1) := by decide +kernel
theorem dX6_cowInBox_1 : decode cX6_cowInBox 1 = .ok (.getfield 90, 3) := by decide +kernel
theorem dX6_cowInBox_4 : decode cX6_cowInBox 4 = .ok (.bipush (-9), 2) := by decide +kernel
theorem dX6_cowInBox_6 : decode cX6_cowInBox 6 = .ok (.if_icmp .ne 8, 3) := by decide +kernel
theorem dX6_cowInBox_9 : decode cX6_cowInBox 9 = .ok (.bipush (-9), 2) := by decide +kernel
theorem dX6_cowInBox_11 : decode cX6_cowInBox 11 = .ok (.goto 12, 3) := by decide +kernel
theorem dX6_cowInBox_14 : decode cX6_cowInBox 14 = .ok (.aload_n 0, 1) := by decide +kernel
theorem dX6_cowInBox_15 : decode cX6_cowInBox 15 = .ok (.getfield 56, 3) := by decide +kernel
theorem dX6_cowInBox_18 : decode cX6_cowInBox 18 = .ok (.aload_n 0, 1) := by decide +kernel
theorem dX6_cowInBox_19 : decode cX6_cowInBox 19 = .ok (.getfield 90, 3) := by decide +kernel
theorem dX6_cowInBox_22 : decode cX6_cowInBox 22 = .ok (.iaload, 1) := by decide +kernel
theorem dX6_cowInBox_23 : decode cX6_cowInBox 23 = .ok (.ireturn, 1) := by decide +kernel
theorem dX6_has_0 : decode cX6_has 0 = .ok (.aload_n 0, 1) := by decide +kernel
theorem dX6_has_1 : decode cX6_has 1 = .ok (.getfield 29, 3) := by decide +kernel
theorem dX6_has_4 : decode cX6_has 4 = .ok (.iload_n 1, 1) := by decide +kernel
theorem dX6_has_5 : decode cX6_has 5 = .ok (.iaload, 1) := by decide +kernel
theorem dX6_has_6 : decode cX6_has 6 = .ok (.aload_n 0, 1) := by decide +kernel
theorem dX6_has_7 : decode cX6_has 7 = .ok (.getfield 17, 3) := by decide +kernel
theorem dX6_has_10 : decode cX6_has 10 = .ok (.iload_n 1, 1) := by decide +kernel
theorem dX6_has_11 : decode cX6_has 11 = .ok (.iaload, 1) := by decide +kernel
theorem dX6_has_12 : decode cX6_has 12 = .ok (.aload_n 0, 1) := by decide +kernel
theorem dX6_has_13 : decode cX6_has 13 = .ok (.getfield 107, 3) := by decide +kernel
theorem dX6_has_16 : decode cX6_has 16 = .ok (.aload_n 0, 1) := by decide +kernel
theorem dX6_has_17 : decode cX6_has 17 = .ok (.getfield 26, 3) := by decide +kernel
theorem dX6_has_20 : decode cX6_has 20 = .ok (.iload_n 1, 1) := by decide +kernel
theorem dX6_has_21 : decode cX6_has 21 = .ok (.iaload, 1) := by decide +kernel
theorem dX6_has_22 : decode cX6_has 22 = .ok (.isub, 1) := by decide +kernel
theorem dX6_has_23 : decode cX6_has 23 = .ok (.imul, 1) := by decide +kernel
theorem dX6_has_24 : decode cX6_has 24 = .ok (.bipush 60, 2) := by decide +kernel
theorem dX6_has_26 : decode cX6_has 26 = .ok (.idiv, 1) := by decide +kernel
theorem dX6_has_27 : decode cX6_has 27 = .ok (.iadd, 1) := by decide +kernel
theorem dX6_has_28 : decode cX6_has 28 = .ok (.istore_n 2, 1) := by decide +kernel
theorem dX6_has_29 : decode cX6_has 29 = .ok (.iload_n 2, 1) := by decide +kernel
theorem dX6_has_30 : decode cX6_has 30 = .ok (.sipush 400, 3) := by decide +kernel
theorem dX6_has_33 : decode cX6_has 33 = .ok (.if_icmp .le 9, 3) := by decide +kernel
theorem dX6_has_36 : decode cX6_has 36 = .ok (.sipush 400, 3) := by decide +kernel
theorem dX6_has_39 : decode cX6_has 39 = .ok (.goto 4, 3) := by decide +kernel
theorem dX6_has_42 : decode cX6_has 42 = .ok (.iload_n 2, 1) := by decide +kernel
theorem dX6_has_43 : decode cX6_has 43 = .ok (.ireturn, 1) := by decide +kernel
theorem dX6_hasRight_0 : decode cX6_hasRight 0 = .ok (.aload_n 0, 1) := by decide +kernel
theorem dX6_hasRight_1 : decode cX6_hasRight 1 = .ok (.getfield 32, 3) := by decide +kernel
theorem dX6_hasRight_4 : decode cX6_hasRight 4 = .ok (.iload_n 1, 1) := by decide +kernel
theorem dX6_hasRight_5 : decode cX6_hasRight 5 = .ok (.iaload, 1) := by decide +kernel
theorem dX6_hasRight_6 : decode cX6_hasRight 6 = .ok (.bipush (-9), 2) := by decide +kernel
theorem dX6_hasRight_8 : decode cX6_hasRight 8 = .ok (.if_icmp .eq 23, 3) := by decide +kernel
theorem dX6_hasRight_11 : decode cX6_hasRight 11 = .ok (.aload_n 0, 1) := by decide +kernel
theorem dX6_hasRight_12 : decode cX6_hasRight 12 = .ok (.getfield 107, 3) := by decide +kernel
theorem dX6_hasRight_15 : decode cX6_hasRight 15 = .ok (.aload_n 0, 1) := by decide +kernel
theorem dX6_hasRight_16 : decode cX6_hasRight 16 = .ok (.getfield 32, 3) := by decide +kernel
theorem dX6_hasRight_19 : decode cX6_hasRight 19 = .ok (.iload_n 1, 1) := by decide +kernel
theorem dX6_hasRight_20 : decode cX6_hasRight 20 = .ok (.iaload, 1) := by decide +kernel
theorem dX6_hasRight_21 : decode cX6_hasRight 21 = .ok (.isub, 1) := by decide +kernel
theorem dX6_hasRight_22 : decode cX6_hasRight 22 = .ok (.aload_n 0, 1) := by decide +kernel
theorem dX6_hasRight_23 : decode cX6_hasRight 23 = .ok (.getfield 20, 3) := by decide +kernel
theorem dX6_hasRight_26 : decode cX6_hasRight 26 = .ok (.iload_n 1, 1) := by decide +kernel
theorem dX6_hasRight_27 : decode cX6_hasRight 27 = .ok (.iaload, 1) := by decide +kernel
theorem dX6_hasRight_28 : decode cX6_hasRight 28 = .ok (.if_icmp .lt 7, 3) := by decide +kernel
theorem dX6_hasRight_31 : decode cX6_hasRight 31 = .ok (.iconst 1, 1) := by decide +kernel
theorem dX6_hasRight_32 : decode cX6_hasRight 32 = .ok (.goto 4, 3) := by decide +kernel
theorem dX6_hasRight_35 : decode cX6_hasRight 35 = .ok (.iconst 0, 1) := by decide +kernel
theorem dX6_hasRight_36 : decode cX6_hasRight 36 = .ok (.ireturn, 1) := by decide +kernel
theorem dX6_fedToday_0 : decode cX6_fedToday 0 = .ok (.aload_n 0, 1) := by decide +kernel
theorem dX6_fedToday_1 : decode cX6_fedToday 1 = .ok (.getfield 41, 3) := by decide +kernel
theorem dX6_fedToday_4 : decode cX6_fedToday 4 = .ok (.iload_n 1, 1) := by decide +kernel
theorem dX6_fedToday_5 : decode cX6_fedToday 5 = .ok (.iaload, 1) := by decide +kernel
theorem dX6_fedToday_6 : decode cX6_fedToday 6 = .ok (.aload_n 0, 1) := by decide +kernel
theorem dX6_fedToday_7 : decode cX6_fedToday 7 = .ok (.getfield 107, 3) := by decide +kernel
theorem dX6_fedToday_10 : decode cX6_fedToday 10 = .ok (.sipush 1440, 3) := by decide +kernel
theorem dX6_fedToday_13 : decode cX6_fedToday 13 = .ok (.idiv, 1) := by decide +kernel
theorem dX6_fedToday_14 : decode cX6_fedToday 14 = .ok (.if_icmp .ne 12, 3) := by decide +kernel
theorem dX6_fedToday_17 : decode cX6_fedToday 17 = .ok (.aload_n 0, 1) := by decide +kernel
theorem dX6_fedToday_18 : decode cX6_fedToday 18 = .ok (.getfield 44, 3) := by decide +kernel
theorem dX6_fedToday_21 : decode cX6_fedToday 21 = .ok (.iload_n 1, 1) := by decide +kernel
theorem dX6_fedToday_22 : decode cX6_fedToday 22 = .ok (.iaload, 1) := by decide +kernel
theorem dX6_fedToday_23 : decode cX6_fedToday 23 = .ok (.goto 4, 3) := by decide +kernel
theorem dX6_fedToday_26 : decode cX6_fedToday 26 = .ok (.iconst 0, 1) := by decide +kernel
theorem dX6_fedToday_27 : decode cX6_fedToday 27 = .ok (.ireturn, 1) := by decide +kernel
theorem dX6_enter_0 : decode cX6_enter 0 = .ok (.aload_n 0, 1) := by decide +kernel
theorem dX6_enter_1 : decode cX6_enter 1 = .ok (.getfield 90, 3) := by decide +kernel
theorem dX6_enter_4 : decode cX6_enter 4 = .ok (.bipush (-9), 2) := by decide +kernel
theorem dX6_enter_6 : decode cX6_enter 6 = .ok (.if_icmp .ne 17, 3) := by decide +kernel
theorem dX6_enter_9 : decode cX6_enter 9 = .ok (.aload_n 0, 1) := by decide +kernel
theorem dX6_enter_10 : decode cX6_enter 10 = .ok (.getfield 7, 3) := by decide +kernel
theorem dX6_enter_13 : decode cX6_enter 13 = .ok (.ifCond .eq 10, 3) := by decide +kernel
theorem dX6_enter_16 : decode cX6_enter 16 = .ok (.aload_n 0, 1) := by decide +kernel
theorem dX6_enter_17 : decode cX6_enter 17 = .ok (.getfield 110, 3) := by decide +kernel
theorem dX6_enter_20 : decode cX6_enter 20 = .ok (.ifCond .ne 4, 3) := by decide +kernel
theorem dX6_enter_23 : decode cX6_enter 23 = .ok (.return_, 1) := by decide +kernel
theorem dX6_enter_24 : decode cX6_enter 24 = .ok (.iconst 0, 1) := by decide +kernel
theorem dX6_enter_25 : decode cX6_enter 25 = .ok (.istore_n 1, 1) := by decide +kernel
theorem dX6_enter_26 : decode cX6_enter 26 = .ok (.iconst 0, 1) := by decide +kernel
theorem dX6_enter_27 : decode cX6_enter 27 = .ok (.istore_n 2, 1) := by decide +kernel
theorem dX6_enter_28 : decode cX6_enter 28 = .ok (.iconst 0, 1) := by decide +kernel
theorem dX6_enter_29 : decode cX6_enter 29 = .ok (.istore_n 3, 1) := by decide +kernel
theorem dX6_enter_30 : decode cX6_enter 30 = .ok (.iload_n 3, 1) := by decide +kernel
theorem dX6_enter_31 : decode cX6_enter 31 = .ok (.aload_n 0, 1) := by decide +kernel
theorem dX6_enter_32 : decode cX6_enter 32 = .ok (.getfield 110, 3) := by decide +kernel
theorem dX6_enter_35 : decode cX6_enter 35 = .ok (.if_icmp .ge 58, 3) := by decide +kernel
theorem dX6_enter_38 : decode cX6_enter 38 = .ok (.aload_n 0, 1) := by decide +kernel
theorem dX6_enter_39 : decode cX6_enter 39 = .ok (.getfield 87, 3) := by decide +kernel
theorem dX6_enter_42 : decode cX6_enter 42 = .ok (.iload_n 3, 1) := by decide +kernel
theorem dX6_enter_43 : decode cX6_enter 43 = .ok (.iaload, 1) := by decide +kernel
theorem dX6_enter_44 : decode cX6_enter 44 = .ok (.istore 4, 2) := by decide +kernel
theorem dX6_enter_46 : decode cX6_enter 46 = .ok (.iload_n 2, 1) := by decide +kernel
theorem dX6_enter_47 : decode cX6_enter 47 = .ok (.ifCond .ne 40, 3) := by decide +kernel
theorem dX6_enter_50 : decode cX6_enter 50 = .ok (.aload_n 0, 1) := by decide +kernel
theorem dX6_enter_51 : decode cX6_enter 51 = .ok (.getfield 13, 3) := by decide +kernel
theorem dX6_enter_54 : decode cX6_enter 54 = .ok (.aload_n 0, 1) := by decide +kernel
theorem dX6_enter_55 : decode cX6_enter 55 = .ok (.getfield 56, 3) := by decide +kernel
theorem dX6_enter_58 : decode cX6_enter 58 = .ok (.iload 4, 2) := by decide +kernel
theorem dX6_enter_60 : decode cX6_enter 60 = .ok (.iaload, 1) := by decide +kernel
theorem dX6_enter_61 : decode cX6_enter 61 = .ok (.iaload, 1) := by decide +kernel
theorem dX6_enter_62 : decode cX6_enter 62 = .ok (.iconst 1, 1) := by decide +kernel
theorem dX6_enter_63 : decode cX6_enter 63 = .ok (.if_icmp .ne 24, 3) := by decide +kernel
theorem dX6_enter_66 : decode cX6_enter 66 = .ok (.aload_n 0, 1) := by decide +kernel
theorem dX6_enter_67 : decode cX6_enter 67 = .ok (.getfield 107, 3) := by decide +kernel
theorem dX6_enter_70 : decode cX6_enter 70 = .ok (.aload_n 0, 1) := by decide +kernel
theorem dX6_enter_71 : decode cX6_enter 71 = .ok (.getfield 59, 3) := by decide +kernel
theorem dX6_enter_74 : decode cX6_enter 74 = .ok (.iload 4, 2) := by decide +kernel
theorem dX6_enter_76 : decode cX6_enter 76 = .ok (.iaload, 1) := by decide +kernel
theorem dX6_enter_77 : decode cX6_enter 77 = .ok (.isub, 1) := by decide +kernel
theorem dX6_enter_78 : decode cX6_enter 78 = .ok (.bipush 30, 2) := by decide +kernel
theorem dX6_enter_80 : decode cX6_enter 80 = .ok (.if_icmp .lt 7, 3) := by decide +kernel
theorem dX6_enter_83 : decode cX6_enter 83 = .ok (.iload_n 3, 1) := by decide +kernel
theorem dX6_enter_84 : decode cX6_enter 84 = .ok (.istore_n 1, 1) := by decide +kernel
theorem dX6_enter_85 : decode cX6_enter 85 = .ok (.iconst 1, 1) := by decide +kernel
theorem dX6_enter_86 : decode cX6_enter 86 = .ok (.istore_n 2, 1) := by decide +kernel
theorem dX6_enter_87 : decode cX6_enter 87 = .ok (.iinc 3 1, 3) := by decide +kernel
theorem dX6_enter_90 : decode cX6_enter 90 = .ok (.goto (-60), 3) := by decide +kernel
theorem dX6_enter_93 : decode cX6_enter 93 = .ok (.aload_n 0, 1) := by decide +kernel
theorem dX6_enter_94 : decode cX6_enter 94 = .ok (.aload_n 0, 1) := by decide +kernel
theorem dX6_enter_95 : decode cX6_enter 95 = .ok (.getfield 87, 3) := by decide +kernel
theorem dX6_enter_98 : decode cX6_enter 98 = .ok (.iload_n 1, 1) := by decide +kernel
theorem dX6_enter_99 : decode cX6_enter 99 = .ok (.iaload, 1) := by decide +kernel
theorem dX6_enter_100 : decode cX6_enter 100 = .ok (.invokevirtual 113, 3) := by decide +kernel
theorem dX6_enter_103 : decode cX6_enter 103 = .ok (.aload_n 0, 1) := by decide +kernel
theorem dX6_enter_104 : decode cX6_enter 104 = .ok (.dup, 1) := by decide +kernel
theorem dX6_enter_105 : decode cX6_enter 105 = .ok (.getfield 110, 3) := by decide +kernel
theorem dX6_enter_108 : decode cX6_enter 108 = .ok (.iconst 1, 1) := by decide +kernel
theorem dX6_enter_109 : decode cX6_enter 109 = .ok (.isub, 1) := by decide +kernel
theorem dX6_enter_110 : decode cX6_enter 110 = .ok (.putfield 110, 3) := by decide +kernel
theorem dX6_enter_113 : decode cX6_enter 113 = .ok (.iload_n 1, 1) := by decide +kernel
theorem dX6_enter_114 : decode cX6_enter 114 = .ok (.istore_n 3, 1) := by decide +kernel
theorem dX6_enter_115 : decode cX6_enter 115 = .ok (.iload_n 3, 1) := by decide +kernel
theorem dX6_enter_116 : decode cX6_enter 116 = .ok (.aload_n 0, 1) := by decide +kernel
theorem dX6_enter_117 : decode cX6_enter 117 = .ok (.getfield 110, 3) := by decide +kernel
theorem dX6_enter_120 : decode cX6_enter 120 = .ok (.if_icmp .ge 23, 3) := by decide +kernel
theorem dX6_enter_123 : decode cX6_enter 123 = .ok (.aload_n 0, 1) := by decide +kernel
theorem dX6_enter_124 : decode cX6_enter 124 = .ok (.getfield 87, 3) := by decide +kernel
theorem dX6_enter_127 : decode cX6_enter 127 = .ok (.iload_n 3, 1) := by decide +kernel
theorem dX6_enter_128 : decode cX6_enter 128 = .ok (.aload_n 0, 1) := by decide +kernel
theorem dX6_enter_129 : decode cX6_enter 129 = .ok (.getfield 87, 3) := by decide +kernel
theorem dX6_enter_132 : decode cX6_enter 132 = .ok (.iload_n 3, 1) := by decide +kernel
theorem dX6_enter_133 : decode cX6_enter 133 = .ok (.iconst 1, 1) := by decide +kernel
theorem dX6_enter_134 : decode cX6_enter 134 = .ok (.iadd, 1) := by decide +kernel
theorem dX6_enter_135 : decode cX6_enter 135 = .ok (.iaload, 1) := by decide +kernel
theorem dX6_enter_136 : decode cX6_enter 136 = .ok (.iastore, 1) := by decide +kernel
theorem dX6_enter_137 : decode cX6_enter 137 = .ok (.iinc 3 1, 3) := by decide +kernel
theorem dX6_enter_140 : decode cX6_enter 140 = .ok (.goto (-25), 3) := by decide +kernel
theorem dX6_enter_143 : decode cX6_enter 143 = .ok (.return_, 1) := by decide +kernel
theorem dX6_begin_0 : decode cX6_begin 0 = .ok (.aload_n 0, 1) := by decide +kernel
theorem dX6_begin_1 : decode cX6_begin 1 = .ok (.getfield 56, 3) := by decide +kernel
theorem dX6_begin_4 : decode cX6_begin 4 = .ok (.iload_n 1, 1) := by decide +kernel
theorem dX6_begin_5 : decode cX6_begin 5 = .ok (.iaload, 1) := by decide +kernel
theorem dX6_begin_6 : decode cX6_begin 6 = .ok (.istore_n 2, 1) := by decide +kernel
theorem dX6_begin_7 : decode cX6_begin 7 = .ok (.aload_n 0, 1) := by decide +kernel
theorem dX6_begin_8 : decode cX6_begin 8 = .ok (.iload_n 1, 1) := by decide +kernel
theorem dX6_begin_9 : decode cX6_begin 9 = .ok (.putfield 90, 3) := by decide +kernel
theorem dX6_begin_12 : decode cX6_begin 12 = .ok (.aload_n 0, 1) := by decide +kernel
theorem dX6_begin_13 : decode cX6_begin 13 = .ok (.aload_n 0, 1) := by decide +kernel
theorem dX6_begin_14 : decode cX6_begin 14 = .ok (.iload_n 2, 1) := by decide +kernel
theorem dX6_begin_15 : decode cX6_begin 15 = .ok (.invokevirtual 117, 3) := by decide +kernel
theorem dX6_begin_18 : decode cX6_begin 18 = .ok (.putfield 121, 3) := by decide +kernel
theorem dX6_begin_21 : decode cX6_begin 21 = .ok (.aload_n 0, 1) := by decide +kernel
theorem dX6_begin_22 : decode cX6_begin 22 = .ok (.iconst 0, 1) := by decide +kernel
theorem dX6_begin_23 : decode cX6_begin 23 = .ok (.putfield 124, 3) := by decide +kernel
theorem dX6_begin_26 : decode cX6_begin 26 = .ok (.aload_n 0, 1) := by decide +kernel
theorem dX6_begin_27 : decode cX6_begin 27 = .ok (.iconst 2, 1) := by decide +kernel
theorem dX6_begin_28 : decode cX6_begin 28 = .ok (.putfield 127, 3) := by decide +kernel
theorem dX6_begin_31 : decode cX6_begin 31 = .ok (.iconst 0, 1) := by decide +kernel
theorem dX6_begin_32 : decode cX6_begin 32 = .ok (.istore_n 3, 1) := by decide +kernel
theorem dX6_begin_33 : decode cX6_begin 33 = .ok (.iconst 0, 1) := by decide +kernel
theorem dX6_begin_34 : decode cX6_begin 34 = .ok (.istore 4, 2) := by decide +kernel
theorem dX6_begin_36 : decode cX6_begin 36 = .ok (.iload 4, 2) := by decide +kernel
theorem dX6_begin_38 : decode cX6_begin 38 = .ok (.iconst 4, 1) := by decide +kernel
theorem dX6_begin_39 : decode cX6_begin 39 = .ok (.if_icmp .ge 119, 3) := by decide +kernel
theorem dX6_begin_42 : decode cX6_begin 42 = .ok (.iload 4, 2) := by decide +kernel
theorem dX6_begin_44 : decode cX6_begin 44 = .ok (.ifCond .ne 19, 3) := by decide +kernel
theorem dX6_begin_47 : decode cX6_begin 47 = .ok (.aload_n 0, 1) := by decide +kernel
theorem dX6_begin_48 : decode cX6_begin 48 = .ok (.getfield 121, 3) := by decide +kernel
theorem dX6_begin_51 : decode cX6_begin 51 = .ok (.iconst 3, 1) := by decide +kernel
theorem dX6_begin_52 : decode cX6_begin 52 = .ok (.aload_n 0, 1) := by decide +kernel
theorem dX6_begin_53 : decode cX6_begin 53 = .ok (.getfield 121, 3) := by decide +kernel
theorem dX6_begin_56 : decode cX6_begin 56 = .ok (.iconst 4, 1) := by decide +kernel
theorem dX6_begin_57 : decode cX6_begin 57 = .ok (.idiv, 1) := by decide +kernel
theorem dX6_begin_58 : decode cX6_begin 58 = .ok (.imul, 1) := by decide +kernel
theorem dX6_begin_59 : decode cX6_begin 59 = .ok (.isub, 1) := by decide +kernel
theorem dX6_begin_60 : decode cX6_begin 60 = .ok (.goto 9, 3) := by decide +kernel
theorem dX6_begin_63 : decode cX6_begin 63 = .ok (.aload_n 0, 1) := by decide +kernel
theorem dX6_begin_64 : decode cX6_begin 64 = .ok (.getfield 121, 3) := by decide +kernel
theorem dX6_begin_67 : decode cX6_begin 67 = .ok (.iconst 4, 1) := by decide +kernel
theorem dX6_begin_68 : decode cX6_begin 68 = .ok (.idiv, 1) := by decide +kernel
theorem dX6_begin_69 : decode cX6_begin 69 = .ok (.istore 5, 2) := by decide +kernel
theorem dX6_begin_71 : decode cX6_begin 71 = .ok (.aload_n 0, 1) := by decide +kernel
theorem dX6_begin_72 : decode cX6_begin 72 = .ok (.getfield 38, 3) := by decide +kernel
theorem dX6_begin_75 : decode cX6_begin 75 = .ok (.iconst 4, 1) := by decide +kernel
theorem dX6_begin_76 : decode cX6_begin 76 = .ok (.iload_n 2, 1) := by decide +kernel
theorem dX6_begin_77 : decode cX6_begin 77 = .ok (.imul, 1) := by decide +kernel
theorem dX6_begin_78 : decode cX6_begin 78 = .ok (.iload 4, 2) := by decide +kernel
theorem dX6_begin_80 : decode cX6_begin 80 = .ok (.iadd, 1) := by decide +kernel
theorem dX6_begin_81 : decode cX6_begin 81 = .ok (.iaload, 1) := by decide +kernel
theorem dX6_begin_82 : decode cX6_begin 82 = .ok (.istore 6, 2) := by decide +kernel
theorem dX6_begin_84 : decode cX6_begin 84 = .ok (.aload_n 0, 1) := by decide +kernel
theorem dX6_begin_85 : decode cX6_begin 85 = .ok (.dup, 1) := by decide +kernel
theorem dX6_begin_86 : decode cX6_begin 86 = .ok (.getfield 127, 3) := by decide +kernel
theorem dX6_begin_89 : decode cX6_begin 89 = .ok (.iload 6, 2) := by decide +kernel
theorem dX6_begin_91 : decode cX6_begin 91 = .ok (.iconst 3, 1) := by decide +kernel
theorem dX6_begin_92 : decode cX6_begin 92 = .ok (.if_icmp .le 7, 3) := by decide +kernel
theorem dX6_begin_95 : decode cX6_begin 95 = .ok (.iconst 3, 1) := by decide +kernel
theorem dX6_begin_96 : decode cX6_begin 96 = .ok (.goto 5, 3) := by decide +kernel
theorem dX6_begin_99 : decode cX6_begin 99 = .ok (.iload 6, 2) := by decide +kernel
theorem dX6_begin_101 : decode cX6_begin 101 = .ok (.iadd, 1) := by decide +kernel
theorem dX6_begin_102 : decode cX6_begin 102 = .ok (.putfield 127, 3) := by decide +kernel
theorem dX6_begin_105 : decode cX6_begin 105 = .ok (.iload_n 3, 1) := by decide +kernel
theorem dX6_begin_106 : decode cX6_begin 106 = .ok (.iload 6, 2) := by decide +kernel
theorem dX6_begin_108 : decode cX6_begin 108 = .ok (.iconst 3, 1) := by decide +kernel
theorem dX6_begin_109 : decode cX6_begin 109 = .ok (.if_icmp .le 7, 3) := by decide +kernel
theorem dX6_begin_112 : decode cX6_begin 112 = .ok (.iconst 1, 1) := by decide +kernel
theorem dX6_begin_113 : decode cX6_begin 113 = .ok (.goto 4, 3) := by decide +kernel
theorem dX6_begin_116 : decode cX6_begin 116 = .ok (.iconst 0, 1) := by decide +kernel
theorem dX6_begin_117 : decode cX6_begin 117 = .ok (.iadd, 1) := by decide +kernel
theorem dX6_begin_118 : decode cX6_begin 118 = .ok (.istore_n 3, 1) := by decide +kernel
theorem dX6_begin_119 : decode cX6_begin 119 = .ok (.aload_n 0, 1) := by decide +kernel
theorem dX6_begin_120 : decode cX6_begin 120 = .ok (.dup, 1) := by decide +kernel
theorem dX6_begin_121 : decode cX6_begin 121 = .ok (.getfield 124, 3) := by decide +kernel
theorem dX6_begin_124 : decode cX6_begin 124 = .ok (.iload 6, 2) := by decide +kernel
theorem dX6_begin_126 : decode cX6_begin 126 = .ok (.iconst 3, 1) := by decide +kernel
theorem dX6_begin_127 : decode cX6_begin 127 = .ok (.if_icmp .le 7, 3) := by decide +kernel
theorem dX6_begin_130 : decode cX6_begin 130 = .ok (.iconst 0, 1) := by decide +kernel
theorem dX6_begin_131 : decode cX6_begin 131 = .ok (.goto 5, 3) := by decide +kernel
theorem dX6_begin_134 : decode cX6_begin 134 = .ok (.iload 5, 2) := by decide +kernel
theorem dX6_begin_136 : decode cX6_begin 136 = .ok (.iadd, 1) := by decide +kernel
theorem dX6_begin_137 : decode cX6_begin 137 = .ok (.putfield 124, 3) := by decide +kernel
theorem dX6_begin_140 : decode cX6_begin 140 = .ok (.aload_n 0, 1) := by decide +kernel
theorem dX6_begin_141 : decode cX6_begin 141 = .ok (.getfield 38, 3) := by decide +kernel
theorem dX6_begin_144 : decode cX6_begin 144 = .ok (.iconst 4, 1) := by decide +kernel
theorem dX6_begin_145 : decode cX6_begin 145 = .ok (.iload_n 2, 1) := by decide +kernel
theorem dX6_begin_146 : decode cX6_begin 146 = .ok (.imul, 1) := by decide +kernel
theorem dX6_begin_147 : decode cX6_begin 147 = .ok (.iload 4, 2) := by decide +kernel
theorem dX6_begin_149 : decode cX6_begin 149 = .ok (.iadd, 1) := by decide +kernel
theorem dX6_begin_150 : decode cX6_begin 150 = .ok (.iconst 0, 1) := by decide +kernel
theorem dX6_begin_151 : decode cX6_begin 151 = .ok (.iastore, 1) := by decide +kernel
theorem dX6_begin_152 : decode cX6_begin 152 = .ok (.iinc 4 1, 3) := by decide +kernel
theorem dX6_begin_155 : decode cX6_begin 155 = .ok (.goto (-119), 3) := by decide +kernel
theorem dX6_begin_158 : decode cX6_begin 158 = .ok (.aload_n 0, 1) := by decide +kernel
theorem dX6_begin_159 : decode cX6_begin 159 = .ok (.aload_n 0, 1) := by decide +kernel
theorem dX6_begin_160 : decode cX6_begin 160 = .ok (.getfield 107, 3) := by decide +kernel
theorem dX6_begin_163 : decode cX6_begin 163 = .ok (.aload_n 0, 1) := by decide +kernel
theorem dX6_begin_164 : decode cX6_begin 164 = .ok (.getfield 127, 3) := by decide +kernel
theorem dX6_begin_167 : decode cX6_begin 167 = .ok (.iadd, 1) := by decide +kernel
theorem dX6_begin_168 : decode cX6_begin 168 = .ok (.aload_n 0, 1) := by decide +kernel
theorem dX6_begin_169 : decode cX6_begin 169 = .ok (.getfield 124, 3) := by decide +kernel
theorem dX6_begin_172 : decode cX6_begin 172 = .ok (.bipush 19, 2) := by decide +kernel
theorem dX6_begin_174 : decode cX6_begin 174 = .ok (.iadd, 1) := by decide +kernel
theorem dX6_begin_175 : decode cX6_begin 175 = .ok (.bipush 20, 2) := by decide +kernel
theorem dX6_begin_177 : decode cX6_begin 177 = .ok (.idiv, 1) := by decide +kernel
theorem dX6_begin_178 : decode cX6_begin 178 = .ok (.iadd, 1) := by decide +kernel
theorem dX6_begin_179 : decode cX6_begin 179 = .ok (.putfield 130, 3) := by decide +kernel
theorem dX6_begin_182 : decode cX6_begin 182 = .ok (.aload_n 0, 1) := by decide +kernel
theorem dX6_begin_183 : decode cX6_begin 183 = .ok (.getfield 69, 3) := by decide +kernel
theorem dX6_begin_186 : decode cX6_begin 186 = .ok (.iload_n 1, 1) := by decide +kernel
theorem dX6_begin_187 : decode cX6_begin 187 = .ok (.aload_n 0, 1) := by decide +kernel
theorem dX6_begin_188 : decode cX6_begin 188 = .ok (.getfield 107, 3) := by decide +kernel
theorem dX6_begin_191 : decode cX6_begin 191 = .ok (.iastore, 1) := by decide +kernel
theorem dX6_begin_192 : decode cX6_begin 192 = .ok (.aload_n 0, 1) := by decide +kernel
theorem dX6_begin_193 : decode cX6_begin 193 = .ok (.getfield 81, 3) := by decide +kernel
theorem dX6_begin_196 : decode cX6_begin 196 = .ok (.iload_n 1, 1) := by decide +kernel
theorem dX6_begin_197 : decode cX6_begin 197 = .ok (.iload_n 3, 1) := by decide +kernel
theorem dX6_begin_198 : decode cX6_begin 198 = .ok (.iastore, 1) := by decide +kernel
theorem dX6_begin_199 : decode cX6_begin 199 = .ok (.aload_n 0, 1) := by decide +kernel
theorem dX6_begin_200 : decode cX6_begin 200 = .ok (.getfield 32, 3) := by decide +kernel
theorem dX6_begin_203 : decode cX6_begin 203 = .ok (.iload_n 2, 1) := by decide +kernel
theorem dX6_begin_204 : decode cX6_begin 204 = .ok (.aload_n 0, 1) := by decide +kernel
theorem dX6_begin_205 : decode cX6_begin 205 = .ok (.getfield 107, 3) := by decide +kernel
theorem dX6_begin_208 : decode cX6_begin 208 = .ok (.iastore, 1) := by decide +kernel
theorem dX6_begin_209 : decode cX6_begin 209 = .ok (.aload_n 0, 1) := by decide +kernel
theorem dX6_begin_210 : decode cX6_begin 210 = .ok (.getfield 26, 3) := by decide +kernel
theorem dX6_begin_213 : decode cX6_begin 213 = .ok (.iload_n 2, 1) := by decide +kernel
theorem dX6_begin_214 : decode cX6_begin 214 = .ok (.aload_n 0, 1) := by decide +kernel
theorem dX6_begin_215 : decode cX6_begin 215 = .ok (.getfield 107, 3) := by decide +kernel
theorem dX6_begin_218 : decode cX6_begin 218 = .ok (.iastore, 1) := by decide +kernel
theorem dX6_begin_219 : decode cX6_begin 219 = .ok (.aload_n 0, 1) := by decide +kernel
theorem dX6_begin_220 : decode cX6_begin 220 = .ok (.getfield 29, 3) := by decide +kernel
theorem dX6_begin_223 : decode cX6_begin 223 = .ok (.iload_n 2, 1) := by decide +kernel
theorem dX6_begin_224 : decode cX6_begin 224 = .ok (.iconst 0, 1) := by decide +kernel
theorem dX6_begin_225 : decode cX6_begin 225 = .ok (.iastore, 1) := by decide +kernel
theorem dX6_begin_226 : decode cX6_begin 226 = .ok (.return_, 1) := by decide +kernel
theorem dX6_finish_0 : decode cX6_finish 0 = .ok (.aload_n 0, 1) := by decide +kernel
theorem dX6_finish_1 : decode cX6_finish 1 = .ok (.getfield 90, 3) := by decide +kernel
theorem dX6_finish_4 : decode cX6_finish 4 = .ok (.istore_n 2, 1) := by decide +kernel
theorem dX6_finish_5 : decode cX6_finish 5 = .ok (.aload_n 0, 1) := by decide +kernel
theorem dX6_finish_6 : decode cX6_finish 6 = .ok (.getfield 56, 3) := by decide +kernel
theorem dX6_finish_9 : decode cX6_finish 9 = .ok (.iload_n 2, 1) := by decide +kernel
theorem dX6_finish_10 : decode cX6_finish 10 = .ok (.iaload, 1) := by decide +kernel
theorem dX6_finish_11 : decode cX6_finish 11 = .ok (.istore_n 3, 1) := by decide +kernel
theorem dX6_finish_12 : decode cX6_finish 12 = .ok (.aload_n 0, 1) := by decide +kernel
theorem dX6_finish_13 : decode cX6_finish 13 = .ok (.bipush (-9), 2) := by decide +kernel
theorem dX6_finish_15 : decode cX6_finish 15 = .ok (.putfield 90, 3) := by decide +kernel
theorem dX6_finish_18 : decode cX6_finish 18 = .ok (.aload_n 0, 1) := by decide +kernel
theorem dX6_finish_19 : decode cX6_finish 19 = .ok (.getfield 29, 3) := by decide +kernel
theorem dX6_finish_22 : decode cX6_finish 22 = .ok (.iload_n 3, 1) := by decide +kernel
theorem dX6_finish_23 : decode cX6_finish 23 = .ok (.aload_n 0, 1) := by decide +kernel
theorem dX6_finish_24 : decode cX6_finish 24 = .ok (.getfield 121, 3) := by decide +kernel
theorem dX6_finish_27 : decode cX6_finish 27 = .ok (.iload_n 1, 1) := by decide +kernel
theorem dX6_finish_28 : decode cX6_finish 28 = .ok (.isub, 1) := by decide +kernel
theorem dX6_finish_29 : decode cX6_finish 29 = .ok (.iastore, 1) := by decide +kernel
theorem dX6_finish_30 : decode cX6_finish 30 = .ok (.aload_n 0, 1) := by decide +kernel
theorem dX6_finish_31 : decode cX6_finish 31 = .ok (.getfield 13, 3) := by decide +kernel
theorem dX6_finish_34 : decode cX6_finish 34 = .ok (.iload_n 3, 1) := by decide +kernel
theorem dX6_finish_35 : decode cX6_finish 35 = .ok (.iaload, 1) := by decide +kernel
theorem dX6_finish_36 : decode cX6_finish 36 = .ok (.iconst 2, 1) := by decide +kernel
theorem dX6_finish_37 : decode cX6_finish 37 = .ok (.if_icmp .eq 16, 3) := by decide +kernel
theorem dX6_finish_40 : decode cX6_finish 40 = .ok (.aload_n 0, 1) := by decide +kernel
theorem dX6_finish_41 : decode cX6_finish 41 = .ok (.getfield 35, 3) := by decide +kernel
theorem dX6_finish_44 : decode cX6_finish 44 = .ok (.iload_n 3, 1) := by decide +kernel
theorem dX6_finish_45 : decode cX6_finish 45 = .ok (.iaload, 1) := by decide +kernel
theorem dX6_finish_46 : decode cX6_finish 46 = .ok (.aload_n 0, 1) := by decide +kernel
theorem dX6_finish_47 : decode cX6_finish 47 = .ok (.getfield 107, 3) := by decide +kernel
theorem dX6_finish_50 : decode cX6_finish 50 = .ok (.if_icmp .le 7, 3) := by decide +kernel
theorem dX6_finish_53 : decode cX6_finish 53 = .ok (.iconst 1, 1) := by decide +kernel
theorem dX6_finish_54 : decode cX6_finish 54 = .ok (.goto 21, 3) := by decide +kernel
theorem dX6_finish_57 : decode cX6_finish 57 = .ok (.aload_n 0, 1) := by decide +kernel
theorem dX6_finish_58 : decode cX6_finish 58 = .ok (.getfield 133, 3) := by decide +kernel
theorem dX6_finish_61 : decode cX6_finish 61 = .ok (.iload_n 1, 1) := by decide +kernel
theorem dX6_finish_62 : decode cX6_finish 62 = .ok (.iadd, 1) := by decide +kernel
theorem dX6_finish_63 : decode cX6_finish 63 = .ok (.aload_n 0, 1) := by decide +kernel
theorem dX6_finish_64 : decode cX6_finish 64 = .ok (.getfield 94, 3) := by decide +kernel
theorem dX6_finish_67 : decode cX6_finish 67 = .ok (.if_icmp .gt 7, 3) := by decide +kernel
theorem dX6_finish_70 : decode cX6_finish 70 = .ok (.iconst 0, 1) := by decide +kernel
theorem dX6_finish_71 : decode cX6_finish 71 = .ok (.goto 4, 3) := by decide +kernel
theorem dX6_finish_74 : decode cX6_finish 74 = .ok (.iconst 2, 1) := by decide +kernel
theorem dX6_finish_75 : decode cX6_finish 75 = .ok (.istore 4, 2) := by decide +kernel
theorem dX6_finish_77 : decode cX6_finish 77 = .ok (.aload_n 0, 1) := by decide +kernel
theorem dX6_finish_78 : decode cX6_finish 78 = .ok (.dup, 1) := by decide +kernel
theorem dX6_finish_79 : decode cX6_finish 79 = .ok (.getfield 133, 3) := by decide +kernel
theorem dX6_finish_82 : decode cX6_finish 82 = .ok (.iload 4, 2) := by decide +kernel
theorem dX6_finish_84 : decode cX6_finish 84 = .ok (.ifCond .ne 7, 3) := by decide +kernel
theorem dX6_finish_87 : decode cX6_finish 87 = .ok (.iload_n 1, 1) := by decide +kernel
theorem dX6_finish_88 : decode cX6_finish 88 = .ok (.goto 4, 3) := by decide +kernel
theorem dX6_finish_91 : decode cX6_finish 91 = .ok (.iconst 0, 1) := by decide +kernel
theorem dX6_finish_92 : decode cX6_finish 92 = .ok (.iadd, 1) := by decide +kernel
theorem dX6_finish_93 : decode cX6_finish 93 = .ok (.putfield 133, 3) := by decide +kernel
theorem dX6_finish_96 : decode cX6_finish 96 = .ok (.aload_n 0, 1) := by decide +kernel
theorem dX6_finish_97 : decode cX6_finish 97 = .ok (.dup, 1) := by decide +kernel
theorem dX6_finish_98 : decode cX6_finish 98 = .ok (.getfield 136, 3) := by decide +kernel
theorem dX6_finish_101 : decode cX6_finish 101 = .ok (.iload 4, 2) := by decide +kernel
theorem dX6_finish_103 : decode cX6_finish 103 = .ok (.iconst 1, 1) := by decide +kernel
theorem dX6_finish_104 : decode cX6_finish 104 = .ok (.if_icmp .ne 7, 3) := by decide +kernel
theorem dX6_finish_107 : decode cX6_finish 107 = .ok (.iload_n 1, 1) := by decide +kernel
theorem dX6_finish_108 : decode cX6_finish 108 = .ok (.goto 4, 3) := by decide +kernel
theorem dX6_finish_111 : decode cX6_finish 111 = .ok (.iconst 0, 1) := by decide +kernel
theorem dX6_finish_112 : decode cX6_finish 112 = .ok (.iadd, 1) := by decide +kernel
theorem dX6_finish_113 : decode cX6_finish 113 = .ok (.putfield 136, 3) := by decide +kernel
theorem dX6_finish_116 : decode cX6_finish 116 = .ok (.aload_n 0, 1) := by decide +kernel
theorem dX6_finish_117 : decode cX6_finish 117 = .ok (.dup, 1) := by decide +kernel
theorem dX6_finish_118 : decode cX6_finish 118 = .ok (.getfield 139, 3) := by decide +kernel
theorem dX6_finish_121 : decode cX6_finish 121 = .ok (.iload 4, 2) := by decide +kernel
theorem dX6_finish_123 : decode cX6_finish 123 = .ok (.iconst 2, 1) := by decide +kernel
theorem dX6_finish_124 : decode cX6_finish 124 = .ok (.if_icmp .ne 7, 3) := by decide +kernel
theorem dX6_finish_127 : decode cX6_finish 127 = .ok (.iload_n 1, 1) := by decide +kernel
theorem dX6_finish_128 : decode cX6_finish 128 = .ok (.goto 4, 3) := by decide +kernel
theorem dX6_finish_131 : decode cX6_finish 131 = .ok (.iconst 0, 1) := by decide +kernel
theorem dX6_finish_132 : decode cX6_finish 132 = .ok (.iadd, 1) := by decide +kernel
theorem dX6_finish_133 : decode cX6_finish 133 = .ok (.putfield 139, 3) := by decide +kernel
theorem dX6_finish_136 : decode cX6_finish 136 = .ok (.aload_n 0, 1) := by decide +kernel
theorem dX6_finish_137 : decode cX6_finish 137 = .ok (.getfield 23, 3) := by decide +kernel
theorem dX6_finish_140 : decode cX6_finish 140 = .ok (.iload_n 3, 1) := by decide +kernel
theorem dX6_finish_141 : decode cX6_finish 141 = .ok (.iaload, 1) := by decide +kernel
theorem dX6_finish_142 : decode cX6_finish 142 = .ok (.aload_n 0, 1) := by decide +kernel
theorem dX6_finish_143 : decode cX6_finish 143 = .ok (.iload_n 3, 1) := by decide +kernel
theorem dX6_finish_144 : decode cX6_finish 144 = .ok (.invokevirtual 142, 3) := by decide +kernel
theorem dX6_finish_147 : decode cX6_finish 147 = .ok (.isub, 1) := by decide +kernel
theorem dX6_finish_148 : decode cX6_finish 148 = .ok (.istore 5, 2) := by decide +kernel
theorem dX6_finish_150 : decode cX6_finish 150 = .ok (.bipush 10, 2) := by decide +kernel
theorem dX6_finish_152 : decode cX6_finish 152 = .ok (.iload_n 1, 1) := by decide +kernel
theorem dX6_finish_153 : decode cX6_finish 153 = .ok (.imul, 1) := by decide +kernel
theorem dX6_finish_154 : decode cX6_finish 154 = .ok (.iload 5, 2) := by decide +kernel
theorem dX6_finish_156 : decode cX6_finish 156 = .ok (.if_icmp .ge 10, 3) := by decide +kernel
theorem dX6_finish_159 : decode cX6_finish 159 = .ok (.bipush 10, 2) := by decide +kernel
theorem dX6_finish_161 : decode cX6_finish 161 = .ok (.iload_n 1, 1) := by decide +kernel
theorem dX6_finish_162 : decode cX6_finish 162 = .ok (.imul, 1) := by decide +kernel
theorem dX6_finish_163 : decode cX6_finish 163 = .ok (.goto 5, 3) := by decide +kernel
theorem dX6_finish_166 : decode cX6_finish 166 = .ok (.iload 5, 2) := by decide +kernel
theorem dX6_finish_168 : decode cX6_finish 168 = .ok (.istore 6, 2) := by decide +kernel
theorem dX6_finish_170 : decode cX6_finish 170 = .ok (.aload_n 0, 1) := by decide +kernel
theorem dX6_finish_171 : decode cX6_finish 171 = .ok (.getfield 44, 3) := by decide +kernel
theorem dX6_finish_174 : decode cX6_finish 174 = .ok (.iload_n 3, 1) := by decide +kernel
theorem dX6_finish_175 : decode cX6_finish 175 = .ok (.aload_n 0, 1) := by decide +kernel
theorem dX6_finish_176 : decode cX6_finish 176 = .ok (.iload_n 3, 1) := by decide +kernel
theorem dX6_finish_177 : decode cX6_finish 177 = .ok (.invokevirtual 142, 3) := by decide +kernel
theorem dX6_finish_180 : decode cX6_finish 180 = .ok (.iload 6, 2) := by decide +kernel
theorem dX6_finish_182 : decode cX6_finish 182 = .ok (.iadd, 1) := by decide +kernel
theorem dX6_finish_183 : decode cX6_finish 183 = .ok (.iastore, 1) := by decide +kernel
theorem dX6_finish_184 : decode cX6_finish 184 = .ok (.aload_n 0, 1) := by decide +kernel
theorem dX6_finish_185 : decode cX6_finish 185 = .ok (.getfield 41, 3) := by decide +kernel
theorem dX6_finish_188 : decode cX6_finish 188 = .ok (.iload_n 3, 1) := by decide +kernel
theorem dX6_finish_189 : decode cX6_finish 189 = .ok (.aload_n 0, 1) := by decide +kernel
theorem dX6_finish_190 : decode cX6_finish 190 = .ok (.getfield 107, 3) := by decide +kernel
theorem dX6_finish_193 : decode cX6_finish 193 = .ok (.sipush 1440, 3) := by decide +kernel
theorem dX6_finish_196 : decode cX6_finish 196 = .ok (.idiv, 1) := by decide +kernel
theorem dX6_finish_197 : decode cX6_finish 197 = .ok (.iastore, 1) := by decide +kernel
theorem dX6_finish_198 : decode cX6_finish 198 = .ok (.aload_n 0, 1) := by decide +kernel
theorem dX6_finish_199 : decode cX6_finish 199 = .ok (.dup, 1) := by decide +kernel
theorem dX6_finish_200 : decode cX6_finish 200 = .ok (.getfield 145, 3) := by decide +kernel
theorem dX6_finish_203 : decode cX6_finish 203 = .ok (.iload 6, 2) := by decide +kernel
theorem dX6_finish_205 : decode cX6_finish 205 = .ok (.iadd, 1) := by decide +kernel
theorem dX6_finish_206 : decode cX6_finish 206 = .ok (.putfield 145, 3) := by decide +kernel
theorem dX6_finish_209 : decode cX6_finish 209 = .ok (.aload_n 0, 1) := by decide +kernel
theorem dX6_finish_210 : decode cX6_finish 210 = .ok (.dup, 1) := by decide +kernel
theorem dX6_finish_211 : decode cX6_finish 211 = .ok (.getfield 148, 3) := by decide +kernel
theorem dX6_finish_214 : decode cX6_finish 214 = .ok (.iload_n 1, 1) := by decide +kernel
theorem dX6_finish_215 : decode cX6_finish 215 = .ok (.iadd, 1) := by decide +kernel
theorem dX6_finish_216 : decode cX6_finish 216 = .ok (.putfield 148, 3) := by decide +kernel
theorem dX6_finish_219 : decode cX6_finish 219 = .ok (.aload_n 0, 1) := by decide +kernel
theorem dX6_finish_220 : decode cX6_finish 220 = .ok (.getfield 47, 3) := by decide +kernel
theorem dX6_finish_223 : decode cX6_finish 223 = .ok (.iload_n 3, 1) := by decide +kernel
theorem dX6_finish_224 : decode cX6_finish 224 = .ok (.dup2, 1) := by decide +kernel
theorem dX6_finish_225 : decode cX6_finish 225 = .ok (.iaload, 1) := by decide +kernel
theorem dX6_finish_226 : decode cX6_finish 226 = .ok (.iload_n 1, 1) := by decide +kernel
theorem dX6_finish_227 : decode cX6_finish 227 = .ok (.iadd, 1) := by decide +kernel
theorem dX6_finish_228 : decode cX6_finish 228 = .ok (.iastore, 1) := by decide +kernel
theorem dX6_finish_229 : decode cX6_finish 229 = .ok (.aload_n 0, 1) := by decide +kernel
theorem dX6_finish_230 : decode cX6_finish 230 = .ok (.getfield 72, 3) := by decide +kernel
theorem dX6_finish_233 : decode cX6_finish 233 = .ok (.iload_n 2, 1) := by decide +kernel
theorem dX6_finish_234 : decode cX6_finish 234 = .ok (.aload_n 0, 1) := by decide +kernel
theorem dX6_finish_235 : decode cX6_finish 235 = .ok (.getfield 107, 3) := by decide +kernel
theorem dX6_finish_238 : decode cX6_finish 238 = .ok (.iastore, 1) := by decide +kernel
theorem dX6_finish_239 : decode cX6_finish 239 = .ok (.aload_n 0, 1) := by decide +kernel
theorem dX6_finish_240 : decode cX6_finish 240 = .ok (.getfield 75, 3) := by decide +kernel
theorem dX6_finish_243 : decode cX6_finish 243 = .ok (.iload_n 2, 1) := by decide +kernel
theorem dX6_finish_244 : decode cX6_finish 244 = .ok (.iload_n 1, 1) := by decide +kernel
theorem dX6_finish_245 : decode cX6_finish 245 = .ok (.iastore, 1) := by decide +kernel
theorem dX6_finish_246 : decode cX6_finish 246 = .ok (.aload_n 0, 1) := by decide +kernel
theorem dX6_finish_247 : decode cX6_finish 247 = .ok (.getfield 78, 3) := by decide +kernel
theorem dX6_finish_250 : decode cX6_finish 250 = .ok (.iload_n 2, 1) := by decide +kernel
theorem dX6_finish_251 : decode cX6_finish 251 = .ok (.iload 4, 2) := by decide +kernel
theorem dX6_finish_253 : decode cX6_finish 253 = .ok (.iastore, 1) := by decide +kernel
theorem dX6_finish_254 : decode cX6_finish 254 = .ok (.aload_n 0, 1) := by decide +kernel
theorem dX6_finish_255 : decode cX6_finish 255 = .ok (.getfield 84, 3) := by decide +kernel
theorem dX6_finish_258 : decode cX6_finish 258 = .ok (.iload_n 2, 1) := by decide +kernel
theorem dX6_finish_259 : decode cX6_finish 259 = .ok (.iload 6, 2) := by decide +kernel
theorem dX6_finish_261 : decode cX6_finish 261 = .ok (.iastore, 1) := by decide +kernel
theorem dX6_finish_262 : decode cX6_finish 262 = .ok (.return_, 1) := by decide +kernel
theorem dX6_cow_0 : decode cX6_cow 0 = .ok (.aload_n 0, 1) := by decide +kernel
theorem dX6_cow_1 : decode cX6_cow 1 = .ok (.iconst 0, 1) := by decide +kernel
theorem dX6_cow_2 : decode cX6_cow 2 = .ok (.putfield 97, 3) := by decide +kernel
theorem dX6_cow_5 : decode cX6_cow 5 = .ok (.iload_n 1, 1) := by decide +kernel
theorem dX6_cow_6 : decode cX6_cow 6 = .ok (.i2l, 1) := by decide +kernel
theorem dX6_cow_7 : decode cX6_cow 7 = .ok (.lconst 0, 1) := by decide +kernel
theorem dX6_cow_8 : decode cX6_cow 8 = .ok (.ldc2_w 151, 3) := by decide +kernel
theorem dX6_cow_11 : decode cX6_cow 11 = .ok (.invokestatic 103, 3) := by decide +kernel
theorem dX6_cow_14 : decode cX6_cow 14 = .ok (.ifCond .eq 40, 3) := by decide +kernel
theorem dX6_cow_17 : decode cX6_cow 17 = .ok (.iload_n 2, 1) := by decide +kernel
theorem dX6_cow_18 : decode cX6_cow 18 = .ok (.i2l, 1) := by decide +kernel
theorem dX6_cow_19 : decode cX6_cow 19 = .ok (.lconst 1, 1) := by decide +kernel
theorem dX6_cow_20 : decode cX6_cow 20 = .ok (.ldc2_w 153, 3) := by decide +kernel
theorem dX6_cow_23 : decode cX6_cow 23 = .ok (.invokestatic 103, 3) := by decide +kernel
theorem dX6_cow_26 : decode cX6_cow 26 = .ok (.ifCond .eq 28, 3) := by decide +kernel
theorem dX6_cow_29 : decode cX6_cow 29 = .ok (.iload_n 3, 1) := by decide +kernel
theorem dX6_cow_30 : decode cX6_cow 30 = .ok (.i2l, 1) := by decide +kernel
theorem dX6_cow_31 : decode cX6_cow 31 = .ok (.lconst 0, 1) := by decide +kernel
theorem dX6_cow_32 : decode cX6_cow 32 = .ok (.ldc2_w 155, 3) := by decide +kernel
theorem dX6_cow_35 : decode cX6_cow 35 = .ok (.invokestatic 103, 3) := by decide +kernel
theorem dX6_cow_38 : decode cX6_cow 38 = .ok (.ifCond .eq 16, 3) := by decide +kernel
theorem dX6_cow_41 : decode cX6_cow 41 = .ok (.iload 4, 2) := by decide +kernel
theorem dX6_cow_43 : decode cX6_cow 43 = .ok (.i2l, 1) := by decide +kernel
theorem dX6_cow_44 : decode cX6_cow 44 = .ok (.lconst 0, 1) := by decide +kernel
theorem dX6_cow_45 : decode cX6_cow 45 = .ok (.ldc2_w 157, 3) := by decide +kernel
theorem dX6_cow_48 : decode cX6_cow 48 = .ok (.invokestatic 103, 3) := by decide +kernel
theorem dX6_cow_51 : decode cX6_cow 51 = .ok (.ifCond .ne 6, 3) := by decide +kernel
theorem dX6_cow_54 : decode cX6_cow 54 = .ok (.bipush (-2), 2) := by decide +kernel
theorem dX6_cow_56 : decode cX6_cow 56 = .ok (.ireturn, 1) := by decide +kernel
theorem dX6_cow_57 : decode cX6_cow 57 = .ok (.aload_n 0, 1) := by decide +kernel
theorem dX6_cow_58 : decode cX6_cow 58 = .ok (.getfield 100, 3) := by decide +kernel
theorem dX6_cow_61 : decode cX6_cow 61 = .ok (.bipush 12, 2) := by decide +kernel
theorem dX6_cow_63 : decode cX6_cow 63 = .ok (.if_icmp .ne 6, 3) := by decide +kernel
theorem dX6_cow_66 : decode cX6_cow 66 = .ok (.bipush (-4), 2) := by decide +kernel
theorem dX6_cow_68 : decode cX6_cow 68 = .ok (.ireturn, 1) := by decide +kernel
theorem dX6_cow_69 : decode cX6_cow 69 = .ok (.aload_n 0, 1) := by decide +kernel
theorem dX6_cow_70 : decode cX6_cow 70 = .ok (.getfield 13, 3) := by decide +kernel
theorem dX6_cow_73 : decode cX6_cow 73 = .ok (.aload_n 0, 1) := by decide +kernel
theorem dX6_cow_74 : decode cX6_cow 74 = .ok (.getfield 100, 3) := by decide +kernel
theorem dX6_cow_77 : decode cX6_cow 77 = .ok (.iload_n 1, 1) := by decide +kernel
theorem dX6_cow_78 : decode cX6_cow 78 = .ok (.iastore, 1) := by decide +kernel
theorem dX6_cow_79 : decode cX6_cow 79 = .ok (.aload_n 0, 1) := by decide +kernel
theorem dX6_cow_80 : decode cX6_cow 80 = .ok (.getfield 17, 3) := by decide +kernel
theorem dX6_cow_83 : decode cX6_cow 83 = .ok (.aload_n 0, 1) := by decide +kernel
theorem dX6_cow_84 : decode cX6_cow 84 = .ok (.getfield 100, 3) := by decide +kernel
theorem dX6_cow_87 : decode cX6_cow 87 = .ok (.iload_n 2, 1) := by decide +kernel
theorem dX6_cow_88 : decode cX6_cow 88 = .ok (.iastore, 1) := by decide +kernel
theorem dX6_cow_89 : decode cX6_cow 89 = .ok (.aload_n 0, 1) := by decide +kernel
theorem dX6_cow_90 : decode cX6_cow 90 = .ok (.getfield 20, 3) := by decide +kernel
theorem dX6_cow_93 : decode cX6_cow 93 = .ok (.aload_n 0, 1) := by decide +kernel
theorem dX6_cow_94 : decode cX6_cow 94 = .ok (.getfield 100, 3) := by decide +kernel
theorem dX6_cow_97 : decode cX6_cow 97 = .ok (.iload_n 3, 1) := by decide +kernel
theorem dX6_cow_98 : decode cX6_cow 98 = .ok (.iastore, 1) := by decide +kernel
theorem dX6_cow_99 : decode cX6_cow 99 = .ok (.aload_n 0, 1) := by decide +kernel
theorem dX6_cow_100 : decode cX6_cow 100 = .ok (.getfield 23, 3) := by decide +kernel
theorem dX6_cow_103 : decode cX6_cow 103 = .ok (.aload_n 0, 1) := by decide +kernel
theorem dX6_cow_104 : decode cX6_cow 104 = .ok (.getfield 100, 3) := by decide +kernel
theorem dX6_cow_107 : decode cX6_cow 107 = .ok (.iload 4, 2) := by decide +kernel
theorem dX6_cow_109 : decode cX6_cow 109 = .ok (.iastore, 1) := by decide +kernel
theorem dX6_cow_110 : decode cX6_cow 110 = .ok (.aload_n 0, 1) := by decide +kernel
theorem dX6_cow_111 : decode cX6_cow 111 = .ok (.getfield 26, 3) := by decide +kernel
theorem dX6_cow_114 : decode cX6_cow 114 = .ok (.aload_n 0, 1) := by decide +kernel
theorem dX6_cow_115 : decode cX6_cow 115 = .ok (.getfield 100, 3) := by decide +kernel
theorem dX6_cow_118 : decode cX6_cow 118 = .ok (.aload_n 0, 1) := by decide +kernel
theorem dX6_cow_119 : decode cX6_cow 119 = .ok (.getfield 107, 3) := by decide +kernel
theorem dX6_cow_122 : decode cX6_cow 122 = .ok (.iastore, 1) := by decide +kernel
theorem dX6_cow_123 : decode cX6_cow 123 = .ok (.aload_n 0, 1) := by decide +kernel
theorem dX6_cow_124 : decode cX6_cow 124 = .ok (.getfield 32, 3) := by decide +kernel
theorem dX6_cow_127 : decode cX6_cow 127 = .ok (.aload_n 0, 1) := by decide +kernel
theorem dX6_cow_128 : decode cX6_cow 128 = .ok (.getfield 100, 3) := by decide +kernel
theorem dX6_cow_131 : decode cX6_cow 131 = .ok (.bipush (-9), 2) := by decide +kernel
theorem dX6_cow_133 : decode cX6_cow 133 = .ok (.iastore, 1) := by decide +kernel
theorem dX6_cow_134 : decode cX6_cow 134 = .ok (.aload_n 0, 1) := by decide +kernel
theorem dX6_cow_135 : decode cX6_cow 135 = .ok (.getfield 41, 3) := by decide +kernel
theorem dX6_cow_138 : decode cX6_cow 138 = .ok (.aload_n 0, 1) := by decide +kernel
theorem dX6_cow_139 : decode cX6_cow 139 = .ok (.getfield 100, 3) := by decide +kernel
theorem dX6_cow_142 : decode cX6_cow 142 = .ok (.bipush (-9), 2) := by decide +kernel
theorem dX6_cow_144 : decode cX6_cow 144 = .ok (.iastore, 1) := by decide +kernel
theorem dX6_cow_145 : decode cX6_cow 145 = .ok (.aload_n 0, 1) := by decide +kernel
theorem dX6_cow_146 : decode cX6_cow 146 = .ok (.dup, 1) := by decide +kernel
theorem dX6_cow_147 : decode cX6_cow 147 = .ok (.getfield 100, 3) := by decide +kernel
theorem dX6_cow_150 : decode cX6_cow 150 = .ok (.iconst 1, 1) := by decide +kernel
theorem dX6_cow_151 : decode cX6_cow 151 = .ok (.iadd, 1) := by decide +kernel
theorem dX6_cow_152 : decode cX6_cow 152 = .ok (.putfield 100, 3) := by decide +kernel
theorem dX6_cow_155 : decode cX6_cow 155 = .ok (.aload_n 0, 1) := by decide +kernel
theorem dX6_cow_156 : decode cX6_cow 156 = .ok (.getfield 100, 3) := by decide +kernel
theorem dX6_cow_159 : decode cX6_cow 159 = .ok (.iconst 1, 1) := by decide +kernel
theorem dX6_cow_160 : decode cX6_cow 160 = .ok (.isub, 1) := by decide +kernel
theorem dX6_cow_161 : decode cX6_cow 161 = .ok (.ireturn, 1) := by decide +kernel
theorem dX6_taken_0 : decode cX6_taken 0 = .ok (.aload_n 0, 1) := by decide +kernel
theorem dX6_taken_1 : decode cX6_taken 1 = .ok (.iconst 0, 1) := by decide +kernel
theorem dX6_taken_2 : decode cX6_taken 2 = .ok (.putfield 97, 3) := by decide +kernel
theorem dX6_taken_5 : decode cX6_taken 5 = .ok (.aload_n 0, 1) := by decide +kernel
theorem dX6_taken_6 : decode cX6_taken 6 = .ok (.iload_n 1, 1) := by decide +kernel
theorem dX6_taken_7 : decode cX6_taken 7 = .ok (.invokevirtual 159, 3) := by decide +kernel
theorem dX6_taken_10 : decode cX6_taken 10 = .ok (.ifCond .eq 5, 3) := by decide +kernel
theorem dX6_taken_13 : decode cX6_taken 13 = .ok (.iconst (-1), 1) := by decide +kernel
theorem dX6_taken_14 : decode cX6_taken 14 = .ok (.ireturn, 1) := by decide +kernel
theorem dX6_taken_15 : decode cX6_taken 15 = .ok (.iload_n 2, 1) := by decide +kernel
theorem dX6_taken_16 : decode cX6_taken 16 = .ok (.i2l, 1) := by decide +kernel
theorem dX6_taken_17 : decode cX6_taken 17 = .ok (.lconst 0, 1) := by decide +kernel
theorem dX6_taken_18 : decode cX6_taken 18 = .ok (.ldc2_w 151, 3) := by decide +kernel
theorem dX6_taken_21 : decode cX6_taken 21 = .ok (.invokestatic 103, 3) := by decide +kernel
theorem dX6_taken_24 : decode cX6_taken 24 = .ok (.ifCond .eq 15, 3) := by decide +kernel
theorem dX6_taken_27 : decode cX6_taken 27 = .ok (.iload_n 3, 1) := by decide +kernel
theorem dX6_taken_28 : decode cX6_taken 28 = .ok (.i2l, 1) := by decide +kernel
theorem dX6_taken_29 : decode cX6_taken 29 = .ok (.lconst 0, 1) := by decide +kernel
theorem dX6_taken_30 : decode cX6_taken 30 = .ok (.ldc2_w 163, 3) := by decide +kernel
theorem dX6_taken_33 : decode cX6_taken 33 = .ok (.invokestatic 103, 3) := by decide +kernel
theorem dX6_taken_36 : decode cX6_taken 36 = .ok (.ifCond .ne 6, 3) := by decide +kernel
theorem dX6_taken_39 : decode cX6_taken 39 = .ok (.bipush (-2), 2) := by decide +kernel
theorem dX6_taken_41 : decode cX6_taken 41 = .ok (.ireturn, 1) := by decide +kernel
theorem dX6_taken_42 : decode cX6_taken 42 = .ok (.iload_n 2, 1) := by decide +kernel
theorem dX6_taken_43 : decode cX6_taken 43 = .ok (.ifCond .eq 16, 3) := by decide +kernel
theorem dX6_taken_46 : decode cX6_taken 46 = .ok (.aload_n 0, 1) := by decide +kernel
theorem dX6_taken_47 : decode cX6_taken 47 = .ok (.getfield 13, 3) := by decide +kernel
theorem dX6_taken_50 : decode cX6_taken 50 = .ok (.iload_n 1, 1) := by decide +kernel
theorem dX6_taken_51 : decode cX6_taken 51 = .ok (.iaload, 1) := by decide +kernel
theorem dX6_taken_52 : decode cX6_taken 52 = .ok (.iload_n 2, 1) := by decide +kernel
theorem dX6_taken_53 : decode cX6_taken 53 = .ok (.if_icmp .eq 6, 3) := by decide +kernel
theorem dX6_taken_56 : decode cX6_taken 56 = .ok (.bipush (-13), 2) := by decide +kernel
theorem dX6_taken_58 : decode cX6_taken 58 = .ok (.ireturn, 1) := by decide +kernel
theorem dX6_taken_59 : decode cX6_taken 59 = .ok (.iload_n 3, 1) := by decide +kernel
theorem dX6_taken_60 : decode cX6_taken 60 = .ok (.ifCond .ne 12, 3) := by decide +kernel
theorem dX6_taken_63 : decode cX6_taken 63 = .ok (.aload_n 0, 1) := by decide +kernel
theorem dX6_taken_64 : decode cX6_taken 64 = .ok (.getfield 13, 3) := by decide +kernel
theorem dX6_taken_67 : decode cX6_taken 67 = .ok (.iload_n 1, 1) := by decide +kernel
theorem dX6_taken_68 : decode cX6_taken 68 = .ok (.iaload, 1) := by decide +kernel
theorem dX6_taken_69 : decode cX6_taken 69 = .ok (.goto 37, 3) := by decide +kernel
theorem dX6_taken_72 : decode cX6_taken 72 = .ok (.iload_n 3, 1) := by decide +kernel
theorem dX6_taken_73 : decode cX6_taken 73 = .ok (.iconst 1, 1) := by decide +kernel
theorem dX6_taken_74 : decode cX6_taken 74 = .ok (.if_icmp .ne 12, 3) := by decide +kernel
theorem dX6_taken_77 : decode cX6_taken 77 = .ok (.aload_n 0, 1) := by decide +kernel
theorem dX6_taken_78 : decode cX6_taken 78 = .ok (.getfield 17, 3) := by decide +kernel
theorem dX6_taken_81 : decode cX6_taken 81 = .ok (.iload_n 1, 1) := by decide +kernel
theorem dX6_taken_82 : decode cX6_taken 82 = .ok (.iaload, 1) := by decide +kernel
theorem dX6_taken_83 : decode cX6_taken 83 = .ok (.goto 23, 3) := by decide +kernel
theorem dX6_taken_86 : decode cX6_taken 86 = .ok (.iload_n 3, 1) := by decide +kernel
theorem dX6_taken_87 : decode cX6_taken 87 = .ok (.iconst 2, 1) := by decide +kernel
theorem dX6_taken_88 : decode cX6_taken 88 = .ok (.if_icmp .ne 12, 3) := by decide +kernel
theorem dX6_taken_91 : decode cX6_taken 91 = .ok (.aload_n 0, 1) := by decide +kernel
theorem dX6_taken_92 : decode cX6_taken 92 = .ok (.getfield 20, 3) := by decide +kernel
theorem dX6_taken_95 : decode cX6_taken 95 = .ok (.iload_n 1, 1) := by decide +kernel
theorem dX6_taken_96 : decode cX6_taken 96 = .ok (.iaload, 1) := by decide +kernel
theorem dX6_taken_97 : decode cX6_taken 97 = .ok (.goto 9, 3) := by decide +kernel
theorem dX6_taken_100 : decode cX6_taken 100 = .ok (.aload_n 0, 1) := by decide +kernel
theorem dX6_taken_101 : decode cX6_taken 101 = .ok (.getfield 23, 3) := by decide +kernel
theorem dX6_taken_104 : decode cX6_taken 104 = .ok (.iload_n 1, 1) := by decide +kernel
theorem dX6_taken_105 : decode cX6_taken 105 = .ok (.iaload, 1) := by decide +kernel
theorem dX6_taken_106 : decode cX6_taken 106 = .ok (.ireturn, 1) := by decide +kernel
theorem dX6_withhold_0 : decode cX6_withhold 0 = .ok (.aload_n 0, 1) := by decide +kernel
theorem dX6_withhold_1 : decode cX6_withhold 1 = .ok (.iconst 0, 1) := by decide +kernel
theorem dX6_withhold_2 : decode cX6_withhold 2 = .ok (.putfield 97, 3) := by decide +kernel
theorem dX6_withhold_5 : decode cX6_withhold 5 = .ok (.aload_n 0, 1) := by decide +kernel
theorem dX6_withhold_6 : decode cX6_withhold 6 = .ok (.iload_n 1, 1) := by decide +kernel
theorem dX6_withhold_7 : decode cX6_withhold 7 = .ok (.invokevirtual 159, 3) := by decide +kernel
theorem dX6_withhold_10 : decode cX6_withhold 10 = .ok (.ifCond .eq 5, 3) := by decide +kernel
theorem dX6_withhold_13 : decode cX6_withhold 13 = .ok (.iconst (-1), 1) := by decide +kernel
theorem dX6_withhold_14 : decode cX6_withhold 14 = .ok (.ireturn, 1) := by decide +kernel
theorem dX6_withhold_15 : decode cX6_withhold 15 = .ok (.iload_n 2, 1) := by decide +kernel
theorem dX6_withhold_16 : decode cX6_withhold 16 = .ok (.i2l, 1) := by decide +kernel
theorem dX6_withhold_17 : decode cX6_withhold 17 = .ok (.lconst 0, 1) := by decide +kernel
theorem dX6_withhold_18 : decode cX6_withhold 18 = .ok (.ldc2_w 165, 3) := by decide +kernel
theorem dX6_withhold_21 : decode cX6_withhold 21 = .ok (.invokestatic 103, 3) := by decide +kernel
theorem dX6_withhold_24 : decode cX6_withhold 24 = .ok (.ifCond .ne 6, 3) := by decide +kernel
theorem dX6_withhold_27 : decode cX6_withhold 27 = .ok (.bipush (-2), 2) := by decide +kernel
theorem dX6_withhold_29 : decode cX6_withhold 29 = .ok (.ireturn, 1) := by decide +kernel
theorem dX6_withhold_30 : decode cX6_withhold 30 = .ok (.aload_n 0, 1) := by decide +kernel
theorem dX6_withhold_31 : decode cX6_withhold 31 = .ok (.getfield 35, 3) := by decide +kernel
theorem dX6_withhold_34 : decode cX6_withhold 34 = .ok (.iload_n 1, 1) := by decide +kernel
theorem dX6_withhold_35 : decode cX6_withhold 35 = .ok (.iaload, 1) := by decide +kernel
theorem dX6_withhold_36 : decode cX6_withhold 36 = .ok (.istore_n 3, 1) := by decide +kernel
theorem dX6_withhold_37 : decode cX6_withhold 37 = .ok (.aload_n 0, 1) := by decide +kernel
theorem dX6_withhold_38 : decode cX6_withhold 38 = .ok (.getfield 35, 3) := by decide +kernel
theorem dX6_withhold_41 : decode cX6_withhold 41 = .ok (.iload_n 1, 1) := by decide +kernel
theorem dX6_withhold_42 : decode cX6_withhold 42 = .ok (.iload_n 2, 1) := by decide +kernel
theorem dX6_withhold_43 : decode cX6_withhold 43 = .ok (.iastore, 1) := by decide +kernel
theorem dX6_withhold_44 : decode cX6_withhold 44 = .ok (.iload_n 3, 1) := by decide +kernel
theorem dX6_withhold_45 : decode cX6_withhold 45 = .ok (.ireturn, 1) := by decide +kernel
theorem dX6_trouble_0 : decode cX6_trouble 0 = .ok (.aload_n 0, 1) := by decide +kernel
theorem dX6_trouble_1 : decode cX6_trouble 1 = .ok (.iconst 0, 1) := by decide +kernel
theorem dX6_trouble_2 : decode cX6_trouble 2 = .ok (.putfield 97, 3) := by decide +kernel
theorem dX6_trouble_5 : decode cX6_trouble 5 = .ok (.aload_n 0, 1) := by decide +kernel
theorem dX6_trouble_6 : decode cX6_trouble 6 = .ok (.iload_n 1, 1) := by decide +kernel
theorem dX6_trouble_7 : decode cX6_trouble 7 = .ok (.invokevirtual 159, 3) := by decide +kernel
theorem dX6_trouble_10 : decode cX6_trouble 10 = .ok (.ifCond .ne 15, 3) := by decide +kernel
theorem dX6_trouble_13 : decode cX6_trouble 13 = .ok (.iload_n 2, 1) := by decide +kernel
theorem dX6_trouble_14 : decode cX6_trouble 14 = .ok (.i2l, 1) := by decide +kernel
theorem dX6_trouble_15 : decode cX6_trouble 15 = .ok (.lconst 0, 1) := by decide +kernel
theorem dX6_trouble_16 : decode cX6_trouble 16 = .ok (.ldc2_w 163, 3) := by decide +kernel
theorem dX6_trouble_19 : decode cX6_trouble 19 = .ok (.invokestatic 103, 3) := by decide +kernel
theorem dX6_trouble_22 : decode cX6_trouble 22 = .ok (.ifCond .ne 5, 3) := by decide +kernel
theorem dX6_trouble_25 : decode cX6_trouble 25 = .ok (.iconst (-1), 1) := by decide +kernel
theorem dX6_trouble_26 : decode cX6_trouble 26 = .ok (.ireturn, 1) := by decide +kernel
theorem dX6_trouble_27 : decode cX6_trouble 27 = .ok (.iload_n 3, 1) := by decide +kernel
theorem dX6_trouble_28 : decode cX6_trouble 28 = .ok (.i2l, 1) := by decide +kernel
theorem dX6_trouble_29 : decode cX6_trouble 29 = .ok (.lconst 0, 1) := by decide +kernel
theorem dX6_trouble_30 : decode cX6_trouble 30 = .ok (.ldc2_w 167, 3) := by decide +kernel
theorem dX6_trouble_33 : decode cX6_trouble 33 = .ok (.invokestatic 103, 3) := by decide +kernel
theorem dX6_trouble_36 : decode cX6_trouble 36 = .ok (.ifCond .ne 6, 3) := by decide +kernel
theorem dX6_trouble_39 : decode cX6_trouble 39 = .ok (.bipush (-2), 2) := by decide +kernel
theorem dX6_trouble_41 : decode cX6_trouble 41 = .ok (.ireturn, 1) := by decide +kernel
theorem dX6_trouble_42 : decode cX6_trouble 42 = .ok (.aload_n 0, 1) := by decide +kernel
theorem dX6_trouble_43 : decode cX6_trouble 43 = .ok (.getfield 38, 3) := by decide +kernel
theorem dX6_trouble_46 : decode cX6_trouble 46 = .ok (.iconst 4, 1) := by decide +kernel
theorem dX6_trouble_47 : decode cX6_trouble 47 = .ok (.iload_n 1, 1) := by decide +kernel
theorem dX6_trouble_48 : decode cX6_trouble 48 = .ok (.imul, 1) := by decide +kernel
theorem dX6_trouble_49 : decode cX6_trouble 49 = .ok (.iload_n 2, 1) := by decide +kernel
theorem dX6_trouble_50 : decode cX6_trouble 50 = .ok (.iadd, 1) := by decide +kernel
theorem dX6_trouble_51 : decode cX6_trouble 51 = .ok (.iaload, 1) := by decide +kernel
theorem dX6_trouble_52 : decode cX6_trouble 52 = .ok (.istore 4, 2) := by decide +kernel
theorem dX6_trouble_54 : decode cX6_trouble 54 = .ok (.aload_n 0, 1) := by decide +kernel
theorem dX6_trouble_55 : decode cX6_trouble 55 = .ok (.getfield 38, 3) := by decide +kernel
theorem dX6_trouble_58 : decode cX6_trouble 58 = .ok (.iconst 4, 1) := by decide +kernel
theorem dX6_trouble_59 : decode cX6_trouble 59 = .ok (.iload_n 1, 1) := by decide +kernel
theorem dX6_trouble_60 : decode cX6_trouble 60 = .ok (.imul, 1) := by decide +kernel
theorem dX6_trouble_61 : decode cX6_trouble 61 = .ok (.iload_n 2, 1) := by decide +kernel
theorem dX6_trouble_62 : decode cX6_trouble 62 = .ok (.iadd, 1) := by decide +kernel
theorem dX6_trouble_63 : decode cX6_trouble 63 = .ok (.iload_n 3, 1) := by decide +kernel
theorem dX6_trouble_64 : decode cX6_trouble 64 = .ok (.iastore, 1) := by decide +kernel
theorem dX6_trouble_65 : decode cX6_trouble 65 = .ok (.iload 4, 2) := by decide +kernel
theorem dX6_trouble_67 : decode cX6_trouble 67 = .ok (.ireturn, 1) := by decide +kernel
theorem dX6_placeOf_0 : decode cX6_placeOf 0 = .ok (.iconst 0, 1) := by decide +kernel
theorem dX6_placeOf_1 : decode cX6_placeOf 1 = .ok (.istore_n 2, 1) := by decide +kernel
theorem dX6_placeOf_2 : decode cX6_placeOf 2 = .ok (.iload_n 2, 1) := by decide +kernel
theorem dX6_placeOf_3 : decode cX6_placeOf 3 = .ok (.aload_n 0, 1) := by decide +kernel
theorem dX6_placeOf_4 : decode cX6_placeOf 4 = .ok (.getfield 110, 3) := by decide +kernel
theorem dX6_placeOf_7 : decode cX6_placeOf 7 = .ok (.if_icmp .ge 26, 3) := by decide +kernel
theorem dX6_placeOf_10 : decode cX6_placeOf 10 = .ok (.aload_n 0, 1) := by decide +kernel
theorem dX6_placeOf_11 : decode cX6_placeOf 11 = .ok (.getfield 56, 3) := by decide +kernel
theorem dX6_placeOf_14 : decode cX6_placeOf 14 = .ok (.aload_n 0, 1) := by decide +kernel
theorem dX6_placeOf_15 : decode cX6_placeOf 15 = .ok (.getfield 87, 3) := by decide +kernel
theorem dX6_placeOf_18 : decode cX6_placeOf 18 = .ok (.iload_n 2, 1) := by decide +kernel
theorem dX6_placeOf_19 : decode cX6_placeOf 19 = .ok (.iaload, 1) := by decide +kernel
theorem dX6_placeOf_20 : decode cX6_placeOf 20 = .ok (.iaload, 1) := by decide +kernel
theorem dX6_placeOf_21 : decode cX6_placeOf 21 = .ok (.iload_n 1, 1) := by decide +kernel
theorem dX6_placeOf_22 : decode cX6_placeOf 22 = .ok (.if_icmp .ne 5, 3) := by decide +kernel
theorem dX6_placeOf_25 : decode cX6_placeOf 25 = .ok (.iload_n 2, 1) := by decide +kernel
theorem dX6_placeOf_26 : decode cX6_placeOf 26 = .ok (.ireturn, 1) := by decide +kernel
theorem dX6_placeOf_27 : decode cX6_placeOf 27 = .ok (.iinc 2 1, 3) := by decide +kernel
theorem dX6_placeOf_30 : decode cX6_placeOf 30 = .ok (.goto (-28), 3) := by decide +kernel
theorem dX6_placeOf_33 : decode cX6_placeOf 33 = .ok (.bipush (-9), 2) := by decide +kernel
theorem dX6_placeOf_35 : decode cX6_placeOf 35 = .ok (.ireturn, 1) := by decide +kernel
theorem dX6_about_0 : decode cX6_about 0 = .ok (.aload_n 0, 1) := by decide +kernel
theorem dX6_about_1 : decode cX6_about 1 = .ok (.iconst 0, 1) := by decide +kernel
theorem dX6_about_2 : decode cX6_about 2 = .ok (.putfield 97, 3) := by decide +kernel
theorem dX6_about_5 : decode cX6_about 5 = .ok (.aload_n 0, 1) := by decide +kernel
theorem dX6_about_6 : decode cX6_about 6 = .ok (.iload_n 1, 1) := by decide +kernel
theorem dX6_about_7 : decode cX6_about 7 = .ok (.invokevirtual 159, 3) := by decide +kernel
theorem dX6_about_10 : decode cX6_about 10 = .ok (.ifCond .eq 5, 3) := by decide +kernel
theorem dX6_about_13 : decode cX6_about 13 = .ok (.iconst (-1), 1) := by decide +kernel
theorem dX6_about_14 : decode cX6_about 14 = .ok (.ireturn, 1) := by decide +kernel
theorem dX6_about_15 : decode cX6_about 15 = .ok (.iload_n 2, 1) := by decide +kernel
theorem dX6_about_16 : decode cX6_about 16 = .ok (.tableswitch 97 0 6 #[44, 50, 57, 71, 77, 83, 90], 44) := by decide +kernel
theorem dX6_about_60 : decode cX6_about 60 = .ok (.aload_n 0, 1) := by decide +kernel
theorem dX6_about_61 : decode cX6_about 61 = .ok (.iload_n 1, 1) := by decide +kernel
theorem dX6_about_62 : decode cX6_about 62 = .ok (.invokevirtual 117, 3) := by decide +kernel
theorem dX6_about_65 : decode cX6_about 65 = .ok (.ireturn, 1) := by decide +kernel
theorem dX6_about_66 : decode cX6_about 66 = .ok (.aload_n 0, 1) := by decide +kernel
theorem dX6_about_67 : decode cX6_about 67 = .ok (.getfield 32, 3) := by decide +kernel
theorem dX6_about_70 : decode cX6_about 70 = .ok (.iload_n 1, 1) := by decide +kernel
theorem dX6_about_71 : decode cX6_about 71 = .ok (.iaload, 1) := by decide +kernel
theorem dX6_about_72 : decode cX6_about 72 = .ok (.ireturn, 1) := by decide +kernel
theorem dX6_about_73 : decode cX6_about 73 = .ok (.aload_n 0, 1) := by decide +kernel
theorem dX6_about_74 : decode cX6_about 74 = .ok (.iload_n 1, 1) := by decide +kernel
theorem dX6_about_75 : decode cX6_about 75 = .ok (.invokevirtual 169, 3) := by decide +kernel
theorem dX6_about_78 : decode cX6_about 78 = .ok (.ifCond .eq 7, 3) := by decide +kernel
theorem dX6_about_81 : decode cX6_about 81 = .ok (.iconst 1, 1) := by decide +kernel
theorem dX6_about_82 : decode cX6_about 82 = .ok (.goto 4, 3) := by decide +kernel
theorem dX6_about_85 : decode cX6_about 85 = .ok (.iconst 0, 1) := by decide +kernel
theorem dX6_about_86 : decode cX6_about 86 = .ok (.ireturn, 1) := by decide +kernel
theorem dX6_about_87 : decode cX6_about 87 = .ok (.aload_n 0, 1) := by decide +kernel
theorem dX6_about_88 : decode cX6_about 88 = .ok (.iload_n 1, 1) := by decide +kernel
theorem dX6_about_89 : decode cX6_about 89 = .ok (.invokevirtual 142, 3) := by decide +kernel
theorem dX6_about_92 : decode cX6_about 92 = .ok (.ireturn, 1) := by decide +kernel
theorem dX6_about_93 : decode cX6_about 93 = .ok (.aload_n 0, 1) := by decide +kernel
theorem dX6_about_94 : decode cX6_about 94 = .ok (.iload_n 1, 1) := by decide +kernel
theorem dX6_about_95 : decode cX6_about 95 = .ok (.invokevirtual 172, 3) := by decide +kernel
theorem dX6_about_98 : decode cX6_about 98 = .ok (.ireturn, 1) := by decide +kernel
theorem dX6_about_99 : decode cX6_about 99 = .ok (.aload_n 0, 1) := by decide +kernel
theorem dX6_about_100 : decode cX6_about 100 = .ok (.getfield 47, 3) := by decide +kernel
theorem dX6_about_103 : decode cX6_about 103 = .ok (.iload_n 1, 1) := by decide +kernel
theorem dX6_about_104 : decode cX6_about 104 = .ok (.iaload, 1) := by decide +kernel
theorem dX6_about_105 : decode cX6_about 105 = .ok (.ireturn, 1) := by decide +kernel
theorem dX6_about_106 : decode cX6_about 106 = .ok (.aload_n 0, 1) := by decide +kernel
theorem dX6_about_107 : decode cX6_about 107 = .ok (.getfield 50, 3) := by decide +kernel
theorem dX6_about_110 : decode cX6_about 110 = .ok (.iload_n 1, 1) := by decide +kernel
theorem dX6_about_111 : decode cX6_about 111 = .ok (.iaload, 1) := by decide +kernel
theorem dX6_about_112 : decode cX6_about 112 = .ok (.ireturn, 1) := by decide +kernel
theorem dX6_about_113 : decode cX6_about 113 = .ok (.bipush (-2), 2) := by decide +kernel
theorem dX6_about_115 : decode cX6_about 115 = .ok (.ireturn, 1) := by decide +kernel
theorem dX6_pass_0 : decode cX6_pass 0 = .ok (.aload_n 0, 1) := by decide +kernel
theorem dX6_pass_1 : decode cX6_pass 1 = .ok (.iconst 0, 1) := by decide +kernel
theorem dX6_pass_2 : decode cX6_pass 2 = .ok (.putfield 97, 3) := by decide +kernel
theorem dX6_pass_5 : decode cX6_pass 5 = .ok (.iload_n 1, 1) := by decide +kernel
theorem dX6_pass_6 : decode cX6_pass 6 = .ok (.i2l, 1) := by decide +kernel
theorem dX6_pass_7 : decode cX6_pass 7 = .ok (.lconst 1, 1) := by decide +kernel
theorem dX6_pass_8 : decode cX6_pass 8 = .ok (.ldc2_w 175, 3) := by decide +kernel
theorem dX6_pass_11 : decode cX6_pass 11 = .ok (.invokestatic 103, 3) := by decide +kernel
theorem dX6_pass_14 : decode cX6_pass 14 = .ok (.ifCond .ne 6, 3) := by decide +kernel
theorem dX6_pass_17 : decode cX6_pass 17 = .ok (.bipush (-2), 2) := by decide +kernel
theorem dX6_pass_19 : decode cX6_pass 19 = .ok (.ireturn, 1) := by decide +kernel
theorem dX6_pass_20 : decode cX6_pass 20 = .ok (.aload_n 0, 1) := by decide +kernel
theorem dX6_pass_21 : decode cX6_pass 21 = .ok (.getfield 107, 3) := by decide +kernel
theorem dX6_pass_24 : decode cX6_pass 24 = .ok (.iload_n 1, 1) := by decide +kernel
theorem dX6_pass_25 : decode cX6_pass 25 = .ok (.iadd, 1) := by decide +kernel
theorem dX6_pass_26 : decode cX6_pass 26 = .ok (.ldc 177, 2) := by decide +kernel
theorem dX6_pass_28 : decode cX6_pass 28 = .ok (.if_icmp .le 6, 3) := by decide +kernel
theorem dX6_pass_31 : decode cX6_pass 31 = .ok (.bipush (-4), 2) := by decide +kernel
theorem dX6_pass_33 : decode cX6_pass 33 = .ok (.ireturn, 1) := by decide +kernel
theorem dX6_pass_34 : decode cX6_pass 34 = .ok (.aload_n 0, 1) := by decide +kernel
theorem dX6_pass_35 : decode cX6_pass 35 = .ok (.getfield 107, 3) := by decide +kernel
theorem dX6_pass_38 : decode cX6_pass 38 = .ok (.iload_n 1, 1) := by decide +kernel
theorem dX6_pass_39 : decode cX6_pass 39 = .ok (.iadd, 1) := by decide +kernel
theorem dX6_pass_40 : decode cX6_pass 40 = .ok (.istore_n 2, 1) := by decide +kernel
theorem dX6_pass_41 : decode cX6_pass 41 = .ok (.aload_n 0, 1) := by decide +kernel
theorem dX6_pass_42 : decode cX6_pass 42 = .ok (.getfield 90, 3) := by decide +kernel
theorem dX6_pass_45 : decode cX6_pass 45 = .ok (.bipush (-9), 2) := by decide +kernel
theorem dX6_pass_47 : decode cX6_pass 47 = .ok (.if_icmp .eq 34, 3) := by decide +kernel
theorem dX6_pass_50 : decode cX6_pass 50 = .ok (.aload_n 0, 1) := by decide +kernel
theorem dX6_pass_51 : decode cX6_pass 51 = .ok (.getfield 130, 3) := by decide +kernel
theorem dX6_pass_54 : decode cX6_pass 54 = .ok (.iload_n 2, 1) := by decide +kernel
theorem dX6_pass_55 : decode cX6_pass 55 = .ok (.if_icmp .gt 26, 3) := by decide +kernel
theorem dX6_pass_58 : decode cX6_pass 58 = .ok (.aload_n 0, 1) := by decide +kernel
theorem dX6_pass_59 : decode cX6_pass 59 = .ok (.aload_n 0, 1) := by decide +kernel
theorem dX6_pass_60 : decode cX6_pass 60 = .ok (.getfield 130, 3) := by decide +kernel
theorem dX6_pass_63 : decode cX6_pass 63 = .ok (.putfield 107, 3) := by decide +kernel
theorem dX6_pass_66 : decode cX6_pass 66 = .ok (.aload_n 0, 1) := by decide +kernel
theorem dX6_pass_67 : decode cX6_pass 67 = .ok (.aload_n 0, 1) := by decide +kernel
theorem dX6_pass_68 : decode cX6_pass 68 = .ok (.getfield 124, 3) := by decide +kernel
theorem dX6_pass_71 : decode cX6_pass 71 = .ok (.invokevirtual 178, 3) := by decide +kernel
theorem dX6_pass_74 : decode cX6_pass 74 = .ok (.aload_n 0, 1) := by decide +kernel
theorem dX6_pass_75 : decode cX6_pass 75 = .ok (.invokevirtual 181, 3) := by decide +kernel
theorem dX6_pass_78 : decode cX6_pass 78 = .ok (.goto (-37), 3) := by decide +kernel
theorem dX6_pass_81 : decode cX6_pass 81 = .ok (.aload_n 0, 1) := by decide +kernel
theorem dX6_pass_82 : decode cX6_pass 82 = .ok (.iload_n 2, 1) := by decide +kernel
theorem dX6_pass_83 : decode cX6_pass 83 = .ok (.putfield 107, 3) := by decide +kernel
theorem dX6_pass_86 : decode cX6_pass 86 = .ok (.aload_n 0, 1) := by decide +kernel
theorem dX6_pass_87 : decode cX6_pass 87 = .ok (.getfield 107, 3) := by decide +kernel
theorem dX6_pass_90 : decode cX6_pass 90 = .ok (.ireturn, 1) := by decide +kernel
theorem dX6_isAlarm_0 : decode cX6_isAlarm 0 = .ok (.iconst 0, 1) := by decide +kernel
theorem dX6_isAlarm_1 : decode cX6_isAlarm 1 = .ok (.istore_n 3, 1) := by decide +kernel
theorem dX6_isAlarm_2 : decode cX6_isAlarm 2 = .ok (.iconst 0, 1) := by decide +kernel
theorem dX6_isAlarm_3 : decode cX6_isAlarm 3 = .ok (.istore 4, 2) := by decide +kernel
theorem dX6_isAlarm_5 : decode cX6_isAlarm 5 = .ok (.aload_n 0, 1) := by decide +kernel
theorem dX6_isAlarm_6 : decode cX6_isAlarm 6 = .ok (.getfield 184, 3) := by decide +kernel
theorem dX6_isAlarm_9 : decode cX6_isAlarm 9 = .ok (.iconst 1, 1) := by decide +kernel
theorem dX6_isAlarm_10 : decode cX6_isAlarm 10 = .ok (.isub, 1) := by decide +kernel
theorem dX6_isAlarm_11 : decode cX6_isAlarm 11 = .ok (.istore 5, 2) := by decide +kernel
theorem dX6_isAlarm_13 : decode cX6_isAlarm 13 = .ok (.iload 5, 2) := by decide +kernel
theorem dX6_isAlarm_15 : decode cX6_isAlarm 15 = .ok (.ifCond .lt 40, 3) := by decide +kernel
theorem dX6_isAlarm_18 : decode cX6_isAlarm 18 = .ok (.iload_n 3, 1) := by decide +kernel
theorem dX6_isAlarm_19 : decode cX6_isAlarm 19 = .ok (.iconst 5, 1) := by decide +kernel
theorem dX6_isAlarm_20 : decode cX6_isAlarm 20 = .ok (.if_icmp .ge 35, 3) := by decide +kernel
theorem dX6_isAlarm_23 : decode cX6_isAlarm 23 = .ok (.aload_n 0, 1) := by decide +kernel
theorem dX6_isAlarm_24 : decode cX6_isAlarm 24 = .ok (.getfield 56, 3) := by decide +kernel
theorem dX6_isAlarm_27 : decode cX6_isAlarm 27 = .ok (.iload 5, 2) := by decide +kernel
theorem dX6_isAlarm_29 : decode cX6_isAlarm 29 = .ok (.iaload, 1) := by decide +kernel
theorem dX6_isAlarm_30 : decode cX6_isAlarm 30 = .ok (.iload_n 1, 1) := by decide +kernel
theorem dX6_isAlarm_31 : decode cX6_isAlarm 31 = .ok (.if_icmp .ne 18, 3) := by decide +kernel
theorem dX6_isAlarm_34 : decode cX6_isAlarm 34 = .ok (.iload 4, 2) := by decide +kernel
theorem dX6_isAlarm_36 : decode cX6_isAlarm 36 = .ok (.aload_n 0, 1) := by decide +kernel
theorem dX6_isAlarm_37 : decode cX6_isAlarm 37 = .ok (.getfield 62, 3) := by decide +kernel
theorem dX6_isAlarm_40 : decode cX6_isAlarm 40 = .ok (.iload 5, 2) := by decide +kernel
theorem dX6_isAlarm_42 : decode cX6_isAlarm 42 = .ok (.iaload, 1) := by decide +kernel
theorem dX6_isAlarm_43 : decode cX6_isAlarm 43 = .ok (.iadd, 1) := by decide +kernel
theorem dX6_isAlarm_44 : decode cX6_isAlarm 44 = .ok (.istore 4, 2) := by decide +kernel
theorem dX6_isAlarm_46 : decode cX6_isAlarm 46 = .ok (.iinc 3 1, 3) := by decide +kernel
theorem dX6_isAlarm_49 : decode cX6_isAlarm 49 = .ok (.iinc 5 (-1), 3) := by decide +kernel
theorem dX6_isAlarm_52 : decode cX6_isAlarm 52 = .ok (.goto (-39), 3) := by decide +kernel
theorem dX6_isAlarm_55 : decode cX6_isAlarm 55 = .ok (.iload_n 3, 1) := by decide +kernel
theorem dX6_isAlarm_56 : decode cX6_isAlarm 56 = .ok (.iconst 3, 1) := by decide +kernel
theorem dX6_isAlarm_57 : decode cX6_isAlarm 57 = .ok (.if_icmp .lt 21, 3) := by decide +kernel
theorem dX6_isAlarm_60 : decode cX6_isAlarm 60 = .ok (.bipush 10, 2) := by decide +kernel
theorem dX6_isAlarm_62 : decode cX6_isAlarm 62 = .ok (.iload_n 2, 1) := by decide +kernel
theorem dX6_isAlarm_63 : decode cX6_isAlarm 63 = .ok (.imul, 1) := by decide +kernel
theorem dX6_isAlarm_64 : decode cX6_isAlarm 64 = .ok (.iload_n 3, 1) := by decide +kernel
theorem dX6_isAlarm_65 : decode cX6_isAlarm 65 = .ok (.imul, 1) := by decide +kernel
theorem dX6_isAlarm_66 : decode cX6_isAlarm 66 = .ok (.bipush 12, 2) := by decide +kernel
theorem dX6_isAlarm_68 : decode cX6_isAlarm 68 = .ok (.iload 4, 2) := by decide +kernel
theorem dX6_isAlarm_70 : decode cX6_isAlarm 70 = .ok (.imul, 1) := by decide +kernel
theorem dX6_isAlarm_71 : decode cX6_isAlarm 71 = .ok (.if_icmp .le 7, 3) := by decide +kernel
theorem dX6_isAlarm_74 : decode cX6_isAlarm 74 = .ok (.iconst 1, 1) := by decide +kernel
theorem dX6_isAlarm_75 : decode cX6_isAlarm 75 = .ok (.goto 4, 3) := by decide +kernel
theorem dX6_isAlarm_78 : decode cX6_isAlarm 78 = .ok (.iconst 0, 1) := by decide +kernel
theorem dX6_isAlarm_79 : decode cX6_isAlarm 79 = .ok (.ireturn, 1) := by decide +kernel
theorem dX6_come_0 : decode cX6_come 0 = .ok (.aload_n 0, 1) := by decide +kernel
theorem dX6_come_1 : decode cX6_come 1 = .ok (.iconst 0, 1) := by decide +kernel
theorem dX6_come_2 : decode cX6_come 2 = .ok (.putfield 97, 3) := by decide +kernel
theorem dX6_come_5 : decode cX6_come 5 = .ok (.aload_n 0, 1) := by decide +kernel
theorem dX6_come_6 : decode cX6_come 6 = .ok (.iload_n 1, 1) := by decide +kernel
theorem dX6_come_7 : decode cX6_come 7 = .ok (.invokevirtual 159, 3) := by decide +kernel
theorem dX6_come_10 : decode cX6_come 10 = .ok (.ifCond .eq 5, 3) := by decide +kernel
theorem dX6_come_13 : decode cX6_come 13 = .ok (.iconst (-1), 1) := by decide +kernel
theorem dX6_come_14 : decode cX6_come 14 = .ok (.ireturn, 1) := by decide +kernel
theorem dX6_come_15 : decode cX6_come 15 = .ok (.iload_n 2, 1) := by decide +kernel
theorem dX6_come_16 : decode cX6_come 16 = .ok (.i2l, 1) := by decide +kernel
theorem dX6_come_17 : decode cX6_come 17 = .ok (.lconst 0, 1) := by decide +kernel
theorem dX6_come_18 : decode cX6_come 18 = .ok (.ldc2_w 187, 3) := by decide +kernel
theorem dX6_come_21 : decode cX6_come 21 = .ok (.invokestatic 103, 3) := by decide +kernel
theorem dX6_come_24 : decode cX6_come 24 = .ok (.ifCond .ne 6, 3) := by decide +kernel
theorem dX6_come_27 : decode cX6_come 27 = .ok (.bipush (-2), 2) := by decide +kernel
theorem dX6_come_29 : decode cX6_come 29 = .ok (.ireturn, 1) := by decide +kernel
theorem dX6_come_30 : decode cX6_come 30 = .ok (.aload_n 0, 1) := by decide +kernel
theorem dX6_come_31 : decode cX6_come 31 = .ok (.invokevirtual 189, 3) := by decide +kernel
theorem dX6_come_34 : decode cX6_come 34 = .ok (.iload_n 1, 1) := by decide +kernel
theorem dX6_come_35 : decode cX6_come 35 = .ok (.if_icmp .eq 13, 3) := by decide +kernel
theorem dX6_come_38 : decode cX6_come 38 = .ok (.aload_n 0, 1) := by decide +kernel
theorem dX6_come_39 : decode cX6_come 39 = .ok (.iload_n 1, 1) := by decide +kernel
theorem dX6_come_40 : decode cX6_come 40 = .ok (.invokevirtual 172, 3) := by decide +kernel
theorem dX6_come_43 : decode cX6_come 43 = .ok (.bipush (-9), 2) := by decide +kernel
theorem dX6_come_45 : decode cX6_come 45 = .ok (.if_icmp .eq 6, 3) := by decide +kernel
theorem dX6_come_48 : decode cX6_come 48 = .ok (.bipush (-3), 2) := by decide +kernel
theorem dX6_come_50 : decode cX6_come 50 = .ok (.ireturn, 1) := by decide +kernel
theorem dX6_come_51 : decode cX6_come 51 = .ok (.aload_n 0, 1) := by decide +kernel
theorem dX6_come_52 : decode cX6_come 52 = .ok (.getfield 184, 3) := by decide +kernel
theorem dX6_come_55 : decode cX6_come 55 = .ok (.sipush 500, 3) := by decide +kernel
theorem dX6_come_58 : decode cX6_come 58 = .ok (.if_icmp .ne 6, 3) := by decide +kernel
theorem dX6_come_61 : decode cX6_come 61 = .ok (.bipush (-4), 2) := by decide +kernel
theorem dX6_come_63 : decode cX6_come 63 = .ok (.ireturn, 1) := by decide +kernel
theorem dX6_come_64 : decode cX6_come 64 = .ok (.aload_n 0, 1) := by decide +kernel
theorem dX6_come_65 : decode cX6_come 65 = .ok (.getfield 184, 3) := by decide +kernel
theorem dX6_come_68 : decode cX6_come 68 = .ok (.istore_n 3, 1) := by decide +kernel
theorem dX6_come_69 : decode cX6_come 69 = .ok (.aload_n 0, 1) := by decide +kernel
theorem dX6_come_70 : decode cX6_come 70 = .ok (.getfield 65, 3) := by decide +kernel
theorem dX6_come_73 : decode cX6_come 73 = .ok (.iload_n 3, 1) := by decide +kernel
theorem dX6_come_74 : decode cX6_come 74 = .ok (.aload_n 0, 1) := by decide +kernel
theorem dX6_come_75 : decode cX6_come 75 = .ok (.iload_n 1, 1) := by decide +kernel
theorem dX6_come_76 : decode cX6_come 76 = .ok (.iload_n 2, 1) := by decide +kernel
theorem dX6_come_77 : decode cX6_come 77 = .ok (.invokevirtual 193, 3) := by decide +kernel
theorem dX6_come_80 : decode cX6_come 80 = .ok (.bastore, 1) := by decide +kernel
theorem dX6_come_81 : decode cX6_come 81 = .ok (.aload_n 0, 1) := by decide +kernel
theorem dX6_come_82 : decode cX6_come 82 = .ok (.getfield 56, 3) := by decide +kernel
theorem dX6_come_85 : decode cX6_come 85 = .ok (.iload_n 3, 1) := by decide +kernel
theorem dX6_come_86 : decode cX6_come 86 = .ok (.iload_n 1, 1) := by decide +kernel
theorem dX6_come_87 : decode cX6_come 87 = .ok (.iastore, 1) := by decide +kernel
theorem dX6_come_88 : decode cX6_come 88 = .ok (.aload_n 0, 1) := by decide +kernel
theorem dX6_come_89 : decode cX6_come 89 = .ok (.getfield 59, 3) := by decide +kernel
theorem dX6_come_92 : decode cX6_come 92 = .ok (.iload_n 3, 1) := by decide +kernel
theorem dX6_come_93 : decode cX6_come 93 = .ok (.aload_n 0, 1) := by decide +kernel
theorem dX6_come_94 : decode cX6_come 94 = .ok (.getfield 107, 3) := by decide +kernel
theorem dX6_come_97 : decode cX6_come 97 = .ok (.iastore, 1) := by decide +kernel
theorem dX6_come_98 : decode cX6_come 98 = .ok (.aload_n 0, 1) := by decide +kernel
theorem dX6_come_99 : decode cX6_come 99 = .ok (.getfield 62, 3) := by decide +kernel
theorem dX6_come_102 : decode cX6_come 102 = .ok (.iload_n 3, 1) := by decide +kernel
theorem dX6_come_103 : decode cX6_come 103 = .ok (.iload_n 2, 1) := by decide +kernel
theorem dX6_come_104 : decode cX6_come 104 = .ok (.iastore, 1) := by decide +kernel
theorem dX6_come_105 : decode cX6_come 105 = .ok (.aload_n 0, 1) := by decide +kernel
theorem dX6_come_106 : decode cX6_come 106 = .ok (.getfield 53, 3) := by decide +kernel
theorem dX6_come_109 : decode cX6_come 109 = .ok (.iload_n 3, 1) := by decide +kernel
theorem dX6_come_110 : decode cX6_come 110 = .ok (.aload_n 0, 1) := by decide +kernel
theorem dX6_come_111 : decode cX6_come 111 = .ok (.iload_n 1, 1) := by decide +kernel
theorem dX6_come_112 : decode cX6_come 112 = .ok (.invokevirtual 169, 3) := by decide +kernel
theorem dX6_come_115 : decode cX6_come 115 = .ok (.ifCond .eq 7, 3) := by decide +kernel
theorem dX6_come_118 : decode cX6_come 118 = .ok (.iconst 1, 1) := by decide +kernel
theorem dX6_come_119 : decode cX6_come 119 = .ok (.goto 4, 3) := by decide +kernel
theorem dX6_come_122 : decode cX6_come 122 = .ok (.iconst 0, 1) := by decide +kernel
theorem dX6_come_123 : decode cX6_come 123 = .ok (.iastore, 1) := by decide +kernel
theorem dX6_come_124 : decode cX6_come 124 = .ok (.aload_n 0, 1) := by decide +kernel
theorem dX6_come_125 : decode cX6_come 125 = .ok (.getfield 69, 3) := by decide +kernel
theorem dX6_come_128 : decode cX6_come 128 = .ok (.iload_n 3, 1) := by decide +kernel
theorem dX6_come_129 : decode cX6_come 129 = .ok (.bipush (-9), 2) := by decide +kernel
theorem dX6_come_131 : decode cX6_come 131 = .ok (.iastore, 1) := by decide +kernel
theorem dX6_come_132 : decode cX6_come 132 = .ok (.aload_n 0, 1) := by decide +kernel
theorem dX6_come_133 : decode cX6_come 133 = .ok (.getfield 72, 3) := by decide +kernel
theorem dX6_come_136 : decode cX6_come 136 = .ok (.iload_n 3, 1) := by decide +kernel
theorem dX6_come_137 : decode cX6_come 137 = .ok (.bipush (-9), 2) := by decide +kernel
theorem dX6_come_139 : decode cX6_come 139 = .ok (.iastore, 1) := by decide +kernel
theorem dX6_come_140 : decode cX6_come 140 = .ok (.aload_n 0, 1) := by decide +kernel
theorem dX6_come_141 : decode cX6_come 141 = .ok (.getfield 75, 3) := by decide +kernel
theorem dX6_come_144 : decode cX6_come 144 = .ok (.iload_n 3, 1) := by decide +kernel
theorem dX6_come_145 : decode cX6_come 145 = .ok (.bipush (-9), 2) := by decide +kernel
theorem dX6_come_147 : decode cX6_come 147 = .ok (.iastore, 1) := by decide +kernel
theorem dX6_come_148 : decode cX6_come 148 = .ok (.aload_n 0, 1) := by decide +kernel
theorem dX6_come_149 : decode cX6_come 149 = .ok (.getfield 78, 3) := by decide +kernel
theorem dX6_come_152 : decode cX6_come 152 = .ok (.iload_n 3, 1) := by decide +kernel
theorem dX6_come_153 : decode cX6_come 153 = .ok (.bipush (-9), 2) := by decide +kernel
theorem dX6_come_155 : decode cX6_come 155 = .ok (.iastore, 1) := by decide +kernel
theorem dX6_come_156 : decode cX6_come 156 = .ok (.aload_n 0, 1) := by decide +kernel
theorem dX6_come_157 : decode cX6_come 157 = .ok (.getfield 81, 3) := by decide +kernel
theorem dX6_come_160 : decode cX6_come 160 = .ok (.iload_n 3, 1) := by decide +kernel
theorem dX6_come_161 : decode cX6_come 161 = .ok (.bipush (-9), 2) := by decide +kernel
theorem dX6_come_163 : decode cX6_come 163 = .ok (.iastore, 1) := by decide +kernel
theorem dX6_come_164 : decode cX6_come 164 = .ok (.aload_n 0, 1) := by decide +kernel
theorem dX6_come_165 : decode cX6_come 165 = .ok (.getfield 84, 3) := by decide +kernel
theorem dX6_come_168 : decode cX6_come 168 = .ok (.iload_n 3, 1) := by decide +kernel
theorem dX6_come_169 : decode cX6_come 169 = .ok (.bipush (-9), 2) := by decide +kernel
theorem dX6_come_171 : decode cX6_come 171 = .ok (.iastore, 1) := by decide +kernel
theorem dX6_come_172 : decode cX6_come 172 = .ok (.aload_n 0, 1) := by decide +kernel
theorem dX6_come_173 : decode cX6_come 173 = .ok (.dup, 1) := by decide +kernel
theorem dX6_come_174 : decode cX6_come 174 = .ok (.getfield 184, 3) := by decide +kernel
theorem dX6_come_177 : decode cX6_come 177 = .ok (.iconst 1, 1) := by decide +kernel
theorem dX6_come_178 : decode cX6_come 178 = .ok (.iadd, 1) := by decide +kernel
theorem dX6_come_179 : decode cX6_come 179 = .ok (.putfield 184, 3) := by decide +kernel
theorem dX6_come_182 : decode cX6_come 182 = .ok (.aload_n 0, 1) := by decide +kernel
theorem dX6_come_183 : decode cX6_come 183 = .ok (.getfield 50, 3) := by decide +kernel
theorem dX6_come_186 : decode cX6_come 186 = .ok (.iload_n 1, 1) := by decide +kernel
theorem dX6_come_187 : decode cX6_come 187 = .ok (.dup2, 1) := by decide +kernel
theorem dX6_come_188 : decode cX6_come 188 = .ok (.iaload, 1) := by decide +kernel
theorem dX6_come_189 : decode cX6_come 189 = .ok (.iconst 1, 1) := by decide +kernel
theorem dX6_come_190 : decode cX6_come 190 = .ok (.iadd, 1) := by decide +kernel
theorem dX6_come_191 : decode cX6_come 191 = .ok (.iastore, 1) := by decide +kernel
theorem dX6_come_192 : decode cX6_come 192 = .ok (.aload_n 0, 1) := by decide +kernel
theorem dX6_come_193 : decode cX6_come 193 = .ok (.getfield 53, 3) := by decide +kernel
theorem dX6_come_196 : decode cX6_come 196 = .ok (.iload_n 3, 1) := by decide +kernel
theorem dX6_come_197 : decode cX6_come 197 = .ok (.iaload, 1) := by decide +kernel
theorem dX6_come_198 : decode cX6_come 198 = .ok (.iconst 1, 1) := by decide +kernel
theorem dX6_come_199 : decode cX6_come 199 = .ok (.if_icmp .ne 27, 3) := by decide +kernel
theorem dX6_come_202 : decode cX6_come 202 = .ok (.aload_n 0, 1) := by decide +kernel
theorem dX6_come_203 : decode cX6_come 203 = .ok (.getfield 87, 3) := by decide +kernel
theorem dX6_come_206 : decode cX6_come 206 = .ok (.aload_n 0, 1) := by decide +kernel
theorem dX6_come_207 : decode cX6_come 207 = .ok (.getfield 110, 3) := by decide +kernel
theorem dX6_come_210 : decode cX6_come 210 = .ok (.iload_n 3, 1) := by decide +kernel
theorem dX6_come_211 : decode cX6_come 211 = .ok (.iastore, 1) := by decide +kernel
theorem dX6_come_212 : decode cX6_come 212 = .ok (.aload_n 0, 1) := by decide +kernel
theorem dX6_come_213 : decode cX6_come 213 = .ok (.dup, 1) := by decide +kernel
theorem dX6_come_214 : decode cX6_come 214 = .ok (.getfield 110, 3) := by decide +kernel
theorem dX6_come_217 : decode cX6_come 217 = .ok (.iconst 1, 1) := by decide +kernel
theorem dX6_come_218 : decode cX6_come 218 = .ok (.iadd, 1) := by decide +kernel
theorem dX6_come_219 : decode cX6_come 219 = .ok (.putfield 110, 3) := by decide +kernel
theorem dX6_come_222 : decode cX6_come 222 = .ok (.aload_n 0, 1) := by decide +kernel
theorem dX6_come_223 : decode cX6_come 223 = .ok (.invokevirtual 181, 3) := by decide +kernel
theorem dX6_come_226 : decode cX6_come 226 = .ok (.iload_n 3, 1) := by decide +kernel
theorem dX6_come_227 : decode cX6_come 227 = .ok (.ireturn, 1) := by decide +kernel
theorem dX6_power_0 : decode cX6_power 0 = .ok (.aload_n 0, 1) := by decide +kernel
theorem dX6_power_1 : decode cX6_power 1 = .ok (.iconst 0, 1) := by decide +kernel
theorem dX6_power_2 : decode cX6_power 2 = .ok (.putfield 97, 3) := by decide +kernel
theorem dX6_power_5 : decode cX6_power 5 = .ok (.aload_n 0, 1) := by decide +kernel
theorem dX6_power_6 : decode cX6_power 6 = .ok (.getfield 7, 3) := by decide +kernel
theorem dX6_power_9 : decode cX6_power 9 = .ok (.ifCond .eq 7, 3) := by decide +kernel
theorem dX6_power_12 : decode cX6_power 12 = .ok (.iconst 1, 1) := by decide +kernel
theorem dX6_power_13 : decode cX6_power 13 = .ok (.goto 4, 3) := by decide +kernel
theorem dX6_power_16 : decode cX6_power 16 = .ok (.iconst 0, 1) := by decide +kernel
theorem dX6_power_17 : decode cX6_power 17 = .ok (.istore_n 2, 1) := by decide +kernel
theorem dX6_power_18 : decode cX6_power 18 = .ok (.aload_n 0, 1) := by decide +kernel
theorem dX6_power_19 : decode cX6_power 19 = .ok (.iload_n 1, 1) := by decide +kernel
theorem dX6_power_20 : decode cX6_power 20 = .ok (.putfield 7, 3) := by decide +kernel
theorem dX6_power_23 : decode cX6_power 23 = .ok (.iload_n 1, 1) := by decide +kernel
theorem dX6_power_24 : decode cX6_power 24 = .ok (.ifCond .ne 78, 3) := by decide +kernel
theorem dX6_power_27 : decode cX6_power 27 = .ok (.aload_n 0, 1) := by decide +kernel
theorem dX6_power_28 : decode cX6_power 28 = .ok (.getfield 90, 3) := by decide +kernel
theorem dX6_power_31 : decode cX6_power 31 = .ok (.bipush (-9), 2) := by decide +kernel
theorem dX6_power_33 : decode cX6_power 33 = .ok (.if_icmp .eq 69, 3) := by decide +kernel
theorem dX6_power_36 : decode cX6_power 36 = .ok (.aload_n 0, 1) := by decide +kernel
theorem dX6_power_37 : decode cX6_power 37 = .ok (.getfield 107, 3) := by decide +kernel
theorem dX6_power_40 : decode cX6_power 40 = .ok (.aload_n 0, 1) := by decide +kernel
theorem dX6_power_41 : decode cX6_power 41 = .ok (.getfield 69, 3) := by decide +kernel
theorem dX6_power_44 : decode cX6_power 44 = .ok (.aload_n 0, 1) := by decide +kernel
theorem dX6_power_45 : decode cX6_power 45 = .ok (.getfield 90, 3) := by decide +kernel
theorem dX6_power_48 : decode cX6_power 48 = .ok (.iaload, 1) := by decide +kernel
theorem dX6_power_49 : decode cX6_power 49 = .ok (.isub, 1) := by decide +kernel
theorem dX6_power_50 : decode cX6_power 50 = .ok (.aload_n 0, 1) := by decide +kernel
theorem dX6_power_51 : decode cX6_power 51 = .ok (.getfield 127, 3) := by decide +kernel
theorem dX6_power_54 : decode cX6_power 54 = .ok (.isub, 1) := by decide +kernel
theorem dX6_power_55 : decode cX6_power 55 = .ok (.istore_n 3, 1) := by decide +kernel
theorem dX6_power_56 : decode cX6_power 56 = .ok (.iload_n 3, 1) := by decide +kernel
theorem dX6_power_57 : decode cX6_power 57 = .ok (.ifCond .le 10, 3) := by decide +kernel
theorem dX6_power_60 : decode cX6_power 60 = .ok (.bipush 20, 2) := by decide +kernel
theorem dX6_power_62 : decode cX6_power 62 = .ok (.iload_n 3, 1) := by decide +kernel
theorem dX6_power_63 : decode cX6_power 63 = .ok (.imul, 1) := by decide +kernel
theorem dX6_power_64 : decode cX6_power 64 = .ok (.goto 4, 3) := by decide +kernel
theorem dX6_power_67 : decode cX6_power 67 = .ok (.iconst 0, 1) := by decide +kernel
theorem dX6_power_68 : decode cX6_power 68 = .ok (.istore 4, 2) := by decide +kernel
theorem dX6_power_70 : decode cX6_power 70 = .ok (.aload_n 0, 1) := by decide +kernel
theorem dX6_power_71 : decode cX6_power 71 = .ok (.getfield 53, 3) := by decide +kernel
theorem dX6_power_74 : decode cX6_power 74 = .ok (.aload_n 0, 1) := by decide +kernel
theorem dX6_power_75 : decode cX6_power 75 = .ok (.getfield 90, 3) := by decide +kernel
theorem dX6_power_78 : decode cX6_power 78 = .ok (.iconst 2, 1) := by decide +kernel
theorem dX6_power_79 : decode cX6_power 79 = .ok (.iastore, 1) := by decide +kernel
theorem dX6_power_80 : decode cX6_power 80 = .ok (.aload_n 0, 1) := by decide +kernel
theorem dX6_power_81 : decode cX6_power 81 = .ok (.iload 4, 2) := by decide +kernel
theorem dX6_power_83 : decode cX6_power 83 = .ok (.aload_n 0, 1) := by decide +kernel
theorem dX6_power_84 : decode cX6_power 84 = .ok (.getfield 124, 3) := by decide +kernel
theorem dX6_power_87 : decode cX6_power 87 = .ok (.if_icmp .ge 8, 3) := by decide +kernel
theorem dX6_power_90 : decode cX6_power 90 = .ok (.iload 4, 2) := by decide +kernel
theorem dX6_power_92 : decode cX6_power 92 = .ok (.goto 7, 3) := by decide +kernel
theorem dX6_power_95 : decode cX6_power 95 = .ok (.aload_n 0, 1) := by decide +kernel
theorem dX6_power_96 : decode cX6_power 96 = .ok (.getfield 124, 3) := by decide +kernel
theorem dX6_power_99 : decode cX6_power 99 = .ok (.invokevirtual 178, 3) := by decide +kernel
theorem dX6_power_102 : decode cX6_power 102 = .ok (.aload_n 0, 1) := by decide +kernel
theorem dX6_power_103 : decode cX6_power 103 = .ok (.invokevirtual 181, 3) := by decide +kernel
theorem dX6_power_106 : decode cX6_power 106 = .ok (.iload_n 2, 1) := by decide +kernel
theorem dX6_power_107 : decode cX6_power 107 = .ok (.ireturn, 1) := by decide +kernel
theorem dX6_box_0 : decode cX6_box 0 = .ok (.aload_n 0, 1) := by decide +kernel
theorem dX6_box_1 : decode cX6_box 1 = .ok (.iconst 0, 1) := by decide +kernel
theorem dX6_box_2 : decode cX6_box 2 = .ok (.putfield 97, 3) := by decide +kernel
theorem dX6_box_5 : decode cX6_box 5 = .ok (.aload_n 0, 1) := by decide +kernel
theorem dX6_box_6 : decode cX6_box 6 = .ok (.invokevirtual 189, 3) := by decide +kernel
theorem dX6_box_9 : decode cX6_box 9 = .ok (.ireturn, 1) := by decide +kernel
theorem dX6_queue_0 : decode cX6_queue 0 = .ok (.aload_n 0, 1) := by decide +kernel
theorem dX6_queue_1 : decode cX6_queue 1 = .ok (.iconst 0, 1) := by decide +kernel
theorem dX6_queue_2 : decode cX6_queue 2 = .ok (.putfield 97, 3) := by decide +kernel
theorem dX6_queue_5 : decode cX6_queue 5 = .ok (.iload_n 1, 1) := by decide +kernel
theorem dX6_queue_6 : decode cX6_queue 6 = .ok (.i2l, 1) := by decide +kernel
theorem dX6_queue_7 : decode cX6_queue 7 = .ok (.lconst 0, 1) := by decide +kernel
theorem dX6_queue_8 : decode cX6_queue 8 = .ok (.aload_n 0, 1) := by decide +kernel
theorem dX6_queue_9 : decode cX6_queue 9 = .ok (.getfield 110, 3) := by decide +kernel
theorem dX6_queue_12 : decode cX6_queue 12 = .ok (.iconst 1, 1) := by decide +kernel
theorem dX6_queue_13 : decode cX6_queue 13 = .ok (.isub, 1) := by decide +kernel
theorem dX6_queue_14 : decode cX6_queue 14 = .ok (.i2l, 1) := by decide +kernel
theorem dX6_queue_15 : decode cX6_queue 15 = .ok (.invokestatic 103, 3) := by decide +kernel
theorem dX6_queue_18 : decode cX6_queue 18 = .ok (.ifCond .eq 17, 3) := by decide +kernel
theorem dX6_queue_21 : decode cX6_queue 21 = .ok (.aload_n 0, 1) := by decide +kernel
theorem dX6_queue_22 : decode cX6_queue 22 = .ok (.getfield 56, 3) := by decide +kernel
theorem dX6_queue_25 : decode cX6_queue 25 = .ok (.aload_n 0, 1) := by decide +kernel
theorem dX6_queue_26 : decode cX6_queue 26 = .ok (.getfield 87, 3) := by decide +kernel
theorem dX6_queue_29 : decode cX6_queue 29 = .ok (.iload_n 1, 1) := by decide +kernel
theorem dX6_queue_30 : decode cX6_queue 30 = .ok (.iaload, 1) := by decide +kernel
theorem dX6_queue_31 : decode cX6_queue 31 = .ok (.iaload, 1) := by decide +kernel
theorem dX6_queue_32 : decode cX6_queue 32 = .ok (.goto 5, 3) := by decide +kernel
theorem dX6_queue_35 : decode cX6_queue 35 = .ok (.bipush (-9), 2) := by decide +kernel
theorem dX6_queue_37 : decode cX6_queue 37 = .ok (.ireturn, 1) := by decide +kernel
theorem dX6_ends_0 : decode cX6_ends 0 = .ok (.aload_n 0, 1) := by decide +kernel
theorem dX6_ends_1 : decode cX6_ends 1 = .ok (.iconst 0, 1) := by decide +kernel
theorem dX6_ends_2 : decode cX6_ends 2 = .ok (.putfield 97, 3) := by decide +kernel
theorem dX6_ends_5 : decode cX6_ends 5 = .ok (.aload_n 0, 1) := by decide +kernel
theorem dX6_ends_6 : decode cX6_ends 6 = .ok (.getfield 90, 3) := by decide +kernel
theorem dX6_ends_9 : decode cX6_ends 9 = .ok (.bipush (-9), 2) := by decide +kernel
theorem dX6_ends_11 : decode cX6_ends 11 = .ok (.if_icmp .ne 8, 3) := by decide +kernel
theorem dX6_ends_14 : decode cX6_ends 14 = .ok (.bipush (-9), 2) := by decide +kernel
theorem dX6_ends_16 : decode cX6_ends 16 = .ok (.goto 7, 3) := by decide +kernel
theorem dX6_ends_19 : decode cX6_ends 19 = .ok (.aload_n 0, 1) := by decide +kernel
theorem dX6_ends_20 : decode cX6_ends 20 = .ok (.getfield 130, 3) := by decide +kernel
theorem dX6_ends_23 : decode cX6_ends 23 = .ok (.ireturn, 1) := by decide +kernel
theorem dX6_room_0 : decode cX6_room 0 = .ok (.aload_n 0, 1) := by decide +kernel
theorem dX6_room_1 : decode cX6_room 1 = .ok (.iconst 0, 1) := by decide +kernel
theorem dX6_room_2 : decode cX6_room 2 = .ok (.putfield 97, 3) := by decide +kernel
theorem dX6_room_5 : decode cX6_room 5 = .ok (.iload_n 1, 1) := by decide +kernel
theorem dX6_room_6 : decode cX6_room 6 = .ok (.i2l, 1) := by decide +kernel
theorem dX6_room_7 : decode cX6_room 7 = .ok (.lconst 1, 1) := by decide +kernel
theorem dX6_room_8 : decode cX6_room 8 = .ok (.ldc2_w 197, 3) := by decide +kernel
theorem dX6_room_11 : decode cX6_room 11 = .ok (.invokestatic 103, 3) := by decide +kernel
theorem dX6_room_14 : decode cX6_room 14 = .ok (.ifCond .ne 6, 3) := by decide +kernel
theorem dX6_room_17 : decode cX6_room 17 = .ok (.bipush (-2), 2) := by decide +kernel
theorem dX6_room_19 : decode cX6_room 19 = .ok (.ireturn, 1) := by decide +kernel
theorem dX6_room_20 : decode cX6_room 20 = .ok (.aload_n 0, 1) := by decide +kernel
theorem dX6_room_21 : decode cX6_room 21 = .ok (.getfield 133, 3) := by decide +kernel
theorem dX6_room_24 : decode cX6_room 24 = .ok (.iload_n 1, 1) := by decide +kernel
theorem dX6_room_25 : decode cX6_room 25 = .ok (.if_icmp .le 6, 3) := by decide +kernel
theorem dX6_room_28 : decode cX6_room 28 = .ok (.bipush (-3), 2) := by decide +kernel
theorem dX6_room_30 : decode cX6_room 30 = .ok (.ireturn, 1) := by decide +kernel
theorem dX6_room_31 : decode cX6_room 31 = .ok (.aload_n 0, 1) := by decide +kernel
theorem dX6_room_32 : decode cX6_room 32 = .ok (.getfield 94, 3) := by decide +kernel
theorem dX6_room_35 : decode cX6_room 35 = .ok (.istore_n 2, 1) := by decide +kernel
theorem dX6_room_36 : decode cX6_room 36 = .ok (.aload_n 0, 1) := by decide +kernel
theorem dX6_room_37 : decode cX6_room 37 = .ok (.iload_n 1, 1) := by decide +kernel
theorem dX6_room_38 : decode cX6_room 38 = .ok (.putfield 94, 3) := by decide +kernel
theorem dX6_room_41 : decode cX6_room 41 = .ok (.iload_n 2, 1) := by decide +kernel
theorem dX6_room_42 : decode cX6_room 42 = .ok (.ireturn, 1) := by decide +kernel
theorem dX6_pick_0 : decode cX6_pick 0 = .ok (.aload_n 0, 1) := by decide +kernel
theorem dX6_pick_1 : decode cX6_pick 1 = .ok (.iconst 0, 1) := by decide +kernel
theorem dX6_pick_2 : decode cX6_pick 2 = .ok (.putfield 97, 3) := by decide +kernel
theorem dX6_pick_5 : decode cX6_pick 5 = .ok (.iload_n 1, 1) := by decide +kernel
theorem dX6_pick_6 : decode cX6_pick 6 = .ok (.i2l, 1) := by decide +kernel
theorem dX6_pick_7 : decode cX6_pick 7 = .ok (.lconst 1, 1) := by decide +kernel
theorem dX6_pick_8 : decode cX6_pick 8 = .ok (.ldc2_w 197, 3) := by decide +kernel
theorem dX6_pick_11 : decode cX6_pick 11 = .ok (.invokestatic 103, 3) := by decide +kernel
theorem dX6_pick_14 : decode cX6_pick 14 = .ok (.ifCond .ne 6, 3) := by decide +kernel
theorem dX6_pick_17 : decode cX6_pick 17 = .ok (.bipush (-2), 2) := by decide +kernel
theorem dX6_pick_19 : decode cX6_pick 19 = .ok (.ireturn, 1) := by decide +kernel
theorem dX6_pick_20 : decode cX6_pick 20 = .ok (.iload_n 1, 1) := by decide +kernel
theorem dX6_pick_21 : decode cX6_pick 21 = .ok (.aload_n 0, 1) := by decide +kernel
theorem dX6_pick_22 : decode cX6_pick 22 = .ok (.getfield 133, 3) := by decide +kernel
theorem dX6_pick_25 : decode cX6_pick 25 = .ok (.if_icmp .ge 7, 3) := by decide +kernel
theorem dX6_pick_28 : decode cX6_pick 28 = .ok (.iload_n 1, 1) := by decide +kernel
theorem dX6_pick_29 : decode cX6_pick 29 = .ok (.goto 7, 3) := by decide +kernel
theorem dX6_pick_32 : decode cX6_pick 32 = .ok (.aload_n 0, 1) := by decide +kernel
theorem dX6_pick_33 : decode cX6_pick 33 = .ok (.getfield 133, 3) := by decide +kernel
theorem dX6_pick_36 : decode cX6_pick 36 = .ok (.istore_n 2, 1) := by decide +kernel
theorem dX6_pick_37 : decode cX6_pick 37 = .ok (.aload_n 0, 1) := by decide +kernel
theorem dX6_pick_38 : decode cX6_pick 38 = .ok (.dup, 1) := by decide +kernel
theorem dX6_pick_39 : decode cX6_pick 39 = .ok (.getfield 133, 3) := by decide +kernel
theorem dX6_pick_42 : decode cX6_pick 42 = .ok (.iload_n 2, 1) := by decide +kernel
theorem dX6_pick_43 : decode cX6_pick 43 = .ok (.isub, 1) := by decide +kernel
theorem dX6_pick_44 : decode cX6_pick 44 = .ok (.putfield 133, 3) := by decide +kernel
theorem dX6_pick_47 : decode cX6_pick 47 = .ok (.aload_n 0, 1) := by decide +kernel
theorem dX6_pick_48 : decode cX6_pick 48 = .ok (.dup, 1) := by decide +kernel
theorem dX6_pick_49 : decode cX6_pick 49 = .ok (.getfield 199, 3) := by decide +kernel
theorem dX6_pick_52 : decode cX6_pick 52 = .ok (.iload_n 2, 1) := by decide +kernel
theorem dX6_pick_53 : decode cX6_pick 53 = .ok (.iadd, 1) := by decide +kernel
theorem dX6_pick_54 : decode cX6_pick 54 = .ok (.putfield 199, 3) := by decide +kernel
theorem dX6_pick_57 : decode cX6_pick 57 = .ok (.iload_n 2, 1) := by decide +kernel
theorem dX6_pick_58 : decode cX6_pick 58 = .ok (.ireturn, 1) := by decide +kernel
theorem dX6_total_0 : decode cX6_total 0 = .ok (.aload_n 0, 1) := by decide +kernel
theorem dX6_total_1 : decode cX6_total 1 = .ok (.iconst 0, 1) := by decide +kernel
theorem dX6_total_2 : decode cX6_total 2 = .ok (.putfield 97, 3) := by decide +kernel
theorem dX6_total_5 : decode cX6_total 5 = .ok (.iconst 0, 1) := by decide +kernel
theorem dX6_total_6 : decode cX6_total 6 = .ok (.istore_n 2, 1) := by decide +kernel
theorem dX6_total_7 : decode cX6_total 7 = .ok (.iload_n 1, 1) := by decide +kernel
theorem dX6_total_8 : decode cX6_total 8 = .ok (.tableswitch 201 0 12 #[68, 73, 78, 83, 88, 93, 98, 103, 108, 113, 118, 153, 166], 68) := by decide +kernel
theorem dX6_total_76 : decode cX6_total 76 = .ok (.aload_n 0, 1) := by decide +kernel
theorem dX6_total_77 : decode cX6_total 77 = .ok (.getfield 133, 3) := by decide +kernel
theorem dX6_total_80 : decode cX6_total 80 = .ok (.ireturn, 1) := by decide +kernel
theorem dX6_total_81 : decode cX6_total 81 = .ok (.aload_n 0, 1) := by decide +kernel
theorem dX6_total_82 : decode cX6_total 82 = .ok (.getfield 136, 3) := by decide +kernel
theorem dX6_total_85 : decode cX6_total 85 = .ok (.ireturn, 1) := by decide +kernel
theorem dX6_total_86 : decode cX6_total 86 = .ok (.aload_n 0, 1) := by decide +kernel
theorem dX6_total_87 : decode cX6_total 87 = .ok (.getfield 139, 3) := by decide +kernel
theorem dX6_total_90 : decode cX6_total 90 = .ok (.ireturn, 1) := by decide +kernel
theorem dX6_total_91 : decode cX6_total 91 = .ok (.aload_n 0, 1) := by decide +kernel
theorem dX6_total_92 : decode cX6_total 92 = .ok (.getfield 199, 3) := by decide +kernel
theorem dX6_total_95 : decode cX6_total 95 = .ok (.ireturn, 1) := by decide +kernel
theorem dX6_total_96 : decode cX6_total 96 = .ok (.aload_n 0, 1) := by decide +kernel
theorem dX6_total_97 : decode cX6_total 97 = .ok (.getfield 148, 3) := by decide +kernel
theorem dX6_total_100 : decode cX6_total 100 = .ok (.ireturn, 1) := by decide +kernel
theorem dX6_total_101 : decode cX6_total 101 = .ok (.aload_n 0, 1) := by decide +kernel
theorem dX6_total_102 : decode cX6_total 102 = .ok (.getfield 145, 3) := by decide +kernel
theorem dX6_total_105 : decode cX6_total 105 = .ok (.ireturn, 1) := by decide +kernel
theorem dX6_total_106 : decode cX6_total 106 = .ok (.aload_n 0, 1) := by decide +kernel
theorem dX6_total_107 : decode cX6_total 107 = .ok (.getfield 107, 3) := by decide +kernel
theorem dX6_total_110 : decode cX6_total 110 = .ok (.ireturn, 1) := by decide +kernel
theorem dX6_total_111 : decode cX6_total 111 = .ok (.aload_n 0, 1) := by decide +kernel
theorem dX6_total_112 : decode cX6_total 112 = .ok (.getfield 100, 3) := by decide +kernel
theorem dX6_total_115 : decode cX6_total 115 = .ok (.ireturn, 1) := by decide +kernel
theorem dX6_total_116 : decode cX6_total 116 = .ok (.aload_n 0, 1) := by decide +kernel
theorem dX6_total_117 : decode cX6_total 117 = .ok (.getfield 184, 3) := by decide +kernel
theorem dX6_total_120 : decode cX6_total 120 = .ok (.ireturn, 1) := by decide +kernel
theorem dX6_total_121 : decode cX6_total 121 = .ok (.aload_n 0, 1) := by decide +kernel
theorem dX6_total_122 : decode cX6_total 122 = .ok (.getfield 110, 3) := by decide +kernel
theorem dX6_total_125 : decode cX6_total 125 = .ok (.ireturn, 1) := by decide +kernel
theorem dX6_total_126 : decode cX6_total 126 = .ok (.iconst 0, 1) := by decide +kernel
theorem dX6_total_127 : decode cX6_total 127 = .ok (.istore_n 3, 1) := by decide +kernel
theorem dX6_total_128 : decode cX6_total 128 = .ok (.iload_n 3, 1) := by decide +kernel
theorem dX6_total_129 : decode cX6_total 129 = .ok (.aload_n 0, 1) := by decide +kernel
theorem dX6_total_130 : decode cX6_total 130 = .ok (.getfield 184, 3) := by decide +kernel
theorem dX6_total_133 : decode cX6_total 133 = .ok (.if_icmp .ge 26, 3) := by decide +kernel
theorem dX6_total_136 : decode cX6_total 136 = .ok (.iload_n 2, 1) := by decide +kernel
theorem dX6_total_137 : decode cX6_total 137 = .ok (.aload_n 0, 1) := by decide +kernel
theorem dX6_total_138 : decode cX6_total 138 = .ok (.getfield 65, 3) := by decide +kernel
theorem dX6_total_141 : decode cX6_total 141 = .ok (.iload_n 3, 1) := by decide +kernel
theorem dX6_total_142 : decode cX6_total 142 = .ok (.baload, 1) := by decide +kernel
theorem dX6_total_143 : decode cX6_total 143 = .ok (.ifCond .eq 7, 3) := by decide +kernel
theorem dX6_total_146 : decode cX6_total 146 = .ok (.iconst 1, 1) := by decide +kernel
theorem dX6_total_147 : decode cX6_total 147 = .ok (.goto 4, 3) := by decide +kernel
theorem dX6_total_150 : decode cX6_total 150 = .ok (.iconst 0, 1) := by decide +kernel
theorem dX6_total_151 : decode cX6_total 151 = .ok (.iadd, 1) := by decide +kernel
theorem dX6_total_152 : decode cX6_total 152 = .ok (.istore_n 2, 1) := by decide +kernel
theorem dX6_total_153 : decode cX6_total 153 = .ok (.iinc 3 1, 3) := by decide +kernel
theorem dX6_total_156 : decode cX6_total 156 = .ok (.goto (-28), 3) := by decide +kernel
theorem dX6_total_159 : decode cX6_total 159 = .ok (.iload_n 2, 1) := by decide +kernel
theorem dX6_total_160 : decode cX6_total 160 = .ok (.ireturn, 1) := by decide +kernel
theorem dX6_total_161 : decode cX6_total 161 = .ok (.aload_n 0, 1) := by decide +kernel
theorem dX6_total_162 : decode cX6_total 162 = .ok (.getfield 7, 3) := by decide +kernel
theorem dX6_total_165 : decode cX6_total 165 = .ok (.ifCond .eq 7, 3) := by decide +kernel
theorem dX6_total_168 : decode cX6_total 168 = .ok (.iconst 1, 1) := by decide +kernel
theorem dX6_total_169 : decode cX6_total 169 = .ok (.goto 4, 3) := by decide +kernel
theorem dX6_total_172 : decode cX6_total 172 = .ok (.iconst 0, 1) := by decide +kernel
theorem dX6_total_173 : decode cX6_total 173 = .ok (.ireturn, 1) := by decide +kernel
theorem dX6_total_174 : decode cX6_total 174 = .ok (.iconst 0, 1) := by decide +kernel
theorem dX6_total_175 : decode cX6_total 175 = .ok (.istore_n 3, 1) := by decide +kernel
theorem dX6_total_176 : decode cX6_total 176 = .ok (.iload_n 3, 1) := by decide +kernel
theorem dX6_total_177 : decode cX6_total 177 = .ok (.aload_n 0, 1) := by decide +kernel
theorem dX6_total_178 : decode cX6_total 178 = .ok (.getfield 184, 3) := by decide +kernel
theorem dX6_total_181 : decode cX6_total 181 = .ok (.if_icmp .ge 26, 3) := by decide +kernel
theorem dX6_total_184 : decode cX6_total 184 = .ok (.iload_n 2, 1) := by decide +kernel
theorem dX6_total_185 : decode cX6_total 185 = .ok (.aload_n 0, 1) := by decide +kernel
theorem dX6_total_186 : decode cX6_total 186 = .ok (.getfield 53, 3) := by decide +kernel
theorem dX6_total_189 : decode cX6_total 189 = .ok (.iload_n 3, 1) := by decide +kernel
theorem dX6_total_190 : decode cX6_total 190 = .ok (.iaload, 1) := by decide +kernel
theorem dX6_total_191 : decode cX6_total 191 = .ok (.ifCond .ne 7, 3) := by decide +kernel
theorem dX6_total_194 : decode cX6_total 194 = .ok (.iconst 1, 1) := by decide +kernel
theorem dX6_total_195 : decode cX6_total 195 = .ok (.goto 4, 3) := by decide +kernel
theorem dX6_total_198 : decode cX6_total 198 = .ok (.iconst 0, 1) := by decide +kernel
theorem dX6_total_199 : decode cX6_total 199 = .ok (.iadd, 1) := by decide +kernel
theorem dX6_total_200 : decode cX6_total 200 = .ok (.istore_n 2, 1) := by decide +kernel
theorem dX6_total_201 : decode cX6_total 201 = .ok (.iinc 3 1, 3) := by decide +kernel
theorem dX6_total_204 : decode cX6_total 204 = .ok (.goto (-28), 3) := by decide +kernel
theorem dX6_total_207 : decode cX6_total 207 = .ok (.iload_n 2, 1) := by decide +kernel
theorem dX6_total_208 : decode cX6_total 208 = .ok (.ireturn, 1) := by decide +kernel
theorem dX6_total_209 : decode cX6_total 209 = .ok (.bipush (-2), 2) := by decide +kernel
theorem dX6_total_211 : decode cX6_total 211 = .ok (.ireturn, 1) := by decide +kernel
theorem dX6_visit_0 : decode cX6_visit 0 = .ok (.aload_n 0, 1) := by decide +kernel
theorem dX6_visit_1 : decode cX6_visit 1 = .ok (.iconst 0, 1) := by decide +kernel
theorem dX6_visit_2 : decode cX6_visit 2 = .ok (.putfield 97, 3) := by decide +kernel
theorem dX6_visit_5 : decode cX6_visit 5 = .ok (.iload_n 1, 1) := by decide +kernel
theorem dX6_visit_6 : decode cX6_visit 6 = .ok (.i2l, 1) := by decide +kernel
theorem dX6_visit_7 : decode cX6_visit 7 = .ok (.lconst 0, 1) := by decide +kernel
theorem dX6_visit_8 : decode cX6_visit 8 = .ok (.aload_n 0, 1) := by decide +kernel
theorem dX6_visit_9 : decode cX6_visit 9 = .ok (.getfield 184, 3) := by decide +kernel
theorem dX6_visit_12 : decode cX6_visit 12 = .ok (.iconst 1, 1) := by decide +kernel
theorem dX6_visit_13 : decode cX6_visit 13 = .ok (.isub, 1) := by decide +kernel
theorem dX6_visit_14 : decode cX6_visit 14 = .ok (.i2l, 1) := by decide +kernel
theorem dX6_visit_15 : decode cX6_visit 15 = .ok (.invokestatic 103, 3) := by decide +kernel
theorem dX6_visit_18 : decode cX6_visit 18 = .ok (.ifCond .ne 5, 3) := by decide +kernel
theorem dX6_visit_21 : decode cX6_visit 21 = .ok (.iconst (-1), 1) := by decide +kernel
theorem dX6_visit_22 : decode cX6_visit 22 = .ok (.ireturn, 1) := by decide +kernel
theorem dX6_visit_23 : decode cX6_visit 23 = .ok (.iload_n 2, 1) := by decide +kernel
theorem dX6_visit_24 : decode cX6_visit 24 = .ok (.i2l, 1) := by decide +kernel
theorem dX6_visit_25 : decode cX6_visit 25 = .ok (.lconst 0, 1) := by decide +kernel
theorem dX6_visit_26 : decode cX6_visit 26 = .ok (.ldc2_w 163, 3) := by decide +kernel
theorem dX6_visit_29 : decode cX6_visit 29 = .ok (.invokestatic 103, 3) := by decide +kernel
theorem dX6_visit_32 : decode cX6_visit 32 = .ok (.ifCond .eq 15, 3) := by decide +kernel
theorem dX6_visit_35 : decode cX6_visit 35 = .ok (.iload_n 3, 1) := by decide +kernel
theorem dX6_visit_36 : decode cX6_visit 36 = .ok (.i2l, 1) := by decide +kernel
theorem dX6_visit_37 : decode cX6_visit 37 = .ok (.lconst 0, 1) := by decide +kernel
theorem dX6_visit_38 : decode cX6_visit 38 = .ok (.ldc2_w 202, 3) := by decide +kernel
theorem dX6_visit_41 : decode cX6_visit 41 = .ok (.invokestatic 103, 3) := by decide +kernel
theorem dX6_visit_44 : decode cX6_visit 44 = .ok (.ifCond .ne 6, 3) := by decide +kernel
theorem dX6_visit_47 : decode cX6_visit 47 = .ok (.bipush (-2), 2) := by decide +kernel
theorem dX6_visit_49 : decode cX6_visit 49 = .ok (.ireturn, 1) := by decide +kernel
theorem dX6_visit_50 : decode cX6_visit 50 = .ok (.iload_n 2, 1) := by decide +kernel
theorem dX6_visit_51 : decode cX6_visit 51 = .ok (.iconst 3, 1) := by decide +kernel
theorem dX6_visit_52 : decode cX6_visit 52 = .ok (.if_icmp .ge 31, 3) := by decide +kernel
theorem dX6_visit_55 : decode cX6_visit 55 = .ok (.aload_n 0, 1) := by decide +kernel
theorem dX6_visit_56 : decode cX6_visit 56 = .ok (.getfield 53, 3) := by decide +kernel
theorem dX6_visit_59 : decode cX6_visit 59 = .ok (.iload_n 1, 1) := by decide +kernel
theorem dX6_visit_60 : decode cX6_visit 60 = .ok (.iaload, 1) := by decide +kernel
theorem dX6_visit_61 : decode cX6_visit 61 = .ok (.iload_n 2, 1) := by decide +kernel
theorem dX6_visit_62 : decode cX6_visit 62 = .ok (.if_icmp .eq 21, 3) := by decide +kernel
theorem dX6_visit_65 : decode cX6_visit 65 = .ok (.iload_n 2, 1) := by decide +kernel
theorem dX6_visit_66 : decode cX6_visit 66 = .ok (.iconst 1, 1) := by decide +kernel
theorem dX6_visit_67 : decode cX6_visit 67 = .ok (.if_icmp .ne 13, 3) := by decide +kernel
theorem dX6_visit_70 : decode cX6_visit 70 = .ok (.aload_n 0, 1) := by decide +kernel
theorem dX6_visit_71 : decode cX6_visit 71 = .ok (.getfield 53, 3) := by decide +kernel
theorem dX6_visit_74 : decode cX6_visit 74 = .ok (.iload_n 1, 1) := by decide +kernel
theorem dX6_visit_75 : decode cX6_visit 75 = .ok (.iaload, 1) := by decide +kernel
theorem dX6_visit_76 : decode cX6_visit 76 = .ok (.iconst 2, 1) := by decide +kernel
theorem dX6_visit_77 : decode cX6_visit 77 = .ok (.if_icmp .eq 6, 3) := by decide +kernel
theorem dX6_visit_80 : decode cX6_visit 80 = .ok (.bipush (-13), 2) := by decide +kernel
theorem dX6_visit_82 : decode cX6_visit 82 = .ok (.ireturn, 1) := by decide +kernel
theorem dX6_visit_83 : decode cX6_visit 83 = .ok (.iload_n 3, 1) := by decide +kernel
theorem dX6_visit_84 : decode cX6_visit 84 = .ok (.tableswitch 134 0 9 #[56, 63, 70, 77, 84, 99, 106, 113, 120, 127], 56) := by decide +kernel
theorem dX6_visit_140 : decode cX6_visit 140 = .ok (.aload_n 0, 1) := by decide +kernel
theorem dX6_visit_141 : decode cX6_visit 141 = .ok (.getfield 53, 3) := by decide +kernel
theorem dX6_visit_144 : decode cX6_visit 144 = .ok (.iload_n 1, 1) := by decide +kernel
theorem dX6_visit_145 : decode cX6_visit 145 = .ok (.iaload, 1) := by decide +kernel
theorem dX6_visit_146 : decode cX6_visit 146 = .ok (.ireturn, 1) := by decide +kernel
theorem dX6_visit_147 : decode cX6_visit 147 = .ok (.aload_n 0, 1) := by decide +kernel
theorem dX6_visit_148 : decode cX6_visit 148 = .ok (.getfield 56, 3) := by decide +kernel
theorem dX6_visit_151 : decode cX6_visit 151 = .ok (.iload_n 1, 1) := by decide +kernel
theorem dX6_visit_152 : decode cX6_visit 152 = .ok (.iaload, 1) := by decide +kernel
theorem dX6_visit_153 : decode cX6_visit 153 = .ok (.ireturn, 1) := by decide +kernel
theorem dX6_visit_154 : decode cX6_visit 154 = .ok (.aload_n 0, 1) := by decide +kernel
theorem dX6_visit_155 : decode cX6_visit 155 = .ok (.getfield 59, 3) := by decide +kernel
theorem dX6_visit_158 : decode cX6_visit 158 = .ok (.iload_n 1, 1) := by decide +kernel
theorem dX6_visit_159 : decode cX6_visit 159 = .ok (.iaload, 1) := by decide +kernel
theorem dX6_visit_160 : decode cX6_visit 160 = .ok (.ireturn, 1) := by decide +kernel
theorem dX6_visit_161 : decode cX6_visit 161 = .ok (.aload_n 0, 1) := by decide +kernel
theorem dX6_visit_162 : decode cX6_visit 162 = .ok (.getfield 62, 3) := by decide +kernel
theorem dX6_visit_165 : decode cX6_visit 165 = .ok (.iload_n 1, 1) := by decide +kernel
theorem dX6_visit_166 : decode cX6_visit 166 = .ok (.iaload, 1) := by decide +kernel
theorem dX6_visit_167 : decode cX6_visit 167 = .ok (.ireturn, 1) := by decide +kernel
theorem dX6_visit_168 : decode cX6_visit 168 = .ok (.aload_n 0, 1) := by decide +kernel
theorem dX6_visit_169 : decode cX6_visit 169 = .ok (.getfield 65, 3) := by decide +kernel
theorem dX6_visit_172 : decode cX6_visit 172 = .ok (.iload_n 1, 1) := by decide +kernel
theorem dX6_visit_173 : decode cX6_visit 173 = .ok (.baload, 1) := by decide +kernel
theorem dX6_visit_174 : decode cX6_visit 174 = .ok (.ifCond .eq 7, 3) := by decide +kernel
theorem dX6_visit_177 : decode cX6_visit 177 = .ok (.iconst 1, 1) := by decide +kernel
theorem dX6_visit_178 : decode cX6_visit 178 = .ok (.goto 4, 3) := by decide +kernel
theorem dX6_visit_181 : decode cX6_visit 181 = .ok (.iconst 0, 1) := by decide +kernel
theorem dX6_visit_182 : decode cX6_visit 182 = .ok (.ireturn, 1) := by decide +kernel
theorem dX6_visit_183 : decode cX6_visit 183 = .ok (.aload_n 0, 1) := by decide +kernel
theorem dX6_visit_184 : decode cX6_visit 184 = .ok (.getfield 69, 3) := by decide +kernel
theorem dX6_visit_187 : decode cX6_visit 187 = .ok (.iload_n 1, 1) := by decide +kernel
theorem dX6_visit_188 : decode cX6_visit 188 = .ok (.iaload, 1) := by decide +kernel
theorem dX6_visit_189 : decode cX6_visit 189 = .ok (.ireturn, 1) := by decide +kernel
theorem dX6_visit_190 : decode cX6_visit 190 = .ok (.aload_n 0, 1) := by decide +kernel
theorem dX6_visit_191 : decode cX6_visit 191 = .ok (.getfield 72, 3) := by decide +kernel
theorem dX6_visit_194 : decode cX6_visit 194 = .ok (.iload_n 1, 1) := by decide +kernel
theorem dX6_visit_195 : decode cX6_visit 195 = .ok (.iaload, 1) := by decide +kernel
theorem dX6_visit_196 : decode cX6_visit 196 = .ok (.ireturn, 1) := by decide +kernel
theorem dX6_visit_197 : decode cX6_visit 197 = .ok (.aload_n 0, 1) := by decide +kernel
theorem dX6_visit_198 : decode cX6_visit 198 = .ok (.getfield 75, 3) := by decide +kernel
theorem dX6_visit_201 : decode cX6_visit 201 = .ok (.iload_n 1, 1) := by decide +kernel
theorem dX6_visit_202 : decode cX6_visit 202 = .ok (.iaload, 1) := by decide +kernel
theorem dX6_visit_203 : decode cX6_visit 203 = .ok (.ireturn, 1) := by decide +kernel
theorem dX6_visit_204 : decode cX6_visit 204 = .ok (.aload_n 0, 1) := by decide +kernel
theorem dX6_visit_205 : decode cX6_visit 205 = .ok (.getfield 78, 3) := by decide +kernel
theorem dX6_visit_208 : decode cX6_visit 208 = .ok (.iload_n 1, 1) := by decide +kernel
theorem dX6_visit_209 : decode cX6_visit 209 = .ok (.iaload, 1) := by decide +kernel
theorem dX6_visit_210 : decode cX6_visit 210 = .ok (.ireturn, 1) := by decide +kernel
theorem dX6_visit_211 : decode cX6_visit 211 = .ok (.aload_n 0, 1) := by decide +kernel
theorem dX6_visit_212 : decode cX6_visit 212 = .ok (.getfield 81, 3) := by decide +kernel
theorem dX6_visit_215 : decode cX6_visit 215 = .ok (.iload_n 1, 1) := by decide +kernel
theorem dX6_visit_216 : decode cX6_visit 216 = .ok (.iaload, 1) := by decide +kernel
theorem dX6_visit_217 : decode cX6_visit 217 = .ok (.ireturn, 1) := by decide +kernel
theorem dX6_visit_218 : decode cX6_visit 218 = .ok (.aload_n 0, 1) := by decide +kernel
theorem dX6_visit_219 : decode cX6_visit 219 = .ok (.getfield 84, 3) := by decide +kernel
theorem dX6_visit_222 : decode cX6_visit 222 = .ok (.iload_n 1, 1) := by decide +kernel
theorem dX6_visit_223 : decode cX6_visit 223 = .ok (.iaload, 1) := by decide +kernel
theorem dX6_visit_224 : decode cX6_visit 224 = .ok (.ireturn, 1) := by decide +kernel
theorem dX6_visitOf_0 : decode cX6_visitOf 0 = .ok (.aload_n 0, 1) := by decide +kernel
theorem dX6_visitOf_1 : decode cX6_visitOf 1 = .ok (.iconst 0, 1) := by decide +kernel
theorem dX6_visitOf_2 : decode cX6_visitOf 2 = .ok (.putfield 97, 3) := by decide +kernel
theorem dX6_visitOf_5 : decode cX6_visitOf 5 = .ok (.aload_n 0, 1) := by decide +kernel
theorem dX6_visitOf_6 : decode cX6_visitOf 6 = .ok (.iload_n 1, 1) := by decide +kernel
theorem dX6_visitOf_7 : decode cX6_visitOf 7 = .ok (.invokevirtual 159, 3) := by decide +kernel
theorem dX6_visitOf_10 : decode cX6_visitOf 10 = .ok (.ifCond .eq 5, 3) := by decide +kernel
theorem dX6_visitOf_13 : decode cX6_visitOf 13 = .ok (.iconst (-1), 1) := by decide +kernel
theorem dX6_visitOf_14 : decode cX6_visitOf 14 = .ok (.ireturn, 1) := by decide +kernel
theorem dX6_visitOf_15 : decode cX6_visitOf 15 = .ok (.iconst 0, 1) := by decide +kernel
theorem dX6_visitOf_16 : decode cX6_visitOf 16 = .ok (.istore_n 3, 1) := by decide +kernel
theorem dX6_visitOf_17 : decode cX6_visitOf 17 = .ok (.iconst 0, 1) := by decide +kernel
theorem dX6_visitOf_18 : decode cX6_visitOf 18 = .ok (.istore 4, 2) := by decide +kernel
theorem dX6_visitOf_20 : decode cX6_visitOf 20 = .ok (.iload 4, 2) := by decide +kernel
theorem dX6_visitOf_22 : decode cX6_visitOf 22 = .ok (.aload_n 0, 1) := by decide +kernel
theorem dX6_visitOf_23 : decode cX6_visitOf 23 = .ok (.getfield 184, 3) := by decide +kernel
theorem dX6_visitOf_26 : decode cX6_visitOf 26 = .ok (.if_icmp .ge 31, 3) := by decide +kernel
theorem dX6_visitOf_29 : decode cX6_visitOf 29 = .ok (.aload_n 0, 1) := by decide +kernel
theorem dX6_visitOf_30 : decode cX6_visitOf 30 = .ok (.getfield 56, 3) := by decide +kernel
theorem dX6_visitOf_33 : decode cX6_visitOf 33 = .ok (.iload 4, 2) := by decide +kernel
theorem dX6_visitOf_35 : decode cX6_visitOf 35 = .ok (.iaload, 1) := by decide +kernel
theorem dX6_visitOf_36 : decode cX6_visitOf 36 = .ok (.iload_n 1, 1) := by decide +kernel
theorem dX6_visitOf_37 : decode cX6_visitOf 37 = .ok (.if_icmp .ne 14, 3) := by decide +kernel
theorem dX6_visitOf_40 : decode cX6_visitOf 40 = .ok (.iload_n 3, 1) := by decide +kernel
theorem dX6_visitOf_41 : decode cX6_visitOf 41 = .ok (.iload_n 2, 1) := by decide +kernel
theorem dX6_visitOf_42 : decode cX6_visitOf 42 = .ok (.if_icmp .ne 6, 3) := by decide +kernel
theorem dX6_visitOf_45 : decode cX6_visitOf 45 = .ok (.iload 4, 2) := by decide +kernel
theorem dX6_visitOf_47 : decode cX6_visitOf 47 = .ok (.ireturn, 1) := by decide +kernel
theorem dX6_visitOf_48 : decode cX6_visitOf 48 = .ok (.iinc 3 1, 3) := by decide +kernel
theorem dX6_visitOf_51 : decode cX6_visitOf 51 = .ok (.iinc 4 1, 3) := by decide +kernel
theorem dX6_visitOf_54 : decode cX6_visitOf 54 = .ok (.goto (-34), 3) := by decide +kernel
theorem dX6_visitOf_57 : decode cX6_visitOf 57 = .ok (.bipush (-9), 2) := by decide +kernel
theorem dX6_visitOf_59 : decode cX6_visitOf 59 = .ok (.ireturn, 1) := by decide +kernel
theorem dX6_gave_0 : decode cX6_gave 0 = .ok (.aload_n 0, 1) := by decide +kernel
theorem dX6_gave_1 : decode cX6_gave 1 = .ok (.iconst 0, 1) := by decide +kernel
theorem dX6_gave_2 : decode cX6_gave 2 = .ok (.putfield 97, 3) := by decide +kernel
theorem dX6_gave_5 : decode cX6_gave 5 = .ok (.aload_n 0, 1) := by decide +kernel
theorem dX6_gave_6 : decode cX6_gave 6 = .ok (.iload_n 1, 1) := by decide +kernel
theorem dX6_gave_7 : decode cX6_gave 7 = .ok (.invokevirtual 159, 3) := by decide +kernel
theorem dX6_gave_10 : decode cX6_gave 10 = .ok (.ifCond .eq 5, 3) := by decide +kernel
theorem dX6_gave_13 : decode cX6_gave 13 = .ok (.iconst (-1), 1) := by decide +kernel
theorem dX6_gave_14 : decode cX6_gave 14 = .ok (.ireturn, 1) := by decide +kernel
theorem dX6_gave_15 : decode cX6_gave 15 = .ok (.iload_n 2, 1) := by decide +kernel
theorem dX6_gave_16 : decode cX6_gave 16 = .ok (.ifCond .ge 6, 3) := by decide +kernel
theorem dX6_gave_19 : decode cX6_gave 19 = .ok (.bipush (-2), 2) := by decide +kernel
theorem dX6_gave_21 : decode cX6_gave 21 = .ok (.ireturn, 1) := by decide +kernel
theorem dX6_gave_22 : decode cX6_gave 22 = .ok (.iconst 0, 1) := by decide +kernel
theorem dX6_gave_23 : decode cX6_gave 23 = .ok (.istore_n 3, 1) := by decide +kernel
theorem dX6_gave_24 : decode cX6_gave 24 = .ok (.iconst 0, 1) := by decide +kernel
theorem dX6_gave_25 : decode cX6_gave 25 = .ok (.istore 4, 2) := by decide +kernel
theorem dX6_gave_27 : decode cX6_gave 27 = .ok (.iload 4, 2) := by decide +kernel
theorem dX6_gave_29 : decode cX6_gave 29 = .ok (.aload_n 0, 1) := by decide +kernel
theorem dX6_gave_30 : decode cX6_gave 30 = .ok (.getfield 184, 3) := by decide +kernel
theorem dX6_gave_33 : decode cX6_gave 33 = .ok (.if_icmp .ge 61, 3) := by decide +kernel
theorem dX6_gave_36 : decode cX6_gave 36 = .ok (.iload_n 3, 1) := by decide +kernel
theorem dX6_gave_37 : decode cX6_gave 37 = .ok (.aload_n 0, 1) := by decide +kernel
theorem dX6_gave_38 : decode cX6_gave 38 = .ok (.getfield 56, 3) := by decide +kernel
theorem dX6_gave_41 : decode cX6_gave 41 = .ok (.iload 4, 2) := by decide +kernel
theorem dX6_gave_43 : decode cX6_gave 43 = .ok (.iaload, 1) := by decide +kernel
theorem dX6_gave_44 : decode cX6_gave 44 = .ok (.iload_n 1, 1) := by decide +kernel
theorem dX6_gave_45 : decode cX6_gave 45 = .ok (.if_icmp .ne 40, 3) := by decide +kernel
theorem dX6_gave_48 : decode cX6_gave 48 = .ok (.aload_n 0, 1) := by decide +kernel
theorem dX6_gave_49 : decode cX6_gave 49 = .ok (.getfield 72, 3) := by decide +kernel
theorem dX6_gave_52 : decode cX6_gave 52 = .ok (.iload 4, 2) := by decide +kernel
theorem dX6_gave_54 : decode cX6_gave 54 = .ok (.iaload, 1) := by decide +kernel
theorem dX6_gave_55 : decode cX6_gave 55 = .ok (.bipush (-9), 2) := by decide +kernel
theorem dX6_gave_57 : decode cX6_gave 57 = .ok (.if_icmp .eq 28, 3) := by decide +kernel
theorem dX6_gave_60 : decode cX6_gave 60 = .ok (.aload_n 0, 1) := by decide +kernel
theorem dX6_gave_61 : decode cX6_gave 61 = .ok (.getfield 72, 3) := by decide +kernel
theorem dX6_gave_64 : decode cX6_gave 64 = .ok (.iload 4, 2) := by decide +kernel
theorem dX6_gave_66 : decode cX6_gave 66 = .ok (.iaload, 1) := by decide +kernel
theorem dX6_gave_67 : decode cX6_gave 67 = .ok (.sipush 1440, 3) := by decide +kernel
theorem dX6_gave_70 : decode cX6_gave 70 = .ok (.idiv, 1) := by decide +kernel
theorem dX6_gave_71 : decode cX6_gave 71 = .ok (.iload_n 2, 1) := by decide +kernel
theorem dX6_gave_72 : decode cX6_gave 72 = .ok (.if_icmp .ne 13, 3) := by decide +kernel
theorem dX6_gave_75 : decode cX6_gave 75 = .ok (.aload_n 0, 1) := by decide +kernel
theorem dX6_gave_76 : decode cX6_gave 76 = .ok (.getfield 75, 3) := by decide +kernel
theorem dX6_gave_79 : decode cX6_gave 79 = .ok (.iload 4, 2) := by decide +kernel
theorem dX6_gave_81 : decode cX6_gave 81 = .ok (.iaload, 1) := by decide +kernel
theorem dX6_gave_82 : decode cX6_gave 82 = .ok (.goto 4, 3) := by decide +kernel
theorem dX6_gave_85 : decode cX6_gave 85 = .ok (.iconst 0, 1) := by decide +kernel
theorem dX6_gave_86 : decode cX6_gave 86 = .ok (.iadd, 1) := by decide +kernel
theorem dX6_gave_87 : decode cX6_gave 87 = .ok (.istore_n 3, 1) := by decide +kernel
theorem dX6_gave_88 : decode cX6_gave 88 = .ok (.iinc 4 1, 3) := by decide +kernel
theorem dX6_gave_91 : decode cX6_gave 91 = .ok (.goto (-64), 3) := by decide +kernel
theorem dX6_gave_94 : decode cX6_gave 94 = .ok (.iload_n 3, 1) := by decide +kernel
theorem dX6_gave_95 : decode cX6_gave 95 = .ok (.ireturn, 1) := by decide +kernel
theorem dX6_longest_0 : decode cX6_longest 0 = .ok (.aload_n 0, 1) := by decide +kernel
theorem dX6_longest_1 : decode cX6_longest 1 = .ok (.iconst 0, 1) := by decide +kernel
theorem dX6_longest_2 : decode cX6_longest 2 = .ok (.putfield 97, 3) := by decide +kernel
theorem dX6_longest_5 : decode cX6_longest 5 = .ok (.iconst 0, 1) := by decide +kernel
theorem dX6_longest_6 : decode cX6_longest 6 = .ok (.istore_n 1, 1) := by decide +kernel
theorem dX6_longest_7 : decode cX6_longest 7 = .ok (.iconst 0, 1) := by decide +kernel
theorem dX6_longest_8 : decode cX6_longest 8 = .ok (.istore_n 2, 1) := by decide +kernel
theorem dX6_longest_9 : decode cX6_longest 9 = .ok (.iload_n 2, 1) := by decide +kernel
theorem dX6_longest_10 : decode cX6_longest 10 = .ok (.aload_n 0, 1) := by decide +kernel
theorem dX6_longest_11 : decode cX6_longest 11 = .ok (.getfield 184, 3) := by decide +kernel
theorem dX6_longest_14 : decode cX6_longest 14 = .ok (.if_icmp .ge 49, 3) := by decide +kernel
theorem dX6_longest_17 : decode cX6_longest 17 = .ok (.aload_n 0, 1) := by decide +kernel
theorem dX6_longest_18 : decode cX6_longest 18 = .ok (.getfield 69, 3) := by decide +kernel
theorem dX6_longest_21 : decode cX6_longest 21 = .ok (.iload_n 2, 1) := by decide +kernel
theorem dX6_longest_22 : decode cX6_longest 22 = .ok (.iaload, 1) := by decide +kernel
theorem dX6_longest_23 : decode cX6_longest 23 = .ok (.bipush (-9), 2) := by decide +kernel
theorem dX6_longest_25 : decode cX6_longest 25 = .ok (.if_icmp .ne 7, 3) := by decide +kernel
theorem dX6_longest_28 : decode cX6_longest 28 = .ok (.iconst 0, 1) := by decide +kernel
theorem dX6_longest_29 : decode cX6_longest 29 = .ok (.goto 16, 3) := by decide +kernel
theorem dX6_longest_32 : decode cX6_longest 32 = .ok (.aload_n 0, 1) := by decide +kernel
theorem dX6_longest_33 : decode cX6_longest 33 = .ok (.getfield 69, 3) := by decide +kernel
theorem dX6_longest_36 : decode cX6_longest 36 = .ok (.iload_n 2, 1) := by decide +kernel
theorem dX6_longest_37 : decode cX6_longest 37 = .ok (.iaload, 1) := by decide +kernel
theorem dX6_longest_38 : decode cX6_longest 38 = .ok (.aload_n 0, 1) := by decide +kernel
theorem dX6_longest_39 : decode cX6_longest 39 = .ok (.getfield 59, 3) := by decide +kernel
theorem dX6_longest_42 : decode cX6_longest 42 = .ok (.iload_n 2, 1) := by decide +kernel
theorem dX6_longest_43 : decode cX6_longest 43 = .ok (.iaload, 1) := by decide +kernel
theorem dX6_longest_44 : decode cX6_longest 44 = .ok (.isub, 1) := by decide +kernel
theorem dX6_longest_45 : decode cX6_longest 45 = .ok (.istore_n 3, 1) := by decide +kernel
theorem dX6_longest_46 : decode cX6_longest 46 = .ok (.iload_n 3, 1) := by decide +kernel
theorem dX6_longest_47 : decode cX6_longest 47 = .ok (.iload_n 1, 1) := by decide +kernel
theorem dX6_longest_48 : decode cX6_longest 48 = .ok (.if_icmp .le 7, 3) := by decide +kernel
theorem dX6_longest_51 : decode cX6_longest 51 = .ok (.iload_n 3, 1) := by decide +kernel
theorem dX6_longest_52 : decode cX6_longest 52 = .ok (.goto 4, 3) := by decide +kernel
theorem dX6_longest_55 : decode cX6_longest 55 = .ok (.iload_n 1, 1) := by decide +kernel
theorem dX6_longest_56 : decode cX6_longest 56 = .ok (.istore_n 1, 1) := by decide +kernel
theorem dX6_longest_57 : decode cX6_longest 57 = .ok (.iinc 2 1, 3) := by decide +kernel
theorem dX6_longest_60 : decode cX6_longest 60 = .ok (.goto (-51), 3) := by decide +kernel
theorem dX6_longest_63 : decode cX6_longest 63 = .ok (.iload_n 1, 1) := by decide +kernel
theorem dX6_longest_64 : decode cX6_longest 64 = .ok (.ireturn, 1) := by decide +kernel
theorem dX6_rank_0 : decode cX6_rank 0 = .ok (.aload_n 0, 1) := by decide +kernel
theorem dX6_rank_1 : decode cX6_rank 1 = .ok (.iconst 0, 1) := by decide +kernel
theorem dX6_rank_2 : decode cX6_rank 2 = .ok (.putfield 97, 3) := by decide +kernel
theorem dX6_rank_5 : decode cX6_rank 5 = .ok (.iconst 0, 1) := by decide +kernel
theorem dX6_rank_6 : decode cX6_rank 6 = .ok (.istore_n 2, 1) := by decide +kernel
theorem dX6_rank_7 : decode cX6_rank 7 = .ok (.iload_n 2, 1) := by decide +kernel
theorem dX6_rank_8 : decode cX6_rank 8 = .ok (.aload_n 0, 1) := by decide +kernel
theorem dX6_rank_9 : decode cX6_rank 9 = .ok (.getfield 100, 3) := by decide +kernel
theorem dX6_rank_12 : decode cX6_rank 12 = .ok (.if_icmp .ge 82, 3) := by decide +kernel
theorem dX6_rank_15 : decode cX6_rank 15 = .ok (.iconst 0, 1) := by decide +kernel
theorem dX6_rank_16 : decode cX6_rank 16 = .ok (.istore_n 3, 1) := by decide +kernel
theorem dX6_rank_17 : decode cX6_rank 17 = .ok (.iconst 0, 1) := by decide +kernel
theorem dX6_rank_18 : decode cX6_rank 18 = .ok (.istore 4, 2) := by decide +kernel
theorem dX6_rank_20 : decode cX6_rank 20 = .ok (.iload 4, 2) := by decide +kernel
theorem dX6_rank_22 : decode cX6_rank 22 = .ok (.aload_n 0, 1) := by decide +kernel
theorem dX6_rank_23 : decode cX6_rank 23 = .ok (.getfield 100, 3) := by decide +kernel
theorem dX6_rank_26 : decode cX6_rank 26 = .ok (.if_icmp .ge 55, 3) := by decide +kernel
theorem dX6_rank_29 : decode cX6_rank 29 = .ok (.iload_n 3, 1) := by decide +kernel
theorem dX6_rank_30 : decode cX6_rank 30 = .ok (.aload_n 0, 1) := by decide +kernel
theorem dX6_rank_31 : decode cX6_rank 31 = .ok (.getfield 47, 3) := by decide +kernel
theorem dX6_rank_34 : decode cX6_rank 34 = .ok (.iload 4, 2) := by decide +kernel
theorem dX6_rank_36 : decode cX6_rank 36 = .ok (.iaload, 1) := by decide +kernel
theorem dX6_rank_37 : decode cX6_rank 37 = .ok (.aload_n 0, 1) := by decide +kernel
theorem dX6_rank_38 : decode cX6_rank 38 = .ok (.getfield 47, 3) := by decide +kernel
theorem dX6_rank_41 : decode cX6_rank 41 = .ok (.iload_n 2, 1) := by decide +kernel
theorem dX6_rank_42 : decode cX6_rank 42 = .ok (.iaload, 1) := by decide +kernel
theorem dX6_rank_43 : decode cX6_rank 43 = .ok (.if_icmp .gt 25, 3) := by decide +kernel
theorem dX6_rank_46 : decode cX6_rank 46 = .ok (.aload_n 0, 1) := by decide +kernel
theorem dX6_rank_47 : decode cX6_rank 47 = .ok (.getfield 47, 3) := by decide +kernel
theorem dX6_rank_50 : decode cX6_rank 50 = .ok (.iload 4, 2) := by decide +kernel
theorem dX6_rank_52 : decode cX6_rank 52 = .ok (.iaload, 1) := by decide +kernel
theorem dX6_rank_53 : decode cX6_rank 53 = .ok (.aload_n 0, 1) := by decide +kernel
theorem dX6_rank_54 : decode cX6_rank 54 = .ok (.getfield 47, 3) := by decide +kernel
theorem dX6_rank_57 : decode cX6_rank 57 = .ok (.iload_n 2, 1) := by decide +kernel
theorem dX6_rank_58 : decode cX6_rank 58 = .ok (.iaload, 1) := by decide +kernel
theorem dX6_rank_59 : decode cX6_rank 59 = .ok (.if_icmp .ne 13, 3) := by decide +kernel
theorem dX6_rank_62 : decode cX6_rank 62 = .ok (.iload 4, 2) := by decide +kernel
theorem dX6_rank_64 : decode cX6_rank 64 = .ok (.iload_n 2, 1) := by decide +kernel
theorem dX6_rank_65 : decode cX6_rank 65 = .ok (.if_icmp .ge 7, 3) := by decide +kernel
theorem dX6_rank_68 : decode cX6_rank 68 = .ok (.iconst 1, 1) := by decide +kernel
theorem dX6_rank_69 : decode cX6_rank 69 = .ok (.goto 4, 3) := by decide +kernel
theorem dX6_rank_72 : decode cX6_rank 72 = .ok (.iconst 0, 1) := by decide +kernel
theorem dX6_rank_73 : decode cX6_rank 73 = .ok (.iadd, 1) := by decide +kernel
theorem dX6_rank_74 : decode cX6_rank 74 = .ok (.istore_n 3, 1) := by decide +kernel
theorem dX6_rank_75 : decode cX6_rank 75 = .ok (.iinc 4 1, 3) := by decide +kernel
theorem dX6_rank_78 : decode cX6_rank 78 = .ok (.goto (-58), 3) := by decide +kernel
theorem dX6_rank_81 : decode cX6_rank 81 = .ok (.iload_n 3, 1) := by decide +kernel
theorem dX6_rank_82 : decode cX6_rank 82 = .ok (.iload_n 1, 1) := by decide +kernel
theorem dX6_rank_83 : decode cX6_rank 83 = .ok (.if_icmp .ne 5, 3) := by decide +kernel
theorem dX6_rank_86 : decode cX6_rank 86 = .ok (.iload_n 2, 1) := by decide +kernel
theorem dX6_rank_87 : decode cX6_rank 87 = .ok (.ireturn, 1) := by decide +kernel
theorem dX6_rank_88 : decode cX6_rank 88 = .ok (.iinc 2 1, 3) := by decide +kernel
theorem dX6_rank_91 : decode cX6_rank 91 = .ok (.goto (-84), 3) := by decide +kernel
theorem dX6_rank_94 : decode cX6_rank 94 = .ok (.bipush (-9), 2) := by decide +kernel
theorem dX6_rank_96 : decode cX6_rank 96 = .ok (.ireturn, 1) := by decide +kernel
theorem dX6_until_0 : decode cX6_until 0 = .ok (.aload_n 0, 1) := by decide +kernel
theorem dX6_until_1 : decode cX6_until 1 = .ok (.iconst 0, 1) := by decide +kernel
theorem dX6_until_2 : decode cX6_until 2 = .ok (.putfield 97, 3) := by decide +kernel
theorem dX6_until_5 : decode cX6_until 5 = .ok (.aload_n 0, 1) := by decide +kernel
theorem dX6_until_6 : decode cX6_until 6 = .ok (.iload_n 1, 1) := by decide +kernel
theorem dX6_until_7 : decode cX6_until 7 = .ok (.invokevirtual 159, 3) := by decide +kernel
theorem dX6_until_10 : decode cX6_until 10 = .ok (.ifCond .eq 5, 3) := by decide +kernel
theorem dX6_until_13 : decode cX6_until 13 = .ok (.iconst (-1), 1) := by decide +kernel
theorem dX6_until_14 : decode cX6_until 14 = .ok (.ireturn, 1) := by decide +kernel
theorem dX6_until_15 : decode cX6_until 15 = .ok (.iload_n 2, 1) := by decide +kernel
theorem dX6_until_16 : decode cX6_until 16 = .ok (.i2l, 1) := by decide +kernel
theorem dX6_until_17 : decode cX6_until 17 = .ok (.lconst 1, 1) := by decide +kernel
theorem dX6_until_18 : decode cX6_until 18 = .ok (.ldc2_w 204, 3) := by decide +kernel
theorem dX6_until_21 : decode cX6_until 21 = .ok (.invokestatic 103, 3) := by decide +kernel
theorem dX6_until_24 : decode cX6_until 24 = .ok (.ifCond .ne 6, 3) := by decide +kernel
theorem dX6_until_27 : decode cX6_until 27 = .ok (.bipush (-2), 2) := by decide +kernel
theorem dX6_until_29 : decode cX6_until 29 = .ok (.ireturn, 1) := by decide +kernel
theorem dX6_until_30 : decode cX6_until 30 = .ok (.aload_n 0, 1) := by decide +kernel
theorem dX6_until_31 : decode cX6_until 31 = .ok (.invokevirtual 189, 3) := by decide +kernel
theorem dX6_until_34 : decode cX6_until 34 = .ok (.iload_n 1, 1) := by decide +kernel
theorem dX6_until_35 : decode cX6_until 35 = .ok (.if_icmp .ne 6, 3) := by decide +kernel
theorem dX6_until_38 : decode cX6_until 38 = .ok (.bipush (-9), 2) := by decide +kernel
theorem dX6_until_40 : decode cX6_until 40 = .ok (.ireturn, 1) := by decide +kernel
theorem dX6_until_41 : decode cX6_until 41 = .ok (.iload_n 2, 1) := by decide +kernel
theorem dX6_until_42 : decode cX6_until 42 = .ok (.aload_n 0, 1) := by decide +kernel
theorem dX6_until_43 : decode cX6_until 43 = .ok (.getfield 29, 3) := by decide +kernel
theorem dX6_until_46 : decode cX6_until 46 = .ok (.iload_n 1, 1) := by decide +kernel
theorem dX6_until_47 : decode cX6_until 47 = .ok (.iaload, 1) := by decide +kernel
theorem dX6_until_48 : decode cX6_until 48 = .ok (.isub, 1) := by decide +kernel
theorem dX6_until_49 : decode cX6_until 49 = .ok (.istore_n 3, 1) := by decide +kernel
theorem dX6_until_50 : decode cX6_until 50 = .ok (.iload_n 3, 1) := by decide +kernel
theorem dX6_until_51 : decode cX6_until 51 = .ok (.ifCond .gt 7, 3) := by decide +kernel
theorem dX6_until_54 : decode cX6_until 54 = .ok (.iconst 0, 1) := by decide +kernel
theorem dX6_until_55 : decode cX6_until 55 = .ok (.goto 23, 3) := by decide +kernel
theorem dX6_until_58 : decode cX6_until 58 = .ok (.bipush 60, 2) := by decide +kernel
theorem dX6_until_60 : decode cX6_until 60 = .ok (.iload_n 3, 1) := by decide +kernel
theorem dX6_until_61 : decode cX6_until 61 = .ok (.imul, 1) := by decide +kernel
theorem dX6_until_62 : decode cX6_until 62 = .ok (.aload_n 0, 1) := by decide +kernel
theorem dX6_until_63 : decode cX6_until 63 = .ok (.getfield 17, 3) := by decide +kernel
theorem dX6_until_66 : decode cX6_until 66 = .ok (.iload_n 1, 1) := by decide +kernel
theorem dX6_until_67 : decode cX6_until 67 = .ok (.iaload, 1) := by decide +kernel
theorem dX6_until_68 : decode cX6_until 68 = .ok (.iadd, 1) := by decide +kernel
theorem dX6_until_69 : decode cX6_until 69 = .ok (.iconst 1, 1) := by decide +kernel
theorem dX6_until_70 : decode cX6_until 70 = .ok (.isub, 1) := by decide +kernel
theorem dX6_until_71 : decode cX6_until 71 = .ok (.aload_n 0, 1) := by decide +kernel
theorem dX6_until_72 : decode cX6_until 72 = .ok (.getfield 17, 3) := by decide +kernel
theorem dX6_until_75 : decode cX6_until 75 = .ok (.iload_n 1, 1) := by decide +kernel
theorem dX6_until_76 : decode cX6_until 76 = .ok (.iaload, 1) := by decide +kernel
theorem dX6_until_77 : decode cX6_until 77 = .ok (.idiv, 1) := by decide +kernel
theorem dX6_until_78 : decode cX6_until 78 = .ok (.istore 4, 2) := by decide +kernel
theorem dX6_until_80 : decode cX6_until 80 = .ok (.aload_n 0, 1) := by decide +kernel
theorem dX6_until_81 : decode cX6_until 81 = .ok (.getfield 107, 3) := by decide +kernel
theorem dX6_until_84 : decode cX6_until 84 = .ok (.aload_n 0, 1) := by decide +kernel
theorem dX6_until_85 : decode cX6_until 85 = .ok (.getfield 26, 3) := by decide +kernel
theorem dX6_until_88 : decode cX6_until 88 = .ok (.iload_n 1, 1) := by decide +kernel
theorem dX6_until_89 : decode cX6_until 89 = .ok (.iaload, 1) := by decide +kernel
theorem dX6_until_90 : decode cX6_until 90 = .ok (.isub, 1) := by decide +kernel
theorem dX6_until_91 : decode cX6_until 91 = .ok (.istore 5, 2) := by decide +kernel
theorem dX6_until_93 : decode cX6_until 93 = .ok (.iload 4, 2) := by decide +kernel
theorem dX6_until_95 : decode cX6_until 95 = .ok (.iload 5, 2) := by decide +kernel
theorem dX6_until_97 : decode cX6_until 97 = .ok (.if_icmp .le 11, 3) := by decide +kernel
theorem dX6_until_100 : decode cX6_until 100 = .ok (.iload 4, 2) := by decide +kernel
theorem dX6_until_102 : decode cX6_until 102 = .ok (.iload 5, 2) := by decide +kernel
theorem dX6_until_104 : decode cX6_until 104 = .ok (.isub, 1) := by decide +kernel
theorem dX6_until_105 : decode cX6_until 105 = .ok (.goto 4, 3) := by decide +kernel
theorem dX6_until_108 : decode cX6_until 108 = .ok (.iconst 0, 1) := by decide +kernel
theorem dX6_until_109 : decode cX6_until 109 = .ok (.ireturn, 1) := by decide +kernel
end
section
theorem dL_law_0 : decode cL_law 0 = .ok (.new 7, 3) := by decide +kernel
theorem dL_law_3 : decode cL_law 3 = .ok (.dup, 1) := by decide +kernel
theorem dL_law_4 : decode cL_law 4 = .ok (.invokespecial 9, 3) := by decide +kernel
theorem dL_law_7 : decode cL_law 7 = .ok (.astore_n 1, 1) := by decide +kernel
theorem dL_law_8 : decode cL_law 8 = .ok (.new 10, 3) := by decide +kernel
theorem dL_law_11 : decode cL_law 11 = .ok (.dup, 1) := by decide +kernel
theorem dL_law_12 : decode cL_law 12 = .ok (.invokespecial 12, 3) := by decide +kernel
theorem dL_law_15 : decode cL_law 15 = .ok (.astore_n 2, 1) := by decide +kernel
theorem dL_law_16 : decode cL_law 16 = .ok (.iconst 0, 1) := by decide +kernel
theorem dL_law_17 : decode cL_law 17 = .ok (.istore_n 3, 1) := by decide +kernel
theorem dL_law_18 : decode cL_law 18 = .ok (.iload_n 3, 1) := by decide +kernel
theorem dL_law_19 : decode cL_law 19 = .ok (.aload_n 0, 1) := by decide +kernel
theorem dL_law_20 : decode cL_law 20 = .ok (.arraylength, 1) := by decide +kernel
theorem dL_law_21 : decode cL_law 21 = .ok (.iconst 5, 1) := by decide +kernel
theorem dL_law_22 : decode cL_law 22 = .ok (.isub, 1) := by decide +kernel
theorem dL_law_23 : decode cL_law 23 = .ok (.if_icmp .gt 707, 3) := by decide +kernel
theorem dL_law_26 : decode cL_law 26 = .ok (.aload_n 0, 1) := by decide +kernel
theorem dL_law_27 : decode cL_law 27 = .ok (.iload_n 3, 1) := by decide +kernel
theorem dL_law_28 : decode cL_law 28 = .ok (.iaload, 1) := by decide +kernel
theorem dL_law_29 : decode cL_law 29 = .ok (.bipush 31, 2) := by decide +kernel
theorem dL_law_31 : decode cL_law 31 = .ok (.iand, 1) := by decide +kernel
theorem dL_law_32 : decode cL_law 32 = .ok (.tableswitch 692 0 19 #[96, 149, 192, 225, 268, 301, 324, 357, 396, 409, 432, 445, 468, 491, 514, 557, 590, 623, 636, 659], 96) := by decide +kernel
theorem dL_law_128 : decode cL_law 128 = .ok (.aload_n 1, 1) := by decide +kernel
theorem dL_law_129 : decode cL_law 129 = .ok (.aload_n 0, 1) := by decide +kernel
theorem dL_law_130 : decode cL_law 130 = .ok (.iload_n 3, 1) := by decide +kernel
theorem dL_law_131 : decode cL_law 131 = .ok (.iconst 1, 1) := by decide +kernel
theorem dL_law_132 : decode cL_law 132 = .ok (.iadd, 1) := by decide +kernel
theorem dL_law_133 : decode cL_law 133 = .ok (.iaload, 1) := by decide +kernel
theorem dL_law_134 : decode cL_law 134 = .ok (.aload_n 0, 1) := by decide +kernel
theorem dL_law_135 : decode cL_law 135 = .ok (.iload_n 3, 1) := by decide +kernel
theorem dL_law_136 : decode cL_law 136 = .ok (.iconst 2, 1) := by decide +kernel
theorem dL_law_137 : decode cL_law 137 = .ok (.iadd, 1) := by decide +kernel
theorem dL_law_138 : decode cL_law 138 = .ok (.iaload, 1) := by decide +kernel
theorem dL_law_139 : decode cL_law 139 = .ok (.aload_n 0, 1) := by decide +kernel
theorem dL_law_140 : decode cL_law 140 = .ok (.iload_n 3, 1) := by decide +kernel
theorem dL_law_141 : decode cL_law 141 = .ok (.iconst 3, 1) := by decide +kernel
theorem dL_law_142 : decode cL_law 142 = .ok (.iadd, 1) := by decide +kernel
theorem dL_law_143 : decode cL_law 143 = .ok (.iaload, 1) := by decide +kernel
theorem dL_law_144 : decode cL_law 144 = .ok (.aload_n 0, 1) := by decide +kernel
theorem dL_law_145 : decode cL_law 145 = .ok (.iload_n 3, 1) := by decide +kernel
theorem dL_law_146 : decode cL_law 146 = .ok (.iconst 4, 1) := by decide +kernel
theorem dL_law_147 : decode cL_law 147 = .ok (.iadd, 1) := by decide +kernel
theorem dL_law_148 : decode cL_law 148 = .ok (.iaload, 1) := by decide +kernel
theorem dL_law_149 : decode cL_law 149 = .ok (.invokevirtual 13, 3) := by decide +kernel
theorem dL_law_152 : decode cL_law 152 = .ok (.aload_n 2, 1) := by decide +kernel
theorem dL_law_153 : decode cL_law 153 = .ok (.aload_n 0, 1) := by decide +kernel
theorem dL_law_154 : decode cL_law 154 = .ok (.iload_n 3, 1) := by decide +kernel
theorem dL_law_155 : decode cL_law 155 = .ok (.iconst 1, 1) := by decide +kernel
theorem dL_law_156 : decode cL_law 156 = .ok (.iadd, 1) := by decide +kernel
theorem dL_law_157 : decode cL_law 157 = .ok (.iaload, 1) := by decide +kernel
theorem dL_law_158 : decode cL_law 158 = .ok (.aload_n 0, 1) := by decide +kernel
theorem dL_law_159 : decode cL_law 159 = .ok (.iload_n 3, 1) := by decide +kernel
theorem dL_law_160 : decode cL_law 160 = .ok (.iconst 2, 1) := by decide +kernel
theorem dL_law_161 : decode cL_law 161 = .ok (.iadd, 1) := by decide +kernel
theorem dL_law_162 : decode cL_law 162 = .ok (.iaload, 1) := by decide +kernel
theorem dL_law_163 : decode cL_law 163 = .ok (.aload_n 0, 1) := by decide +kernel
theorem dL_law_164 : decode cL_law 164 = .ok (.iload_n 3, 1) := by decide +kernel
theorem dL_law_165 : decode cL_law 165 = .ok (.iconst 3, 1) := by decide +kernel
theorem dL_law_166 : decode cL_law 166 = .ok (.iadd, 1) := by decide +kernel
theorem dL_law_167 : decode cL_law 167 = .ok (.iaload, 1) := by decide +kernel
theorem dL_law_168 : decode cL_law 168 = .ok (.aload_n 0, 1) := by decide +kernel
theorem dL_law_169 : decode cL_law 169 = .ok (.iload_n 3, 1) := by decide +kernel
theorem dL_law_170 : decode cL_law 170 = .ok (.iconst 4, 1) := by decide +kernel
theorem dL_law_171 : decode cL_law 171 = .ok (.iadd, 1) := by decide +kernel
theorem dL_law_172 : decode cL_law 172 = .ok (.iaload, 1) := by decide +kernel
theorem dL_law_173 : decode cL_law 173 = .ok (.invokevirtual 17, 3) := by decide +kernel
theorem dL_law_176 : decode cL_law 176 = .ok (.if_icmp .eq 548, 3) := by decide +kernel
theorem dL_law_179 : decode cL_law 179 = .ok (.iconst 0, 1) := by decide +kernel
theorem dL_law_180 : decode cL_law 180 = .ok (.ireturn, 1) := by decide +kernel
theorem dL_law_181 : decode cL_law 181 = .ok (.aload_n 1, 1) := by decide +kernel
theorem dL_law_182 : decode cL_law 182 = .ok (.aload_n 0, 1) := by decide +kernel
theorem dL_law_183 : decode cL_law 183 = .ok (.iload_n 3, 1) := by decide +kernel
theorem dL_law_184 : decode cL_law 184 = .ok (.iconst 1, 1) := by decide +kernel
theorem dL_law_185 : decode cL_law 185 = .ok (.iadd, 1) := by decide +kernel
theorem dL_law_186 : decode cL_law 186 = .ok (.iaload, 1) := by decide +kernel
theorem dL_law_187 : decode cL_law 187 = .ok (.aload_n 0, 1) := by decide +kernel
theorem dL_law_188 : decode cL_law 188 = .ok (.iload_n 3, 1) := by decide +kernel
theorem dL_law_189 : decode cL_law 189 = .ok (.iconst 2, 1) := by decide +kernel
theorem dL_law_190 : decode cL_law 190 = .ok (.iadd, 1) := by decide +kernel
theorem dL_law_191 : decode cL_law 191 = .ok (.iaload, 1) := by decide +kernel
theorem dL_law_192 : decode cL_law 192 = .ok (.aload_n 0, 1) := by decide +kernel
theorem dL_law_193 : decode cL_law 193 = .ok (.iload_n 3, 1) := by decide +kernel
theorem dL_law_194 : decode cL_law 194 = .ok (.iconst 3, 1) := by decide +kernel
theorem dL_law_195 : decode cL_law 195 = .ok (.iadd, 1) := by decide +kernel
theorem dL_law_196 : decode cL_law 196 = .ok (.iaload, 1) := by decide +kernel
theorem dL_law_197 : decode cL_law 197 = .ok (.invokevirtual 18, 3) := by decide +kernel
theorem dL_law_200 : decode cL_law 200 = .ok (.aload_n 2, 1) := by decide +kernel
theorem dL_law_201 : decode cL_law 201 = .ok (.aload_n 0, 1) := by decide +kernel
theorem dL_law_202 : decode cL_law 202 = .ok (.iload_n 3, 1) := by decide +kernel
theorem dL_law_203 : decode cL_law 203 = .ok (.iconst 1, 1) := by decide +kernel
theorem dL_law_204 : decode cL_law 204 = .ok (.iadd, 1) := by decide +kernel
theorem dL_law_205 : decode cL_law 205 = .ok (.iaload, 1) := by decide +kernel
theorem dL_law_206 : decode cL_law 206 = .ok (.aload_n 0, 1) := by decide +kernel
theorem dL_law_207 : decode cL_law 207 = .ok (.iload_n 3, 1) := by decide +kernel
theorem dL_law_208 : decode cL_law 208 = .ok (.iconst 2, 1) := by decide +kernel
theorem dL_law_209 : decode cL_law 209 = .ok (.iadd, 1) := by decide +kernel
theorem dL_law_210 : decode cL_law 210 = .ok (.iaload, 1) := by decide +kernel
theorem dL_law_211 : decode cL_law 211 = .ok (.aload_n 0, 1) := by decide +kernel
theorem dL_law_212 : decode cL_law 212 = .ok (.iload_n 3, 1) := by decide +kernel
theorem dL_law_213 : decode cL_law 213 = .ok (.iconst 3, 1) := by decide +kernel
theorem dL_law_214 : decode cL_law 214 = .ok (.iadd, 1) := by decide +kernel
theorem dL_law_215 : decode cL_law 215 = .ok (.iaload, 1) := by decide +kernel
theorem dL_law_216 : decode cL_law 216 = .ok (.invokevirtual 22, 3) := by decide +kernel
theorem dL_law_219 : decode cL_law 219 = .ok (.if_icmp .eq 505, 3) := by decide +kernel
theorem dL_law_222 : decode cL_law 222 = .ok (.iconst 0, 1) := by decide +kernel
theorem dL_law_223 : decode cL_law 223 = .ok (.ireturn, 1) := by decide +kernel
theorem dL_law_224 : decode cL_law 224 = .ok (.aload_n 1, 1) := by decide +kernel
theorem dL_law_225 : decode cL_law 225 = .ok (.aload_n 0, 1) := by decide +kernel
theorem dL_law_226 : decode cL_law 226 = .ok (.iload_n 3, 1) := by decide +kernel
theorem dL_law_227 : decode cL_law 227 = .ok (.iconst 1, 1) := by decide +kernel
theorem dL_law_228 : decode cL_law 228 = .ok (.iadd, 1) := by decide +kernel
theorem dL_law_229 : decode cL_law 229 = .ok (.iaload, 1) := by decide +kernel
theorem dL_law_230 : decode cL_law 230 = .ok (.aload_n 0, 1) := by decide +kernel
theorem dL_law_231 : decode cL_law 231 = .ok (.iload_n 3, 1) := by decide +kernel
theorem dL_law_232 : decode cL_law 232 = .ok (.iconst 2, 1) := by decide +kernel
theorem dL_law_233 : decode cL_law 233 = .ok (.iadd, 1) := by decide +kernel
theorem dL_law_234 : decode cL_law 234 = .ok (.iaload, 1) := by decide +kernel
theorem dL_law_235 : decode cL_law 235 = .ok (.invokevirtual 23, 3) := by decide +kernel
theorem dL_law_238 : decode cL_law 238 = .ok (.aload_n 2, 1) := by decide +kernel
theorem dL_law_239 : decode cL_law 239 = .ok (.aload_n 0, 1) := by decide +kernel
theorem dL_law_240 : decode cL_law 240 = .ok (.iload_n 3, 1) := by decide +kernel
theorem dL_law_241 : decode cL_law 241 = .ok (.iconst 1, 1) := by decide +kernel
theorem dL_law_242 : decode cL_law 242 = .ok (.iadd, 1) := by decide +kernel
theorem dL_law_243 : decode cL_law 243 = .ok (.iaload, 1) := by decide +kernel
theorem dL_law_244 : decode cL_law 244 = .ok (.aload_n 0, 1) := by decide +kernel
theorem dL_law_245 : decode cL_law 245 = .ok (.iload_n 3, 1) := by decide +kernel
theorem dL_law_246 : decode cL_law 246 = .ok (.iconst 2, 1) := by decide +kernel
theorem dL_law_247 : decode cL_law 247 = .ok (.iadd, 1) := by decide +kernel
theorem dL_law_248 : decode cL_law 248 = .ok (.iaload, 1) := by decide +kernel
theorem dL_law_249 : decode cL_law 249 = .ok (.invokevirtual 27, 3) := by decide +kernel
theorem dL_law_252 : decode cL_law 252 = .ok (.if_icmp .eq 472, 3) := by decide +kernel
theorem dL_law_255 : decode cL_law 255 = .ok (.iconst 0, 1) := by decide +kernel
theorem dL_law_256 : decode cL_law 256 = .ok (.ireturn, 1) := by decide +kernel
theorem dL_law_257 : decode cL_law 257 = .ok (.aload_n 1, 1) := by decide +kernel
theorem dL_law_258 : decode cL_law 258 = .ok (.aload_n 0, 1) := by decide +kernel
theorem dL_law_259 : decode cL_law 259 = .ok (.iload_n 3, 1) := by decide +kernel
theorem dL_law_260 : decode cL_law 260 = .ok (.iconst 1, 1) := by decide +kernel
theorem dL_law_261 : decode cL_law 261 = .ok (.iadd, 1) := by decide +kernel
theorem dL_law_262 : decode cL_law 262 = .ok (.iaload, 1) := by decide +kernel
theorem dL_law_263 : decode cL_law 263 = .ok (.aload_n 0, 1) := by decide +kernel
theorem dL_law_264 : decode cL_law 264 = .ok (.iload_n 3, 1) := by decide +kernel
theorem dL_law_265 : decode cL_law 265 = .ok (.iconst 2, 1) := by decide +kernel
theorem dL_law_266 : decode cL_law 266 = .ok (.iadd, 1) := by decide +kernel
theorem dL_law_267 : decode cL_law 267 = .ok (.iaload, 1) := by decide +kernel
theorem dL_law_268 : decode cL_law 268 = .ok (.aload_n 0, 1) := by decide +kernel
theorem dL_law_269 : decode cL_law 269 = .ok (.iload_n 3, 1) := by decide +kernel
theorem dL_law_270 : decode cL_law 270 = .ok (.iconst 3, 1) := by decide +kernel
theorem dL_law_271 : decode cL_law 271 = .ok (.iadd, 1) := by decide +kernel
theorem dL_law_272 : decode cL_law 272 = .ok (.iaload, 1) := by decide +kernel
theorem dL_law_273 : decode cL_law 273 = .ok (.invokevirtual 28, 3) := by decide +kernel
theorem dL_law_276 : decode cL_law 276 = .ok (.aload_n 2, 1) := by decide +kernel
theorem dL_law_277 : decode cL_law 277 = .ok (.aload_n 0, 1) := by decide +kernel
theorem dL_law_278 : decode cL_law 278 = .ok (.iload_n 3, 1) := by decide +kernel
theorem dL_law_279 : decode cL_law 279 = .ok (.iconst 1, 1) := by decide +kernel
theorem dL_law_280 : decode cL_law 280 = .ok (.iadd, 1) := by decide +kernel
theorem dL_law_281 : decode cL_law 281 = .ok (.iaload, 1) := by decide +kernel
theorem dL_law_282 : decode cL_law 282 = .ok (.aload_n 0, 1) := by decide +kernel
theorem dL_law_283 : decode cL_law 283 = .ok (.iload_n 3, 1) := by decide +kernel
theorem dL_law_284 : decode cL_law 284 = .ok (.iconst 2, 1) := by decide +kernel
theorem dL_law_285 : decode cL_law 285 = .ok (.iadd, 1) := by decide +kernel
theorem dL_law_286 : decode cL_law 286 = .ok (.iaload, 1) := by decide +kernel
theorem dL_law_287 : decode cL_law 287 = .ok (.aload_n 0, 1) := by decide +kernel
theorem dL_law_288 : decode cL_law 288 = .ok (.iload_n 3, 1) := by decide +kernel
theorem dL_law_289 : decode cL_law 289 = .ok (.iconst 3, 1) := by decide +kernel
theorem dL_law_290 : decode cL_law 290 = .ok (.iadd, 1) := by decide +kernel
theorem dL_law_291 : decode cL_law 291 = .ok (.iaload, 1) := by decide +kernel
theorem dL_law_292 : decode cL_law 292 = .ok (.invokevirtual 31, 3) := by decide +kernel
theorem dL_law_295 : decode cL_law 295 = .ok (.if_icmp .eq 429, 3) := by decide +kernel
theorem dL_law_298 : decode cL_law 298 = .ok (.iconst 0, 1) := by decide +kernel
theorem dL_law_299 : decode cL_law 299 = .ok (.ireturn, 1) := by decide +kernel
theorem dL_law_300 : decode cL_law 300 = .ok (.aload_n 1, 1) := by decide +kernel
theorem dL_law_301 : decode cL_law 301 = .ok (.aload_n 0, 1) := by decide +kernel
theorem dL_law_302 : decode cL_law 302 = .ok (.iload_n 3, 1) := by decide +kernel
theorem dL_law_303 : decode cL_law 303 = .ok (.iconst 1, 1) := by decide +kernel
theorem dL_law_304 : decode cL_law 304 = .ok (.iadd, 1) := by decide +kernel
theorem dL_law_305 : decode cL_law 305 = .ok (.iaload, 1) := by decide +kernel
theorem dL_law_306 : decode cL_law 306 = .ok (.aload_n 0, 1) := by decide +kernel
theorem dL_law_307 : decode cL_law 307 = .ok (.iload_n 3, 1) := by decide +kernel
theorem dL_law_308 : decode cL_law 308 = .ok (.iconst 2, 1) := by decide +kernel
theorem dL_law_309 : decode cL_law 309 = .ok (.iadd, 1) := by decide +kernel
theorem dL_law_310 : decode cL_law 310 = .ok (.iaload, 1) := by decide +kernel
theorem dL_law_311 : decode cL_law 311 = .ok (.invokevirtual 32, 3) := by decide +kernel
theorem dL_law_314 : decode cL_law 314 = .ok (.aload_n 2, 1) := by decide +kernel
theorem dL_law_315 : decode cL_law 315 = .ok (.aload_n 0, 1) := by decide +kernel
theorem dL_law_316 : decode cL_law 316 = .ok (.iload_n 3, 1) := by decide +kernel
theorem dL_law_317 : decode cL_law 317 = .ok (.iconst 1, 1) := by decide +kernel
theorem dL_law_318 : decode cL_law 318 = .ok (.iadd, 1) := by decide +kernel
theorem dL_law_319 : decode cL_law 319 = .ok (.iaload, 1) := by decide +kernel
theorem dL_law_320 : decode cL_law 320 = .ok (.aload_n 0, 1) := by decide +kernel
theorem dL_law_321 : decode cL_law 321 = .ok (.iload_n 3, 1) := by decide +kernel
theorem dL_law_322 : decode cL_law 322 = .ok (.iconst 2, 1) := by decide +kernel
theorem dL_law_323 : decode cL_law 323 = .ok (.iadd, 1) := by decide +kernel
theorem dL_law_324 : decode cL_law 324 = .ok (.iaload, 1) := by decide +kernel
theorem dL_law_325 : decode cL_law 325 = .ok (.invokevirtual 35, 3) := by decide +kernel
theorem dL_law_328 : decode cL_law 328 = .ok (.if_icmp .eq 396, 3) := by decide +kernel
theorem dL_law_331 : decode cL_law 331 = .ok (.iconst 0, 1) := by decide +kernel
theorem dL_law_332 : decode cL_law 332 = .ok (.ireturn, 1) := by decide +kernel
theorem dL_law_333 : decode cL_law 333 = .ok (.aload_n 1, 1) := by decide +kernel
theorem dL_law_334 : decode cL_law 334 = .ok (.aload_n 0, 1) := by decide +kernel
theorem dL_law_335 : decode cL_law 335 = .ok (.iload_n 3, 1) := by decide +kernel
theorem dL_law_336 : decode cL_law 336 = .ok (.iconst 1, 1) := by decide +kernel
theorem dL_law_337 : decode cL_law 337 = .ok (.iadd, 1) := by decide +kernel
theorem dL_law_338 : decode cL_law 338 = .ok (.iaload, 1) := by decide +kernel
theorem dL_law_339 : decode cL_law 339 = .ok (.invokevirtual 36, 3) := by decide +kernel
theorem dL_law_342 : decode cL_law 342 = .ok (.aload_n 2, 1) := by decide +kernel
theorem dL_law_343 : decode cL_law 343 = .ok (.aload_n 0, 1) := by decide +kernel
theorem dL_law_344 : decode cL_law 344 = .ok (.iload_n 3, 1) := by decide +kernel
theorem dL_law_345 : decode cL_law 345 = .ok (.iconst 1, 1) := by decide +kernel
theorem dL_law_346 : decode cL_law 346 = .ok (.iadd, 1) := by decide +kernel
theorem dL_law_347 : decode cL_law 347 = .ok (.iaload, 1) := by decide +kernel
theorem dL_law_348 : decode cL_law 348 = .ok (.invokevirtual 40, 3) := by decide +kernel
theorem dL_law_351 : decode cL_law 351 = .ok (.if_icmp .eq 373, 3) := by decide +kernel
theorem dL_law_354 : decode cL_law 354 = .ok (.iconst 0, 1) := by decide +kernel
theorem dL_law_355 : decode cL_law 355 = .ok (.ireturn, 1) := by decide +kernel
theorem dL_law_356 : decode cL_law 356 = .ok (.aload_n 1, 1) := by decide +kernel
theorem dL_law_357 : decode cL_law 357 = .ok (.aload_n 0, 1) := by decide +kernel
theorem dL_law_358 : decode cL_law 358 = .ok (.iload_n 3, 1) := by decide +kernel
theorem dL_law_359 : decode cL_law 359 = .ok (.iconst 1, 1) := by decide +kernel
theorem dL_law_360 : decode cL_law 360 = .ok (.iadd, 1) := by decide +kernel
theorem dL_law_361 : decode cL_law 361 = .ok (.iaload, 1) := by decide +kernel
theorem dL_law_362 : decode cL_law 362 = .ok (.aload_n 0, 1) := by decide +kernel
theorem dL_law_363 : decode cL_law 363 = .ok (.iload_n 3, 1) := by decide +kernel
theorem dL_law_364 : decode cL_law 364 = .ok (.iconst 2, 1) := by decide +kernel
theorem dL_law_365 : decode cL_law 365 = .ok (.iadd, 1) := by decide +kernel
theorem dL_law_366 : decode cL_law 366 = .ok (.iaload, 1) := by decide +kernel
theorem dL_law_367 : decode cL_law 367 = .ok (.invokevirtual 41, 3) := by decide +kernel
theorem dL_law_370 : decode cL_law 370 = .ok (.aload_n 2, 1) := by decide +kernel
theorem dL_law_371 : decode cL_law 371 = .ok (.aload_n 0, 1) := by decide +kernel
theorem dL_law_372 : decode cL_law 372 = .ok (.iload_n 3, 1) := by decide +kernel
theorem dL_law_373 : decode cL_law 373 = .ok (.iconst 1, 1) := by decide +kernel
theorem dL_law_374 : decode cL_law 374 = .ok (.iadd, 1) := by decide +kernel
theorem dL_law_375 : decode cL_law 375 = .ok (.iaload, 1) := by decide +kernel
theorem dL_law_376 : decode cL_law 376 = .ok (.aload_n 0, 1) := by decide +kernel
theorem dL_law_377 : decode cL_law 377 = .ok (.iload_n 3, 1) := by decide +kernel
theorem dL_law_378 : decode cL_law 378 = .ok (.iconst 2, 1) := by decide +kernel
theorem dL_law_379 : decode cL_law 379 = .ok (.iadd, 1) := by decide +kernel
theorem dL_law_380 : decode cL_law 380 = .ok (.iaload, 1) := by decide +kernel
theorem dL_law_381 : decode cL_law 381 = .ok (.invokevirtual 44, 3) := by decide +kernel
theorem dL_law_384 : decode cL_law 384 = .ok (.if_icmp .eq 340, 3) := by decide +kernel
theorem dL_law_387 : decode cL_law 387 = .ok (.iconst 0, 1) := by decide +kernel
theorem dL_law_388 : decode cL_law 388 = .ok (.ireturn, 1) := by decide +kernel
theorem dL_law_389 : decode cL_law 389 = .ok (.aload_n 1, 1) := by decide +kernel
theorem dL_law_390 : decode cL_law 390 = .ok (.aload_n 0, 1) := by decide +kernel
theorem dL_law_391 : decode cL_law 391 = .ok (.iload_n 3, 1) := by decide +kernel
theorem dL_law_392 : decode cL_law 392 = .ok (.iconst 1, 1) := by decide +kernel
theorem dL_law_393 : decode cL_law 393 = .ok (.iadd, 1) := by decide +kernel
theorem dL_law_394 : decode cL_law 394 = .ok (.iaload, 1) := by decide +kernel
theorem dL_law_395 : decode cL_law 395 = .ok (.ifCond .eq 7, 3) := by decide +kernel
theorem dL_law_398 : decode cL_law 398 = .ok (.iconst 1, 1) := by decide +kernel
theorem dL_law_399 : decode cL_law 399 = .ok (.goto 4, 3) := by decide +kernel
theorem dL_law_402 : decode cL_law 402 = .ok (.iconst 0, 1) := by decide +kernel
theorem dL_law_403 : decode cL_law 403 = .ok (.invokevirtual 45, 3) := by decide +kernel
theorem dL_law_406 : decode cL_law 406 = .ok (.aload_n 2, 1) := by decide +kernel
theorem dL_law_407 : decode cL_law 407 = .ok (.aload_n 0, 1) := by decide +kernel
theorem dL_law_408 : decode cL_law 408 = .ok (.iload_n 3, 1) := by decide +kernel
theorem dL_law_409 : decode cL_law 409 = .ok (.iconst 1, 1) := by decide +kernel
theorem dL_law_410 : decode cL_law 410 = .ok (.iadd, 1) := by decide +kernel
theorem dL_law_411 : decode cL_law 411 = .ok (.iaload, 1) := by decide +kernel
theorem dL_law_412 : decode cL_law 412 = .ok (.ifCond .eq 7, 3) := by decide +kernel
theorem dL_law_415 : decode cL_law 415 = .ok (.iconst 1, 1) := by decide +kernel
theorem dL_law_416 : decode cL_law 416 = .ok (.goto 4, 3) := by decide +kernel
theorem dL_law_419 : decode cL_law 419 = .ok (.iconst 0, 1) := by decide +kernel
theorem dL_law_420 : decode cL_law 420 = .ok (.invokevirtual 49, 3) := by decide +kernel
theorem dL_law_423 : decode cL_law 423 = .ok (.if_icmp .eq 301, 3) := by decide +kernel
theorem dL_law_426 : decode cL_law 426 = .ok (.iconst 0, 1) := by decide +kernel
theorem dL_law_427 : decode cL_law 427 = .ok (.ireturn, 1) := by decide +kernel
theorem dL_law_428 : decode cL_law 428 = .ok (.aload_n 1, 1) := by decide +kernel
theorem dL_law_429 : decode cL_law 429 = .ok (.invokevirtual 50, 3) := by decide +kernel
theorem dL_law_432 : decode cL_law 432 = .ok (.aload_n 2, 1) := by decide +kernel
theorem dL_law_433 : decode cL_law 433 = .ok (.invokevirtual 54, 3) := by decide +kernel
theorem dL_law_436 : decode cL_law 436 = .ok (.if_icmp .eq 288, 3) := by decide +kernel
theorem dL_law_439 : decode cL_law 439 = .ok (.iconst 0, 1) := by decide +kernel
theorem dL_law_440 : decode cL_law 440 = .ok (.ireturn, 1) := by decide +kernel
theorem dL_law_441 : decode cL_law 441 = .ok (.aload_n 1, 1) := by decide +kernel
theorem dL_law_442 : decode cL_law 442 = .ok (.aload_n 0, 1) := by decide +kernel
theorem dL_law_443 : decode cL_law 443 = .ok (.iload_n 3, 1) := by decide +kernel
theorem dL_law_444 : decode cL_law 444 = .ok (.iconst 1, 1) := by decide +kernel
theorem dL_law_445 : decode cL_law 445 = .ok (.iadd, 1) := by decide +kernel
theorem dL_law_446 : decode cL_law 446 = .ok (.iaload, 1) := by decide +kernel
theorem dL_law_447 : decode cL_law 447 = .ok (.invokevirtual 55, 3) := by decide +kernel
theorem dL_law_450 : decode cL_law 450 = .ok (.aload_n 2, 1) := by decide +kernel
theorem dL_law_451 : decode cL_law 451 = .ok (.aload_n 0, 1) := by decide +kernel
theorem dL_law_452 : decode cL_law 452 = .ok (.iload_n 3, 1) := by decide +kernel
theorem dL_law_453 : decode cL_law 453 = .ok (.iconst 1, 1) := by decide +kernel
theorem dL_law_454 : decode cL_law 454 = .ok (.iadd, 1) := by decide +kernel
theorem dL_law_455 : decode cL_law 455 = .ok (.iaload, 1) := by decide +kernel
theorem dL_law_456 : decode cL_law 456 = .ok (.invokevirtual 58, 3) := by decide +kernel
theorem dL_law_459 : decode cL_law 459 = .ok (.if_icmp .eq 265, 3) := by decide +kernel
theorem dL_law_462 : decode cL_law 462 = .ok (.iconst 0, 1) := by decide +kernel
theorem dL_law_463 : decode cL_law 463 = .ok (.ireturn, 1) := by decide +kernel
theorem dL_law_464 : decode cL_law 464 = .ok (.aload_n 1, 1) := by decide +kernel
theorem dL_law_465 : decode cL_law 465 = .ok (.invokevirtual 59, 3) := by decide +kernel
theorem dL_law_468 : decode cL_law 468 = .ok (.aload_n 2, 1) := by decide +kernel
theorem dL_law_469 : decode cL_law 469 = .ok (.invokevirtual 62, 3) := by decide +kernel
theorem dL_law_472 : decode cL_law 472 = .ok (.if_icmp .eq 252, 3) := by decide +kernel
theorem dL_law_475 : decode cL_law 475 = .ok (.iconst 0, 1) := by decide +kernel
theorem dL_law_476 : decode cL_law 476 = .ok (.ireturn, 1) := by decide +kernel
theorem dL_law_477 : decode cL_law 477 = .ok (.aload_n 1, 1) := by decide +kernel
theorem dL_law_478 : decode cL_law 478 = .ok (.aload_n 0, 1) := by decide +kernel
theorem dL_law_479 : decode cL_law 479 = .ok (.iload_n 3, 1) := by decide +kernel
theorem dL_law_480 : decode cL_law 480 = .ok (.iconst 1, 1) := by decide +kernel
theorem dL_law_481 : decode cL_law 481 = .ok (.iadd, 1) := by decide +kernel
theorem dL_law_482 : decode cL_law 482 = .ok (.iaload, 1) := by decide +kernel
theorem dL_law_483 : decode cL_law 483 = .ok (.invokevirtual 63, 3) := by decide +kernel
theorem dL_law_486 : decode cL_law 486 = .ok (.aload_n 2, 1) := by decide +kernel
theorem dL_law_487 : decode cL_law 487 = .ok (.aload_n 0, 1) := by decide +kernel
theorem dL_law_488 : decode cL_law 488 = .ok (.iload_n 3, 1) := by decide +kernel
theorem dL_law_489 : decode cL_law 489 = .ok (.iconst 1, 1) := by decide +kernel
theorem dL_law_490 : decode cL_law 490 = .ok (.iadd, 1) := by decide +kernel
theorem dL_law_491 : decode cL_law 491 = .ok (.iaload, 1) := by decide +kernel
theorem dL_law_492 : decode cL_law 492 = .ok (.invokevirtual 66, 3) := by decide +kernel
theorem dL_law_495 : decode cL_law 495 = .ok (.if_icmp .eq 229, 3) := by decide +kernel
theorem dL_law_498 : decode cL_law 498 = .ok (.iconst 0, 1) := by decide +kernel
theorem dL_law_499 : decode cL_law 499 = .ok (.ireturn, 1) := by decide +kernel
theorem dL_law_500 : decode cL_law 500 = .ok (.aload_n 1, 1) := by decide +kernel
theorem dL_law_501 : decode cL_law 501 = .ok (.aload_n 0, 1) := by decide +kernel
theorem dL_law_502 : decode cL_law 502 = .ok (.iload_n 3, 1) := by decide +kernel
theorem dL_law_503 : decode cL_law 503 = .ok (.iconst 1, 1) := by decide +kernel
theorem dL_law_504 : decode cL_law 504 = .ok (.iadd, 1) := by decide +kernel
theorem dL_law_505 : decode cL_law 505 = .ok (.iaload, 1) := by decide +kernel
theorem dL_law_506 : decode cL_law 506 = .ok (.invokevirtual 67, 3) := by decide +kernel
theorem dL_law_509 : decode cL_law 509 = .ok (.aload_n 2, 1) := by decide +kernel
theorem dL_law_510 : decode cL_law 510 = .ok (.aload_n 0, 1) := by decide +kernel
theorem dL_law_511 : decode cL_law 511 = .ok (.iload_n 3, 1) := by decide +kernel
theorem dL_law_512 : decode cL_law 512 = .ok (.iconst 1, 1) := by decide +kernel
theorem dL_law_513 : decode cL_law 513 = .ok (.iadd, 1) := by decide +kernel
theorem dL_law_514 : decode cL_law 514 = .ok (.iaload, 1) := by decide +kernel
theorem dL_law_515 : decode cL_law 515 = .ok (.invokevirtual 70, 3) := by decide +kernel
theorem dL_law_518 : decode cL_law 518 = .ok (.if_icmp .eq 206, 3) := by decide +kernel
theorem dL_law_521 : decode cL_law 521 = .ok (.iconst 0, 1) := by decide +kernel
theorem dL_law_522 : decode cL_law 522 = .ok (.ireturn, 1) := by decide +kernel
theorem dL_law_523 : decode cL_law 523 = .ok (.aload_n 1, 1) := by decide +kernel
theorem dL_law_524 : decode cL_law 524 = .ok (.aload_n 0, 1) := by decide +kernel
theorem dL_law_525 : decode cL_law 525 = .ok (.iload_n 3, 1) := by decide +kernel
theorem dL_law_526 : decode cL_law 526 = .ok (.iconst 1, 1) := by decide +kernel
theorem dL_law_527 : decode cL_law 527 = .ok (.iadd, 1) := by decide +kernel
theorem dL_law_528 : decode cL_law 528 = .ok (.iaload, 1) := by decide +kernel
theorem dL_law_529 : decode cL_law 529 = .ok (.invokevirtual 71, 3) := by decide +kernel
theorem dL_law_532 : decode cL_law 532 = .ok (.aload_n 2, 1) := by decide +kernel
theorem dL_law_533 : decode cL_law 533 = .ok (.aload_n 0, 1) := by decide +kernel
theorem dL_law_534 : decode cL_law 534 = .ok (.iload_n 3, 1) := by decide +kernel
theorem dL_law_535 : decode cL_law 535 = .ok (.iconst 1, 1) := by decide +kernel
theorem dL_law_536 : decode cL_law 536 = .ok (.iadd, 1) := by decide +kernel
theorem dL_law_537 : decode cL_law 537 = .ok (.iaload, 1) := by decide +kernel
theorem dL_law_538 : decode cL_law 538 = .ok (.invokevirtual 74, 3) := by decide +kernel
theorem dL_law_541 : decode cL_law 541 = .ok (.if_icmp .eq 183, 3) := by decide +kernel
theorem dL_law_544 : decode cL_law 544 = .ok (.iconst 0, 1) := by decide +kernel
theorem dL_law_545 : decode cL_law 545 = .ok (.ireturn, 1) := by decide +kernel
theorem dL_law_546 : decode cL_law 546 = .ok (.aload_n 1, 1) := by decide +kernel
theorem dL_law_547 : decode cL_law 547 = .ok (.aload_n 0, 1) := by decide +kernel
theorem dL_law_548 : decode cL_law 548 = .ok (.iload_n 3, 1) := by decide +kernel
theorem dL_law_549 : decode cL_law 549 = .ok (.iconst 1, 1) := by decide +kernel
theorem dL_law_550 : decode cL_law 550 = .ok (.iadd, 1) := by decide +kernel
theorem dL_law_551 : decode cL_law 551 = .ok (.iaload, 1) := by decide +kernel
theorem dL_law_552 : decode cL_law 552 = .ok (.aload_n 0, 1) := by decide +kernel
theorem dL_law_553 : decode cL_law 553 = .ok (.iload_n 3, 1) := by decide +kernel
theorem dL_law_554 : decode cL_law 554 = .ok (.iconst 2, 1) := by decide +kernel
theorem dL_law_555 : decode cL_law 555 = .ok (.iadd, 1) := by decide +kernel
theorem dL_law_556 : decode cL_law 556 = .ok (.iaload, 1) := by decide +kernel
theorem dL_law_557 : decode cL_law 557 = .ok (.aload_n 0, 1) := by decide +kernel
theorem dL_law_558 : decode cL_law 558 = .ok (.iload_n 3, 1) := by decide +kernel
theorem dL_law_559 : decode cL_law 559 = .ok (.iconst 3, 1) := by decide +kernel
theorem dL_law_560 : decode cL_law 560 = .ok (.iadd, 1) := by decide +kernel
theorem dL_law_561 : decode cL_law 561 = .ok (.iaload, 1) := by decide +kernel
theorem dL_law_562 : decode cL_law 562 = .ok (.invokevirtual 75, 3) := by decide +kernel
theorem dL_law_565 : decode cL_law 565 = .ok (.aload_n 2, 1) := by decide +kernel
theorem dL_law_566 : decode cL_law 566 = .ok (.aload_n 0, 1) := by decide +kernel
theorem dL_law_567 : decode cL_law 567 = .ok (.iload_n 3, 1) := by decide +kernel
theorem dL_law_568 : decode cL_law 568 = .ok (.iconst 1, 1) := by decide +kernel
theorem dL_law_569 : decode cL_law 569 = .ok (.iadd, 1) := by decide +kernel
theorem dL_law_570 : decode cL_law 570 = .ok (.iaload, 1) := by decide +kernel
theorem dL_law_571 : decode cL_law 571 = .ok (.aload_n 0, 1) := by decide +kernel
theorem dL_law_572 : decode cL_law 572 = .ok (.iload_n 3, 1) := by decide +kernel
theorem dL_law_573 : decode cL_law 573 = .ok (.iconst 2, 1) := by decide +kernel
theorem dL_law_574 : decode cL_law 574 = .ok (.iadd, 1) := by decide +kernel
theorem dL_law_575 : decode cL_law 575 = .ok (.iaload, 1) := by decide +kernel
theorem dL_law_576 : decode cL_law 576 = .ok (.aload_n 0, 1) := by decide +kernel
theorem dL_law_577 : decode cL_law 577 = .ok (.iload_n 3, 1) := by decide +kernel
theorem dL_law_578 : decode cL_law 578 = .ok (.iconst 3, 1) := by decide +kernel
theorem dL_law_579 : decode cL_law 579 = .ok (.iadd, 1) := by decide +kernel
theorem dL_law_580 : decode cL_law 580 = .ok (.iaload, 1) := by decide +kernel
theorem dL_law_581 : decode cL_law 581 = .ok (.invokevirtual 78, 3) := by decide +kernel
theorem dL_law_584 : decode cL_law 584 = .ok (.if_icmp .eq 140, 3) := by decide +kernel
theorem dL_law_587 : decode cL_law 587 = .ok (.iconst 0, 1) := by decide +kernel
theorem dL_law_588 : decode cL_law 588 = .ok (.ireturn, 1) := by decide +kernel
theorem dL_law_589 : decode cL_law 589 = .ok (.aload_n 1, 1) := by decide +kernel
theorem dL_law_590 : decode cL_law 590 = .ok (.aload_n 0, 1) := by decide +kernel
theorem dL_law_591 : decode cL_law 591 = .ok (.iload_n 3, 1) := by decide +kernel
theorem dL_law_592 : decode cL_law 592 = .ok (.iconst 1, 1) := by decide +kernel
theorem dL_law_593 : decode cL_law 593 = .ok (.iadd, 1) := by decide +kernel
theorem dL_law_594 : decode cL_law 594 = .ok (.iaload, 1) := by decide +kernel
theorem dL_law_595 : decode cL_law 595 = .ok (.aload_n 0, 1) := by decide +kernel
theorem dL_law_596 : decode cL_law 596 = .ok (.iload_n 3, 1) := by decide +kernel
theorem dL_law_597 : decode cL_law 597 = .ok (.iconst 2, 1) := by decide +kernel
theorem dL_law_598 : decode cL_law 598 = .ok (.iadd, 1) := by decide +kernel
theorem dL_law_599 : decode cL_law 599 = .ok (.iaload, 1) := by decide +kernel
theorem dL_law_600 : decode cL_law 600 = .ok (.invokevirtual 79, 3) := by decide +kernel
theorem dL_law_603 : decode cL_law 603 = .ok (.aload_n 2, 1) := by decide +kernel
theorem dL_law_604 : decode cL_law 604 = .ok (.aload_n 0, 1) := by decide +kernel
theorem dL_law_605 : decode cL_law 605 = .ok (.iload_n 3, 1) := by decide +kernel
theorem dL_law_606 : decode cL_law 606 = .ok (.iconst 1, 1) := by decide +kernel
theorem dL_law_607 : decode cL_law 607 = .ok (.iadd, 1) := by decide +kernel
theorem dL_law_608 : decode cL_law 608 = .ok (.iaload, 1) := by decide +kernel
theorem dL_law_609 : decode cL_law 609 = .ok (.aload_n 0, 1) := by decide +kernel
theorem dL_law_610 : decode cL_law 610 = .ok (.iload_n 3, 1) := by decide +kernel
theorem dL_law_611 : decode cL_law 611 = .ok (.iconst 2, 1) := by decide +kernel
theorem dL_law_612 : decode cL_law 612 = .ok (.iadd, 1) := by decide +kernel
theorem dL_law_613 : decode cL_law 613 = .ok (.iaload, 1) := by decide +kernel
theorem dL_law_614 : decode cL_law 614 = .ok (.invokevirtual 82, 3) := by decide +kernel
theorem dL_law_617 : decode cL_law 617 = .ok (.if_icmp .eq 107, 3) := by decide +kernel
theorem dL_law_620 : decode cL_law 620 = .ok (.iconst 0, 1) := by decide +kernel
theorem dL_law_621 : decode cL_law 621 = .ok (.ireturn, 1) := by decide +kernel
theorem dL_law_622 : decode cL_law 622 = .ok (.aload_n 1, 1) := by decide +kernel
theorem dL_law_623 : decode cL_law 623 = .ok (.aload_n 0, 1) := by decide +kernel
theorem dL_law_624 : decode cL_law 624 = .ok (.iload_n 3, 1) := by decide +kernel
theorem dL_law_625 : decode cL_law 625 = .ok (.iconst 1, 1) := by decide +kernel
theorem dL_law_626 : decode cL_law 626 = .ok (.iadd, 1) := by decide +kernel
theorem dL_law_627 : decode cL_law 627 = .ok (.iaload, 1) := by decide +kernel
theorem dL_law_628 : decode cL_law 628 = .ok (.aload_n 0, 1) := by decide +kernel
theorem dL_law_629 : decode cL_law 629 = .ok (.iload_n 3, 1) := by decide +kernel
theorem dL_law_630 : decode cL_law 630 = .ok (.iconst 2, 1) := by decide +kernel
theorem dL_law_631 : decode cL_law 631 = .ok (.iadd, 1) := by decide +kernel
theorem dL_law_632 : decode cL_law 632 = .ok (.iaload, 1) := by decide +kernel
theorem dL_law_633 : decode cL_law 633 = .ok (.invokevirtual 83, 3) := by decide +kernel
theorem dL_law_636 : decode cL_law 636 = .ok (.aload_n 2, 1) := by decide +kernel
theorem dL_law_637 : decode cL_law 637 = .ok (.aload_n 0, 1) := by decide +kernel
theorem dL_law_638 : decode cL_law 638 = .ok (.iload_n 3, 1) := by decide +kernel
theorem dL_law_639 : decode cL_law 639 = .ok (.iconst 1, 1) := by decide +kernel
theorem dL_law_640 : decode cL_law 640 = .ok (.iadd, 1) := by decide +kernel
theorem dL_law_641 : decode cL_law 641 = .ok (.iaload, 1) := by decide +kernel
theorem dL_law_642 : decode cL_law 642 = .ok (.aload_n 0, 1) := by decide +kernel
theorem dL_law_643 : decode cL_law 643 = .ok (.iload_n 3, 1) := by decide +kernel
theorem dL_law_644 : decode cL_law 644 = .ok (.iconst 2, 1) := by decide +kernel
theorem dL_law_645 : decode cL_law 645 = .ok (.iadd, 1) := by decide +kernel
theorem dL_law_646 : decode cL_law 646 = .ok (.iaload, 1) := by decide +kernel
theorem dL_law_647 : decode cL_law 647 = .ok (.invokevirtual 86, 3) := by decide +kernel
theorem dL_law_650 : decode cL_law 650 = .ok (.if_icmp .eq 74, 3) := by decide +kernel
theorem dL_law_653 : decode cL_law 653 = .ok (.iconst 0, 1) := by decide +kernel
theorem dL_law_654 : decode cL_law 654 = .ok (.ireturn, 1) := by decide +kernel
theorem dL_law_655 : decode cL_law 655 = .ok (.aload_n 1, 1) := by decide +kernel
theorem dL_law_656 : decode cL_law 656 = .ok (.invokevirtual 87, 3) := by decide +kernel
theorem dL_law_659 : decode cL_law 659 = .ok (.aload_n 2, 1) := by decide +kernel
theorem dL_law_660 : decode cL_law 660 = .ok (.invokevirtual 90, 3) := by decide +kernel
theorem dL_law_663 : decode cL_law 663 = .ok (.if_icmp .eq 61, 3) := by decide +kernel
theorem dL_law_666 : decode cL_law 666 = .ok (.iconst 0, 1) := by decide +kernel
theorem dL_law_667 : decode cL_law 667 = .ok (.ireturn, 1) := by decide +kernel
theorem dL_law_668 : decode cL_law 668 = .ok (.aload_n 1, 1) := by decide +kernel
theorem dL_law_669 : decode cL_law 669 = .ok (.aload_n 0, 1) := by decide +kernel
theorem dL_law_670 : decode cL_law 670 = .ok (.iload_n 3, 1) := by decide +kernel
theorem dL_law_671 : decode cL_law 671 = .ok (.iconst 1, 1) := by decide +kernel
theorem dL_law_672 : decode cL_law 672 = .ok (.iadd, 1) := by decide +kernel
theorem dL_law_673 : decode cL_law 673 = .ok (.iaload, 1) := by decide +kernel
theorem dL_law_674 : decode cL_law 674 = .ok (.invokevirtual 91, 3) := by decide +kernel
theorem dL_law_677 : decode cL_law 677 = .ok (.aload_n 2, 1) := by decide +kernel
theorem dL_law_678 : decode cL_law 678 = .ok (.aload_n 0, 1) := by decide +kernel
theorem dL_law_679 : decode cL_law 679 = .ok (.iload_n 3, 1) := by decide +kernel
theorem dL_law_680 : decode cL_law 680 = .ok (.iconst 1, 1) := by decide +kernel
theorem dL_law_681 : decode cL_law 681 = .ok (.iadd, 1) := by decide +kernel
theorem dL_law_682 : decode cL_law 682 = .ok (.iaload, 1) := by decide +kernel
theorem dL_law_683 : decode cL_law 683 = .ok (.invokevirtual 94, 3) := by decide +kernel
theorem dL_law_686 : decode cL_law 686 = .ok (.if_icmp .eq 38, 3) := by decide +kernel
theorem dL_law_689 : decode cL_law 689 = .ok (.iconst 0, 1) := by decide +kernel
theorem dL_law_690 : decode cL_law 690 = .ok (.ireturn, 1) := by decide +kernel
theorem dL_law_691 : decode cL_law 691 = .ok (.aload_n 1, 1) := by decide +kernel
theorem dL_law_692 : decode cL_law 692 = .ok (.aload_n 0, 1) := by decide +kernel
theorem dL_law_693 : decode cL_law 693 = .ok (.iload_n 3, 1) := by decide +kernel
theorem dL_law_694 : decode cL_law 694 = .ok (.iconst 1, 1) := by decide +kernel
theorem dL_law_695 : decode cL_law 695 = .ok (.iadd, 1) := by decide +kernel
theorem dL_law_696 : decode cL_law 696 = .ok (.iaload, 1) := by decide +kernel
theorem dL_law_697 : decode cL_law 697 = .ok (.aload_n 0, 1) := by decide +kernel
theorem dL_law_698 : decode cL_law 698 = .ok (.iload_n 3, 1) := by decide +kernel
theorem dL_law_699 : decode cL_law 699 = .ok (.iconst 2, 1) := by decide +kernel
theorem dL_law_700 : decode cL_law 700 = .ok (.iadd, 1) := by decide +kernel
theorem dL_law_701 : decode cL_law 701 = .ok (.iaload, 1) := by decide +kernel
theorem dL_law_702 : decode cL_law 702 = .ok (.invokevirtual 95, 3) := by decide +kernel
theorem dL_law_705 : decode cL_law 705 = .ok (.aload_n 2, 1) := by decide +kernel
theorem dL_law_706 : decode cL_law 706 = .ok (.aload_n 0, 1) := by decide +kernel
theorem dL_law_707 : decode cL_law 707 = .ok (.iload_n 3, 1) := by decide +kernel
theorem dL_law_708 : decode cL_law 708 = .ok (.iconst 1, 1) := by decide +kernel
theorem dL_law_709 : decode cL_law 709 = .ok (.iadd, 1) := by decide +kernel
theorem dL_law_710 : decode cL_law 710 = .ok (.iaload, 1) := by decide +kernel
theorem dL_law_711 : decode cL_law 711 = .ok (.aload_n 0, 1) := by decide +kernel
theorem dL_law_712 : decode cL_law 712 = .ok (.iload_n 3, 1) := by decide +kernel
theorem dL_law_713 : decode cL_law 713 = .ok (.iconst 2, 1) := by decide +kernel
theorem dL_law_714 : decode cL_law 714 = .ok (.iadd, 1) := by decide +kernel
theorem dL_law_715 : decode cL_law 715 = .ok (.iaload, 1) := by decide +kernel
theorem dL_law_716 : decode cL_law 716 = .ok (.invokevirtual 98, 3) := by decide +kernel
theorem dL_law_719 : decode cL_law 719 = .ok (.if_icmp .eq 5, 3) := by decide +kernel
theorem dL_law_722 : decode cL_law 722 = .ok (.iconst 0, 1) := by decide +kernel
theorem dL_law_723 : decode cL_law 723 = .ok (.ireturn, 1) := by decide +kernel
theorem dL_law_724 : decode cL_law 724 = .ok (.iinc 3 5, 3) := by decide +kernel
theorem dL_law_727 : decode cL_law 727 = .ok (.goto (-709), 3) := by decide +kernel
theorem dL_law_730 : decode cL_law 730 = .ok (.iconst 1, 1) := by decide +kernel
theorem dL_law_731 : decode cL_law 731 = .ok (.ireturn, 1) := by decide +kernel
end
section
/-! THE LAYER OF OUR OWN: one world of named cells (kind, number), one contract form, one row an instruction -/
abbrev gAd : Type := Nat → Nat → Nat
abbrev gCe : Type := Nat → Nat → Option va_E
abbrev gEc : Type := Nat → ClassId
abbrev gR : Type := Nat → List (Nat × Value) → List Value → gAd → gCe → Nat → Nat → Prop
def gTys (E : gEc) : List (ClassId × FieldType) := [(E 0, .int), (E 1, .boolean), (E 2, .object RX1), (E 3, .object RX4)]
def gK (D : va_G) (E : gEc) (U : State) : Prop := va_K D vwCl (gTys E) U ∧ va_AO RX1 U ∧ va_AO RX4 U ∧ gNs U
theorem gK.warm {D : va_G} {E : gEc} {s U : State} (hW : s.WarmedH U.vm) (h : gK D E s) : gK D E U := by
  obtain ⟨h1, h2, h3, n1, n2, n3, n4⟩ := h
  exact ⟨va_K.moved hW.alike h1, va_AO.moved hW.alike h2, va_AO.moved hW.alike h3, va_Nw.warmM hW n1, va_Nw.warmM hW n2, va_Nw.warmM hW n3, va_Nw.warmM hW n4⟩
theorem gK.same {D : va_G} {E : gEc} {u U : State} (hv : u.vm = U.vm) (h : gK D E u) : gK D E U := by
  obtain ⟨h1, h2, h3, n1, n2, n3, n4⟩ := h
  have ha : u.vm.Alike U.vm := by rw [← hv]; exact Vm.Alike.refl u.vm
  exact ⟨va_K.moved ha h1, va_AO.moved ha h2, va_AO.moved ha h3, va_Nw.same rfl hv n1, va_Nw.same rfl hv n2, va_Nw.same rfl hv n3, va_Nw.same rfl hv n4⟩
/-- the world: every named cell lies at its address, holds what ce says, addresses are apart -/
def gW (D : va_G) (A : Nat → Prop) (ad : gAd) (ce : gCe) (H : Heap) : Prop := ∃ (L : List Nat) (f : Nat → va_E), va_P D vwCl ([] ++ va_pl L f) H ∧ va_D A ([] ++ va_pl L f) ∧ (∀ (k i : Nat) (e : va_E), ce k i = some e → ad k i ∈ L ∧ f (ad k i) = e) ∧ ∀ (k i k' i' : Nat) (e e' : va_E), ce k i = some e → ce k' i' = some e' → ad k i = ad k' i' → k = k' ∧ i = i'
def gup (ce : gCe) (k i : Nat) (e : va_E) : gCe := fun k' i' => if k' = k ∧ i' = i then some e else ce k' i'
def gua (ad : gAd) (k i : Nat) (q : Nat) : gAd := fun k' i' => if k' = k ∧ i' = i then q else ad k' i'
def gQ (D : va_G) (A : Nat → Prop) (post : Option Value → gAd → gCe → Prop) : Array Value → State → Outcome → State → Prop := fun _ st oc t => (∃ (v : Option Value) (ad : gAd) (ce : gCe), oc = .returned v ∧ post v ad ce ∧ gW D A ad ce t.heap) ∧ va_F A st t
def gP (D : va_G) (A : Nat → Prop) (E : gEc) (av : List Value) (ad : gAd) (ce : gCe) : Array Value → State → Prop := va_Pc av (fun U => gK D E U ∧ (∀ q : Nat, U.heap.size ≤ q → A q) ∧ gW D A ad ce U.heap)
def gRm (d mc ms : Nat) : Room := { frames := d, cells := mc, slots := ms, locals := 30 * d }
def gWs (y : MethodName) (cc : ByteArray) (nL : Nat) (ret : Option FieldType) : List Cond := .code y cc nL ret :: gTB
/-- a contract: from the world ad, ce with arguments av, the method returns v and leaves a world with post -/
def gCon (D : va_G) (E : gEc) (y : MethodName) (cc : ByteArray) (nL : Nat) (ret : Option FieldType) (d mc ms : Nat) (av : List Value) (ad : gAd) (ce : gCe) (post : Option Value → gAd → gCe → Prop) : Prop :=
  ∀ (l : Launch) (A : Nat → Prop), Met l y (gWs y cc nL ret) (gRm d mc ms) (gP D A E av ad ce) (gQ D A post) mc ms A
def gRun (p : Program) (l : Launch) (e : Env) (R : Room) (s : State) (m : MethodId) (args : Array Value) (below : List Frame) (meth : Method) (c : Code) (D : va_G) (A : Nat → Prop) (nL : Nat) (Q : State → Prop) : gR := fun pc lv st ad ce k n =>
  ∀ (H : Heap) (locs : List Loc) (ls : Array Slot), lv_has ls nL lv → va_S A s.heap H locs → gW D A ad ce H → W p l e R s m args below meth c H locs k n Q (F0 m pc ls st)
/-- a place to walk in -/
def gOk (l : Launch) (R : Room) (cc : ByteArray) (nL : Nat) (own nm : String) (D : va_G) (A : Nat → Prop) (E : gEc) (Rn : gR) : Prop :=
  ∃ (p : Program) (e : Env) (s : State) (m : MethodId) (args : Array Value) (below : List Frame) (meth : Method) (c : Code) (Q : State → Prop), Rn = gRun p l e R s m args below meth c D A nL Q ∧ p.tables.exec = Jvm.exec ∧ c.code = cc ∧ c.maxLocals = nL ∧ s.vm.findClass own = some m.cls ∧ (∀ w ∈ gTB, w.before args s = true) ∧ gK D E s ∧ (∀ q : Nat, s.heap.size ≤ q → A q) ∧ meth.name = nm
/-- a method's place: it returns by post -/
def gOkM (l : Launch) (R : Room) (cc : ByteArray) (nL : Nat) (ret : Option FieldType) (own nm : String) (D : va_G) (A : Nat → Prop) (E : gEc) (mc ms : Nat) (post : Option Value → gAd → gCe → Prop) (Rn : gR) : Prop :=
  ∃ (p : Program) (e : Env) (s : State) (m : MethodId) (args : Array Value) (below : List Frame) (meth : Method) (c : Code), Rn = gRun p l e R s m args below meth c D A nL (MQ below (gQ D A post) args s mc ms A) ∧ p.tables.exec = Jvm.exec ∧ c.code = cc ∧ c.maxLocals = nL ∧ s.vm.findClass own = some m.cls ∧ (∀ w ∈ gTB, w.before args s = true) ∧ gK D E s ∧ (∀ q : Nat, s.heap.size ≤ q → A q) ∧ meth.name = nm ∧ meth.sig.returnType = ret ∧ meth.locks = false
theorem gOkM.ok {l : Launch} {R : Room} {cc : ByteArray} {nL : Nat} {ret : Option FieldType} {own nm : String} {D : va_G} {A : Nat → Prop} {E : gEc} {mc ms : Nat} {post : Option Value → gAd → gCe → Prop} {Rn : gR} (h : gOkM l R cc nL ret own nm D A E mc ms post Rn) : gOk l R cc nL own nm D A E Rn := by
  obtain ⟨p, e, s, m, args, below, meth, c, rfl, h1, h2, h3, h4, h5, h6, h7, h8, h9, h10⟩ := h
  exact ⟨p, e, s, m, args, below, meth, c, _, rfl, h1, h2, h3, h4, h5, h6, h7, h8⟩
theorem gm {w : Cond} (h : w ∈ lw_tbl) (hg : goodWord w = true) : w ∈ gTB := List.mem_filter.mpr ⟨h, hg⟩
theorem gmU {C : String} {T : u_T} {N : Nat} (h : ∀ w ∈ u_ws C T N, w ∈ lw_tbl) : ∀ w ∈ u_ws C T N, w ∈ gTB := fun w hw => gm (h w hw) (by
  obtain ⟨k, -, rfl⟩ := List.mem_map.mp hw
  unfold u_lay
  split <;> rfl)
theorem gTB_good : ∀ w ∈ gTB, goodWord w = true := fun w h => (List.mem_filter.mp h).2
theorem gGood {ws : List Cond} (h : ∀ w ∈ ws, w ∈ gTB) : GoodIn gTB ws := fun w hw => ⟨h w hw, good_of_word (gTB_good w (h w hw))⟩
theorem gGoodWs {y : MethodName} {cc : ByteArray} {nL : Nat} {ret : Option FieldType} (h : Cond.code y cc nL ret ∈ lw_tbl) : GoodIn gTB (gWs y cc nL ret) := gGood (fun w hw => by
  rcases List.mem_cons.mp hw with rfl | hw
  · exact gm h rfl
  · exact hw)
/-- a method's contract out of its walk -/
theorem gCon.of {D : va_G} {E : gEc} {y : MethodName} {cc : ByteArray} {nL : Nat} {ret : Option FieldType} {d mc ms : Nat} {av : List Value} {ad : gAd} {ce : gCe} {post : Option Value → gAd → gCe → Prop} (hy : plainName y.cls = true) (hav : (lg_sl av).length ≤ nL)
    (body : ∀ (l : Launch) (A : Nat → Prop) (Rn : gR), gOkM l (gRm d mc ms) cc nL ret y.cls y.name D A E mc ms post Rn → Rn 0 (lv_args 0 av) [] ad ce 0 0) : gCon D E y cc nL ret d mc ms av ad ce post := by
  intro l A
  refine Met.ofW (cc := cc) (maxL := nL) (ret := ret) hy rfl ?_
  intro p e s m args below meth c s₁ B hml hv
  obtain ⟨rfl, hK, hA, hW⟩ := hv
  have hts := atoms_spec (ws := gWs y cc nL ret) B.pre
  have hnm : meth.name = y.name := (name_of_methodNamed B.named B.method).1
  have key := body l A _ ⟨p, e, s, m, av.toArray, below, meth, c, rfl, B.exec, B.bytes, hml, findClass_of_methodNamed B.named, fun w hw => hts w (List.mem_cons_of_mem _ hw), hK, hA, hnm, B.returns, B.notSynchronized⟩
  have hl := lv_entry av (n := nL) hav
  rw [lg_entry_eq]
  exact key s.heap [] _ hl va_S.rf hW
section GR
variable {l : Launch} {R : Room} {cc : ByteArray} {nL : Nat} {own nm : String} {D : va_G} {A : Nat → Prop} {E : gEc} {Rn : gR} {pc : Nat} {lv lv' : List (Nat × Value)} {st : List Value} {ad : gAd} {ce : gCe} {k n : Nat}
theorem r_iconst (h : gOk l R cc nL own nm D A E Rn) {z : Int} {v : Int32} (hd : decode cc pc = .ok (.iconst z, 1)) (hv : Int32.ofInt z = v) (kk : Rn (pc + 1) lv (.int v :: st) ad ce k n) : Rn pc lv st ad ce k n := by
  obtain ⟨p, e, s, m, args, below, meth, c, Q, rfl, hx, hb, hml, hown, hts, hK, hA, hnm⟩ := h
  intro H locs ls hl hS hW
  exact lv_iconst hx hb hd hv (kk H locs ls hl hS hW)
theorem r_bipush (h : gOk l R cc nL own nm D A E Rn) {z : Int} {v : Int32} (hd : decode cc pc = .ok (.bipush z, 2)) (hv : (Int8.ofInt z).toInt32 = v) (kk : Rn (pc + 2) lv (.int v :: st) ad ce k n) : Rn pc lv st ad ce k n := by
  obtain ⟨p, e, s, m, args, below, meth, c, Q, rfl, hx, hb, hml, hown, hts, hK, hA, hnm⟩ := h
  intro H locs ls hl hS hW
  exact lv_bipush hx hb hd hv (kk H locs ls hl hS hW)
theorem r_sipush (h : gOk l R cc nL own nm D A E Rn) {z : Int} {v : Int32} (hd : decode cc pc = .ok (.sipush z, 3)) (hv : (Int16.ofInt z).toInt32 = v) (kk : Rn (pc + 3) lv (.int v :: st) ad ce k n) : Rn pc lv st ad ce k n := by
  obtain ⟨p, e, s, m, args, below, meth, c, Q, rfl, hx, hb, hml, hown, hts, hK, hA, hnm⟩ := h
  intro H locs ls hl hS hW
  exact lv_sipush hx hb hd hv (kk H locs ls hl hS hW)
theorem r_lconst (h : gOk l R cc nL own nm D A E Rn) {z : Fin 2} {v : Int64} (hd : decode cc pc = .ok (.lconst z, 1)) (hv : Int64.ofNat (z : Nat) = v) (kk : Rn (pc + 1) lv (.long v :: st) ad ce k n) : Rn pc lv st ad ce k n := by
  obtain ⟨p, e, s, m, args, below, meth, c, Q, rfl, hx, hb, hml, hown, hts, hK, hA, hnm⟩ := h
  intro H locs ls hl hS hW
  exact lv_lconst hx hb hd hv (kk H locs ls hl hS hW)
theorem r_ldc (h : gOk l R cc nL own nm D A E Rn) {ix : Nat} {v : Int32} (hd : decode cc pc = .ok (.ldc ix, 2)) (hw : Cond.constant own ix v ∈ lw_tbl) (kk : Rn (pc + 2) lv (.int v :: st) ad ce k n) : Rn pc lv st ad ce k n := by
  obtain ⟨p, e, s, m, args, below, meth, c, Q, rfl, hx, hb, hml, hown, hts, hK, hA, hnm⟩ := h
  intro H locs ls hl hS hW
  exact lv_ldc hx hb hown (hts _ (gm hw rfl)) hd (kk H locs ls hl hS hW)
theorem r_ldc2 (h : gOk l R cc nL own nm D A E Rn) {ix : Nat} {v v' : Int64} (hd : decode cc pc = .ok (.ldc2_w ix, 3)) (hw : Cond.constantLong own ix v ∈ lw_tbl) (he : v = v') (kk : Rn (pc + 3) lv (.long v' :: st) ad ce k n) : Rn pc lv st ad ce k n := by
  obtain ⟨p, e, s, m, args, below, meth, c, Q, rfl, hx, hb, hml, hown, hts, hK, hA, hnm⟩ := h
  subst he
  intro H locs ls hl hS hW
  exact lv_ldc2 hx hb hown (hts _ (gm hw rfl)) hd (kk H locs ls hl hS hW)
theorem r_iload_n (h : gOk l R cc nL own nm D A E Rn) {z : Fin 4} {x : Int32} (hd : decode cc pc = .ok (.iload_n z, 1)) (j : Nat) (hj : lv[j]? = some ((z : Nat), .int x)) (kk : Rn (pc + 1) lv (.int x :: st) ad ce k n) : Rn pc lv st ad ce k n := by
  obtain ⟨p, e, s, m, args, below, meth, c, Q, rfl, hx, hb, hml, hown, hts, hK, hA, hnm⟩ := h
  intro H locs ls hl hS hW
  exact lv_iload_n hx hb hd rfl (lv_at hl j hj) (kk H locs ls hl hS hW)
theorem r_iload (h : gOk l R cc nL own nm D A E Rn) {z : Nat} {x : Int32} (hd : decode cc pc = .ok (.iload z, 2)) (j : Nat) (hj : lv[j]? = some (z, .int x)) (kk : Rn (pc + 2) lv (.int x :: st) ad ce k n) : Rn pc lv st ad ce k n := by
  obtain ⟨p, e, s, m, args, below, meth, c, Q, rfl, hx, hb, hml, hown, hts, hK, hA, hnm⟩ := h
  intro H locs ls hl hS hW
  exact lv_iload hx hb hd (lv_at hl j hj) (kk H locs ls hl hS hW)
theorem r_lload_n (h : gOk l R cc nL own nm D A E Rn) {z : Fin 4} {x : Int64} (hd : decode cc pc = .ok (.lload_n z, 1)) (j : Nat) (hj : lv[j]? = some ((z : Nat), .long x)) (kk : Rn (pc + 1) lv (.long x :: st) ad ce k n) : Rn pc lv st ad ce k n := by
  obtain ⟨p, e, s, m, args, below, meth, c, Q, rfl, hx, hb, hml, hown, hts, hK, hA, hnm⟩ := h
  intro H locs ls hl hS hW
  exact lv_lload_n hx hb hd rfl (lv_at hl j hj) (kk H locs ls hl hS hW)
theorem r_lload (h : gOk l R cc nL own nm D A E Rn) {z : Nat} {x : Int64} (hd : decode cc pc = .ok (.lload z, 2)) (j : Nat) (hj : lv[j]? = some (z, .long x)) (kk : Rn (pc + 2) lv (.long x :: st) ad ce k n) : Rn pc lv st ad ce k n := by
  obtain ⟨p, e, s, m, args, below, meth, c, Q, rfl, hx, hb, hml, hown, hts, hK, hA, hnm⟩ := h
  intro H locs ls hl hS hW
  exact lv_lload hx hb hd (lv_at hl j hj) (kk H locs ls hl hS hW)
theorem r_aload_n (h : gOk l R cc nL own nm D A E Rn) {z : Fin 4} {x : Nat} (hd : decode cc pc = .ok (.aload_n z, 1)) (j : Nat) (hj : lv[j]? = some ((z : Nat), .ref x)) (kk : Rn (pc + 1) lv (.ref x :: st) ad ce k n) : Rn pc lv st ad ce k n := by
  obtain ⟨p, e, s, m, args, below, meth, c, Q, rfl, hx, hb, hml, hown, hts, hK, hA, hnm⟩ := h
  intro H locs ls hl hS hW
  exact lv_aload_n hx hb hd rfl (lv_at hl j hj) (kk H locs ls hl hS hW)
theorem r_aload (h : gOk l R cc nL own nm D A E Rn) {z : Nat} {x : Nat} (hd : decode cc pc = .ok (.aload z, 2)) (j : Nat) (hj : lv[j]? = some (z, .ref x)) (kk : Rn (pc + 2) lv (.ref x :: st) ad ce k n) : Rn pc lv st ad ce k n := by
  obtain ⟨p, e, s, m, args, below, meth, c, Q, rfl, hx, hb, hml, hown, hts, hK, hA, hnm⟩ := h
  intro H locs ls hl hS hW
  exact lv_aload hx hb hd (lv_at hl j hj) (kk H locs ls hl hS hW)
theorem r_aload_nN (h : gOk l R cc nL own nm D A E Rn) {z : Fin 4} (hd : decode cc pc = .ok (.aload_n z, 1)) (j : Nat) (hj : lv[j]? = some ((z : Nat), .null)) (kk : Rn (pc + 1) lv (.null :: st) ad ce k n) : Rn pc lv st ad ce k n := by
  obtain ⟨p, e, s, m, args, below, meth, c, Q, rfl, hx, hb, hml, hown, hts, hK, hA, hnm⟩ := h
  intro H locs ls hl hS hW
  exact lv_aload_nN hx hb hd rfl (lv_at hl j hj) (kk H locs ls hl hS hW)
theorem r_aloadN (h : gOk l R cc nL own nm D A E Rn) {z : Nat} (hd : decode cc pc = .ok (.aload z, 2)) (j : Nat) (hj : lv[j]? = some (z, .null)) (kk : Rn (pc + 2) lv (.null :: st) ad ce k n) : Rn pc lv st ad ce k n := by
  obtain ⟨p, e, s, m, args, below, meth, c, Q, rfl, hx, hb, hml, hown, hts, hK, hA, hnm⟩ := h
  intro H locs ls hl hS hW
  exact lv_aloadN hx hb hd (lv_at hl j hj) (kk H locs ls hl hS hW)
theorem r_istore_n (h : gOk l R cc nL own nm D A E Rn) {z : Fin 4} {x : Int32} (hd : decode cc pc = .ok (.istore_n z, 1)) (hn : (z : Nat) < nL) (hl' : ((z : Nat), Value.int x) :: lv.filter (fun q => !(q.1 == (z : Nat)) && !(q.1 + 1 == (z : Nat) && q.2.category == 2)) = lv') (kk : Rn (pc + 1) lv' st ad ce k n) : Rn pc lv (.int x :: st) ad ce k n := by
  obtain ⟨p, e, s, m, args, below, meth, c, Q, rfl, hx, hb, hml, hown, hts, hK, hA, hnm⟩ := h
  intro H locs ls hl hS hW
  exact lv_istore_n hx hb hd rfl hl hn hl' (fun ls hl => kk H locs ls hl hS hW)
theorem r_istore (h : gOk l R cc nL own nm D A E Rn) {z : Nat} {x : Int32} (hd : decode cc pc = .ok (.istore z, 2)) (hn : z < nL) (hl' : (z, Value.int x) :: lv.filter (fun q => !(q.1 == z) && !(q.1 + 1 == z && q.2.category == 2)) = lv') (kk : Rn (pc + 2) lv' st ad ce k n) : Rn pc lv (.int x :: st) ad ce k n := by
  obtain ⟨p, e, s, m, args, below, meth, c, Q, rfl, hx, hb, hml, hown, hts, hK, hA, hnm⟩ := h
  intro H locs ls hl hS hW
  exact lv_istore hx hb hd hl hn hl' (fun ls hl => kk H locs ls hl hS hW)
theorem r_astore_n (h : gOk l R cc nL own nm D A E Rn) {z : Fin 4} {x : Nat} (hd : decode cc pc = .ok (.astore_n z, 1)) (hn : (z : Nat) < nL) (hl' : ((z : Nat), Value.ref x) :: lv.filter (fun q => !(q.1 == (z : Nat)) && !(q.1 + 1 == (z : Nat) && q.2.category == 2)) = lv') (kk : Rn (pc + 1) lv' st ad ce k n) : Rn pc lv (.ref x :: st) ad ce k n := by
  obtain ⟨p, e, s, m, args, below, meth, c, Q, rfl, hx, hb, hml, hown, hts, hK, hA, hnm⟩ := h
  intro H locs ls hl hS hW
  exact lv_astore_n hx hb hd rfl hl hn hl' (fun ls hl => kk H locs ls hl hS hW)
theorem r_astore (h : gOk l R cc nL own nm D A E Rn) {z : Nat} {x : Nat} (hd : decode cc pc = .ok (.astore z, 2)) (hn : z < nL) (hl' : (z, Value.ref x) :: lv.filter (fun q => !(q.1 == z) && !(q.1 + 1 == z && q.2.category == 2)) = lv') (kk : Rn (pc + 2) lv' st ad ce k n) : Rn pc lv (.ref x :: st) ad ce k n := by
  obtain ⟨p, e, s, m, args, below, meth, c, Q, rfl, hx, hb, hml, hown, hts, hK, hA, hnm⟩ := h
  intro H locs ls hl hS hW
  exact lv_astore hx hb hd hl hn hl' (fun ls hl => kk H locs ls hl hS hW)
theorem r_astore_nN (h : gOk l R cc nL own nm D A E Rn) {z : Fin 4} (hd : decode cc pc = .ok (.astore_n z, 1)) (hn : (z : Nat) < nL) (hl' : ((z : Nat), Value.null) :: lv.filter (fun q => !(q.1 == (z : Nat)) && !(q.1 + 1 == (z : Nat) && q.2.category == 2)) = lv') (kk : Rn (pc + 1) lv' st ad ce k n) : Rn pc lv (.null :: st) ad ce k n := by
  obtain ⟨p, e, s, m, args, below, meth, c, Q, rfl, hx, hb, hml, hown, hts, hK, hA, hnm⟩ := h
  intro H locs ls hl hS hW
  exact lv_astore_nN hx hb hd rfl hl hn hl' (fun ls hl => kk H locs ls hl hS hW)
theorem r_astoreN (h : gOk l R cc nL own nm D A E Rn) {z : Nat} (hd : decode cc pc = .ok (.astore z, 2)) (hn : z < nL) (hl' : (z, Value.null) :: lv.filter (fun q => !(q.1 == z) && !(q.1 + 1 == z && q.2.category == 2)) = lv') (kk : Rn (pc + 2) lv' st ad ce k n) : Rn pc lv (.null :: st) ad ce k n := by
  obtain ⟨p, e, s, m, args, below, meth, c, Q, rfl, hx, hb, hml, hown, hts, hK, hA, hnm⟩ := h
  intro H locs ls hl hS hW
  exact lv_astoreN hx hb hd hl hn hl' (fun ls hl => kk H locs ls hl hS hW)
theorem r_iinc (h : gOk l R cc nL own nm D A E Rn) {z : Nat} {dz : Int} {x v : Int32} (hd : decode cc pc = .ok (.iinc z dz, 3)) (j : Nat) (hj : lv[j]? = some (z, .int x)) (hv : x + Int32.ofInt dz = v) (hn : z < nL) (hl' : (z, Value.int v) :: lv.filter (fun q => !(q.1 == z) && !(q.1 + 1 == z && q.2.category == 2)) = lv') (kk : Rn (pc + 3) lv' st ad ce k n) : Rn pc lv st ad ce k n := by
  obtain ⟨p, e, s, m, args, below, meth, c, Q, rfl, hx, hb, hml, hown, hts, hK, hA, hnm⟩ := h
  intro H locs ls hl hS hW
  exact lv_iinc hx hb hd hl hj hv hn hl' (fun ls hl => kk H locs ls hl hS hW)
theorem r_iadd (h : gOk l R cc nL own nm D A E Rn) {x y : Int32} (hd : decode cc pc = .ok (.iadd, 1)) (kk : Rn (pc + 1) lv (.int (x + y) :: st) ad ce k n) : Rn pc lv (.int y :: .int x :: st) ad ce k n := by
  obtain ⟨p, e, s, m, args, below, meth, c, Q, rfl, hx, hb, hml, hown, hts, hK, hA, hnm⟩ := h
  intro H locs ls hl hS hW
  exact lv_iadd hx hb hd (kk H locs ls hl hS hW)
theorem r_isub (h : gOk l R cc nL own nm D A E Rn) {x y : Int32} (hd : decode cc pc = .ok (.isub, 1)) (kk : Rn (pc + 1) lv (.int (x - y) :: st) ad ce k n) : Rn pc lv (.int y :: .int x :: st) ad ce k n := by
  obtain ⟨p, e, s, m, args, below, meth, c, Q, rfl, hx, hb, hml, hown, hts, hK, hA, hnm⟩ := h
  intro H locs ls hl hS hW
  exact lv_isub hx hb hd (kk H locs ls hl hS hW)
theorem r_imul (h : gOk l R cc nL own nm D A E Rn) {x y : Int32} (hd : decode cc pc = .ok (.imul, 1)) (kk : Rn (pc + 1) lv (.int (x * y) :: st) ad ce k n) : Rn pc lv (.int y :: .int x :: st) ad ce k n := by
  obtain ⟨p, e, s, m, args, below, meth, c, Q, rfl, hx, hb, hml, hown, hts, hK, hA, hnm⟩ := h
  intro H locs ls hl hS hW
  exact lv_imul hx hb hd (kk H locs ls hl hS hW)
theorem r_iand (h : gOk l R cc nL own nm D A E Rn) {x y : Int32} (hd : decode cc pc = .ok (.iand, 1)) (kk : Rn (pc + 1) lv (.int (x &&& y) :: st) ad ce k n) : Rn pc lv (.int y :: .int x :: st) ad ce k n := by
  obtain ⟨p, e, s, m, args, below, meth, c, Q, rfl, hx, hb, hml, hown, hts, hK, hA, hnm⟩ := h
  intro H locs ls hl hS hW
  exact lv_iand hx hb hd (kk H locs ls hl hS hW)
theorem r_idiv (h : gOk l R cc nL own nm D A E Rn) {x y : Int32} (hd : decode cc pc = .ok (.idiv, 1)) (hne : ¬ y = 0) (kk : Rn (pc + 1) lv (.int (x / y) :: st) ad ce k n) : Rn pc lv (.int y :: .int x :: st) ad ce k n := by
  obtain ⟨p, e, s, m, args, below, meth, c, Q, rfl, hx, hb, hml, hown, hts, hK, hA, hnm⟩ := h
  intro H locs ls hl hS hW
  exact lv_idiv hx hb hd hne (kk H locs ls hl hS hW)
theorem r_irem (h : gOk l R cc nL own nm D A E Rn) {x y : Int32} (hd : decode cc pc = .ok (.irem, 1)) (hne : ¬ y = 0) (kk : Rn (pc + 1) lv (.int (x - x / y * y) :: st) ad ce k n) : Rn pc lv (.int y :: .int x :: st) ad ce k n := by
  obtain ⟨p, e, s, m, args, below, meth, c, Q, rfl, hx, hb, hml, hown, hts, hK, hA, hnm⟩ := h
  intro H locs ls hl hS hW
  exact lv_irem hx hb hd hne (kk H locs ls hl hS hW)
theorem r_i2l (h : gOk l R cc nL own nm D A E Rn) {x : Int32} (hd : decode cc pc = .ok (.i2l, 1)) (kk : Rn (pc + 1) lv (.long x.toInt64 :: st) ad ce k n) : Rn pc lv (.int x :: st) ad ce k n := by
  obtain ⟨p, e, s, m, args, below, meth, c, Q, rfl, hx, hb, hml, hown, hts, hK, hA, hnm⟩ := h
  intro H locs ls hl hS hW
  exact lv_i2l hx hb hd rfl (kk H locs ls hl hS hW)
theorem r_lcmp (h : gOk l R cc nL own nm D A E Rn) {x y : Int64} (hd : decode cc pc = .ok (.lcmp, 1)) (kk : Rn (pc + 1) lv (.int (lg_cmp x y) :: st) ad ce k n) : Rn pc lv (.long y :: .long x :: st) ad ce k n := by
  obtain ⟨p, e, s, m, args, below, meth, c, Q, rfl, hx, hb, hml, hown, hts, hK, hA, hnm⟩ := h
  intro H locs ls hl hS hW
  exact W.lcmp hx hb hd (kk H locs ls hl hS hW)
theorem r_dup (h : gOk l R cc nL own nm D A E Rn) {va : Value} (hd : decode cc pc = .ok (.dup, 1)) (hva : va.category = 1) (kk : Rn (pc + 1) lv (va :: va :: st) ad ce k n) : Rn pc lv (va :: st) ad ce k n := by
  obtain ⟨p, e, s, m, args, below, meth, c, Q, rfl, hx, hb, hml, hown, hts, hK, hA, hnm⟩ := h
  intro H locs ls hl hS hW
  exact lv_dup hx hb hd hva (kk H locs ls hl hS hW)
theorem r_dup2 (h : gOk l R cc nL own nm D A E Rn) {va vb : Value} (hd : decode cc pc = .ok (.dup2, 1)) (hva : va.category = 1) (hvb : vb.category = 1) (kk : Rn (pc + 1) lv (va :: vb :: va :: vb :: st) ad ce k n) : Rn pc lv (va :: vb :: st) ad ce k n := by
  obtain ⟨p, e, s, m, args, below, meth, c, Q, rfl, hx, hb, hml, hown, hts, hK, hA, hnm⟩ := h
  intro H locs ls hl hS hW
  exact lv_dup2_11 hx hb hd hva hvb (kk H locs ls hl hS hW)
theorem r_null (h : gOk l R cc nL own nm D A E Rn) (hd : decode cc pc = .ok (.aconst_null, 1)) (kk : Rn (pc + 1) lv (.null :: st) ad ce k n) : Rn pc lv st ad ce k n := by
  obtain ⟨p, e, s, m, args, below, meth, c, Q, rfl, hx, hb, hml, hown, hts, hK, hA, hnm⟩ := h
  intro H locs ls hl hS hW
  exact lv_null hx hb hd (kk H locs ls hl hS hW)
theorem r_goto (h : gOk l R cc nL own nm D A E Rn) {off : Int} (tgt : Nat) (hd : decode cc pc = .ok (.goto off, 3)) (ht : (pc : Int) + off = (tgt : Int)) (kk : Rn tgt lv st ad ce k n) : Rn pc lv st ad ce k n := by
  obtain ⟨p, e, s, m, args, below, meth, c, Q, rfl, hx, hb, hml, hown, hts, hK, hA, hnm⟩ := h
  intro H locs ls hl hS hW
  exact lv_goto hx hb hd ht (kk H locs ls hl hS hW)
theorem r_ifnull (h : gOk l R cc nL own nm D A E Rn) {x : Nat} {off : Int} (hd : decode cc pc = .ok (.ifnull off, 3)) (kk : Rn (pc + 3) lv st ad ce k n) : Rn pc lv (.ref x :: st) ad ce k n := by
  obtain ⟨p, e, s, m, args, below, meth, c, Q, rfl, hx, hb, hml, hown, hts, hK, hA, hnm⟩ := h
  intro H locs ls hl hS hW
  exact lv_ifnull hx hb hd (kk H locs ls hl hS hW)
theorem r_ifnullN (h : gOk l R cc nL own nm D A E Rn) {off : Int} (tgt : Nat) (hd : decode cc pc = .ok (.ifnull off, 3)) (ht : (pc : Int) + off = (tgt : Int)) (kk : Rn tgt lv st ad ce k n) : Rn pc lv (.null :: st) ad ce k n := by
  obtain ⟨p, e, s, m, args, below, meth, c, Q, rfl, hx, hb, hml, hown, hts, hK, hA, hnm⟩ := h
  intro H locs ls hl hS hW
  exact lv_ifnullN hx hb hd ht (kk H locs ls hl hS hW)
theorem r_ifnonnull (h : gOk l R cc nL own nm D A E Rn) {x : Nat} {off : Int} (tgt : Nat) (hd : decode cc pc = .ok (.ifnonnull off, 3)) (ht : (pc : Int) + off = (tgt : Int)) (kk : Rn tgt lv st ad ce k n) : Rn pc lv (.ref x :: st) ad ce k n := by
  obtain ⟨p, e, s, m, args, below, meth, c, Q, rfl, hx, hb, hml, hown, hts, hK, hA, hnm⟩ := h
  intro H locs ls hl hS hW
  exact lv_ifnonnull hx hb hd ht (kk H locs ls hl hS hW)
theorem r_ifnonnullN (h : gOk l R cc nL own nm D A E Rn) {off : Int} (hd : decode cc pc = .ok (.ifnonnull off, 3)) (kk : Rn (pc + 3) lv st ad ce k n) : Rn pc lv (.null :: st) ad ce k n := by
  obtain ⟨p, e, s, m, args, below, meth, c, Q, rfl, hx, hb, hml, hown, hts, hK, hA, hnm⟩ := h
  intro H locs ls hl hS hW
  exact lv_ifnonnullN hx hb hd (kk H locs ls hl hS hW)
theorem r_if_eq (h : gOk l R cc nL own nm D A E Rn) {x : Int32} {off : Int} (tgt : Nat) (hd : decode cc pc = .ok (.ifCond .eq off, 3)) (ht : (pc : Int) + off = (tgt : Int)) (kt : x = 0 → Rn tgt lv st ad ce k n) (kf : ¬ x = 0 → Rn (pc + 3) lv st ad ce k n) : Rn pc lv (.int x :: st) ad ce k n := by
  obtain ⟨p, e, s, m, args, below, meth, c, Q, rfl, hx, hb, hml, hown, hts, hK, hA, hnm⟩ := h
  intro H locs ls hl hS hW
  exact lv_if_eq hx hb hd ht (fun q => kt q H locs ls hl hS hW) (fun q => kf q H locs ls hl hS hW)
theorem r_icmp_eq (h : gOk l R cc nL own nm D A E Rn) {x y : Int32} {off : Int} (tgt : Nat) (hd : decode cc pc = .ok (.if_icmp .eq off, 3)) (ht : (pc : Int) + off = (tgt : Int)) (kt : x = y → Rn tgt lv st ad ce k n) (kf : ¬ x = y → Rn (pc + 3) lv st ad ce k n) : Rn pc lv (.int y :: .int x :: st) ad ce k n := by
  obtain ⟨p, e, s, m, args, below, meth, c, Q, rfl, hx, hb, hml, hown, hts, hK, hA, hnm⟩ := h
  intro H locs ls hl hS hW
  exact lv_icmp_eq hx hb hd ht (fun q => kt q H locs ls hl hS hW) (fun q => kf q H locs ls hl hS hW)
theorem r_if_ne (h : gOk l R cc nL own nm D A E Rn) {x : Int32} {off : Int} (tgt : Nat) (hd : decode cc pc = .ok (.ifCond .ne off, 3)) (ht : (pc : Int) + off = (tgt : Int)) (kt : ¬ x = 0 → Rn tgt lv st ad ce k n) (kf : x = 0 → Rn (pc + 3) lv st ad ce k n) : Rn pc lv (.int x :: st) ad ce k n := by
  obtain ⟨p, e, s, m, args, below, meth, c, Q, rfl, hx, hb, hml, hown, hts, hK, hA, hnm⟩ := h
  intro H locs ls hl hS hW
  exact lv_if_ne hx hb hd ht (fun q => kt q H locs ls hl hS hW) (fun q => kf q H locs ls hl hS hW)
theorem r_icmp_ne (h : gOk l R cc nL own nm D A E Rn) {x y : Int32} {off : Int} (tgt : Nat) (hd : decode cc pc = .ok (.if_icmp .ne off, 3)) (ht : (pc : Int) + off = (tgt : Int)) (kt : ¬ x = y → Rn tgt lv st ad ce k n) (kf : x = y → Rn (pc + 3) lv st ad ce k n) : Rn pc lv (.int y :: .int x :: st) ad ce k n := by
  obtain ⟨p, e, s, m, args, below, meth, c, Q, rfl, hx, hb, hml, hown, hts, hK, hA, hnm⟩ := h
  intro H locs ls hl hS hW
  exact lv_icmp_ne hx hb hd ht (fun q => kt q H locs ls hl hS hW) (fun q => kf q H locs ls hl hS hW)
theorem r_if_lt (h : gOk l R cc nL own nm D A E Rn) {x : Int32} {off : Int} (tgt : Nat) (hd : decode cc pc = .ok (.ifCond .lt off, 3)) (ht : (pc : Int) + off = (tgt : Int)) (kt : x < 0 → Rn tgt lv st ad ce k n) (kf : ¬ x < 0 → Rn (pc + 3) lv st ad ce k n) : Rn pc lv (.int x :: st) ad ce k n := by
  obtain ⟨p, e, s, m, args, below, meth, c, Q, rfl, hx, hb, hml, hown, hts, hK, hA, hnm⟩ := h
  intro H locs ls hl hS hW
  exact lv_if_lt hx hb hd ht (fun q => kt q H locs ls hl hS hW) (fun q => kf q H locs ls hl hS hW)
theorem r_icmp_lt (h : gOk l R cc nL own nm D A E Rn) {x y : Int32} {off : Int} (tgt : Nat) (hd : decode cc pc = .ok (.if_icmp .lt off, 3)) (ht : (pc : Int) + off = (tgt : Int)) (kt : x < y → Rn tgt lv st ad ce k n) (kf : ¬ x < y → Rn (pc + 3) lv st ad ce k n) : Rn pc lv (.int y :: .int x :: st) ad ce k n := by
  obtain ⟨p, e, s, m, args, below, meth, c, Q, rfl, hx, hb, hml, hown, hts, hK, hA, hnm⟩ := h
  intro H locs ls hl hS hW
  exact lv_icmp_lt hx hb hd ht (fun q => kt q H locs ls hl hS hW) (fun q => kf q H locs ls hl hS hW)
theorem r_if_ge (h : gOk l R cc nL own nm D A E Rn) {x : Int32} {off : Int} (tgt : Nat) (hd : decode cc pc = .ok (.ifCond .ge off, 3)) (ht : (pc : Int) + off = (tgt : Int)) (kt : 0 ≤ x → Rn tgt lv st ad ce k n) (kf : ¬ 0 ≤ x → Rn (pc + 3) lv st ad ce k n) : Rn pc lv (.int x :: st) ad ce k n := by
  obtain ⟨p, e, s, m, args, below, meth, c, Q, rfl, hx, hb, hml, hown, hts, hK, hA, hnm⟩ := h
  intro H locs ls hl hS hW
  exact lv_if_ge hx hb hd ht (fun q => kt q H locs ls hl hS hW) (fun q => kf q H locs ls hl hS hW)
theorem r_icmp_ge (h : gOk l R cc nL own nm D A E Rn) {x y : Int32} {off : Int} (tgt : Nat) (hd : decode cc pc = .ok (.if_icmp .ge off, 3)) (ht : (pc : Int) + off = (tgt : Int)) (kt : y ≤ x → Rn tgt lv st ad ce k n) (kf : ¬ y ≤ x → Rn (pc + 3) lv st ad ce k n) : Rn pc lv (.int y :: .int x :: st) ad ce k n := by
  obtain ⟨p, e, s, m, args, below, meth, c, Q, rfl, hx, hb, hml, hown, hts, hK, hA, hnm⟩ := h
  intro H locs ls hl hS hW
  exact lv_icmp_ge hx hb hd ht (fun q => kt q H locs ls hl hS hW) (fun q => kf q H locs ls hl hS hW)
theorem r_if_gt (h : gOk l R cc nL own nm D A E Rn) {x : Int32} {off : Int} (tgt : Nat) (hd : decode cc pc = .ok (.ifCond .gt off, 3)) (ht : (pc : Int) + off = (tgt : Int)) (kt : 0 < x → Rn tgt lv st ad ce k n) (kf : ¬ 0 < x → Rn (pc + 3) lv st ad ce k n) : Rn pc lv (.int x :: st) ad ce k n := by
  obtain ⟨p, e, s, m, args, below, meth, c, Q, rfl, hx, hb, hml, hown, hts, hK, hA, hnm⟩ := h
  intro H locs ls hl hS hW
  exact lv_if_gt hx hb hd ht (fun q => kt q H locs ls hl hS hW) (fun q => kf q H locs ls hl hS hW)
theorem r_icmp_gt (h : gOk l R cc nL own nm D A E Rn) {x y : Int32} {off : Int} (tgt : Nat) (hd : decode cc pc = .ok (.if_icmp .gt off, 3)) (ht : (pc : Int) + off = (tgt : Int)) (kt : y < x → Rn tgt lv st ad ce k n) (kf : ¬ y < x → Rn (pc + 3) lv st ad ce k n) : Rn pc lv (.int y :: .int x :: st) ad ce k n := by
  obtain ⟨p, e, s, m, args, below, meth, c, Q, rfl, hx, hb, hml, hown, hts, hK, hA, hnm⟩ := h
  intro H locs ls hl hS hW
  exact lv_icmp_gt hx hb hd ht (fun q => kt q H locs ls hl hS hW) (fun q => kf q H locs ls hl hS hW)
theorem r_if_le (h : gOk l R cc nL own nm D A E Rn) {x : Int32} {off : Int} (tgt : Nat) (hd : decode cc pc = .ok (.ifCond .le off, 3)) (ht : (pc : Int) + off = (tgt : Int)) (kt : x ≤ 0 → Rn tgt lv st ad ce k n) (kf : ¬ x ≤ 0 → Rn (pc + 3) lv st ad ce k n) : Rn pc lv (.int x :: st) ad ce k n := by
  obtain ⟨p, e, s, m, args, below, meth, c, Q, rfl, hx, hb, hml, hown, hts, hK, hA, hnm⟩ := h
  intro H locs ls hl hS hW
  exact lv_if_le hx hb hd ht (fun q => kt q H locs ls hl hS hW) (fun q => kf q H locs ls hl hS hW)
theorem r_icmp_le (h : gOk l R cc nL own nm D A E Rn) {x y : Int32} {off : Int} (tgt : Nat) (hd : decode cc pc = .ok (.if_icmp .le off, 3)) (ht : (pc : Int) + off = (tgt : Int)) (kt : x ≤ y → Rn tgt lv st ad ce k n) (kf : ¬ x ≤ y → Rn (pc + 3) lv st ad ce k n) : Rn pc lv (.int y :: .int x :: st) ad ce k n := by
  obtain ⟨p, e, s, m, args, below, meth, c, Q, rfl, hx, hb, hml, hown, hts, hK, hA, hnm⟩ := h
  intro H locs ls hl hS hW
  exact lv_icmp_le hx hb hd ht (fun q => kt q H locs ls hl hS hW) (fun q => kf q H locs ls hl hS hW)
theorem r_tableOut (h : gOk l R cc nL own nm D A E Rn) {dflt lo hi : Int} {offs : Array Int} {len : Nat} {x : Int32} (tgt : Nat) (hd : decode cc pc = .ok (.tableswitch dflt lo hi offs, len)) (hq : x.toInt < lo ∨ hi < x.toInt) (ht : (pc : Int) + dflt = (tgt : Int)) (kk : Rn tgt lv st ad ce k n) : Rn pc lv (.int x :: st) ad ce k n := by
  obtain ⟨p, e, s, m, args, below, meth, c, Q, rfl, hx, hb, hml, hown, hts, hK, hA, hnm⟩ := h
  intro H locs ls hl hS hW
  exact lv_tableOut hx hb hd hq ht (kk H locs ls hl hS hW)
theorem r_tableIn (h : gOk l R cc nL own nm D A E Rn) {dflt lo hi off : Int} {offs : Array Int} {len : Nat} {x : Int32} (tgt : Nat) (hd : decode cc pc = .ok (.tableswitch dflt lo hi offs, len)) (h1 : ¬ x.toInt < lo) (h2 : ¬ hi < x.toInt) (ho : offs[(x.toInt - lo).toNat]? = some off) (ht : (pc : Int) + off = (tgt : Int)) (kk : Rn tgt lv st ad ce k n) : Rn pc lv (.int x :: st) ad ce k n := by
  obtain ⟨p, e, s, m, args, below, meth, c, Q, rfl, hx, hb, hml, hown, hts, hK, hA, hnm⟩ := h
  intro H locs ls hl hS hW
  exact lv_tableIn hx hb hd h1 h2 ho ht (kk H locs ls hl hS hW)
theorem r_mmax (h : gOk l R cc nL own nm D A E Rn) {ix : Nat} {x y : Int32} (hd : decode cc pc = .ok (.invokestatic ix, 3)) (hw : Cond.methodLink own ix Lib.Math.max.name ∈ lw_tbl) (hR : 1 ≤ R.frames ∧ (st.map fun v => v.category).sum + 13 ≤ R.locals ∧ k ≤ R.cells ∧ n ≤ R.slots) (kk : Rn (pc + 3) lv (.int (if x < y then y else x) :: st) ad ce k n) : Rn pc lv (.int y :: .int x :: st) ad ce k n := by
  obtain ⟨p, e, s, m, args, below, meth, c, Q, rfl, hx, hb, hml, hown, hts, hK, hA, hnm⟩ := h
  intro H locs ls hl hS hW
  exact va_mmax hx hb (hml.trans hl.1.symm) hown (hts _ (gm hw rfl)) (hts _ (gm wst_Lib_Math_max_name rfl)) (hts _ (gm win_J9 rfl)) (hts _ (gm wco_Lib_Math_max_name rfl)) hR.1 hR.2.1 hR.2.2.1 hR.2.2.2 hd (kk H locs ls hl hS hW)
theorem r_mmin (h : gOk l R cc nL own nm D A E Rn) {ix : Nat} {x y : Int32} (hd : decode cc pc = .ok (.invokestatic ix, 3)) (hw : Cond.methodLink own ix Lib.Math.min.name ∈ lw_tbl) (hR : 1 ≤ R.frames ∧ (st.map fun v => v.category).sum + 13 ≤ R.locals ∧ k ≤ R.cells ∧ n ≤ R.slots) (kk : Rn (pc + 3) lv (.int (if y < x then y else x) :: st) ad ce k n) : Rn pc lv (.int y :: .int x :: st) ad ce k n := by
  obtain ⟨p, e, s, m, args, below, meth, c, Q, rfl, hx, hb, hml, hown, hts, hK, hA, hnm⟩ := h
  intro H locs ls hl hS hW
  exact va_mmin hx hb (hml.trans hl.1.symm) hown (hts _ (gm hw rfl)) (hts _ (gm wst_Lib_Math_min_name rfl)) (hts _ (gm win_J9 rfl)) (hts _ (gm wco_Lib_Math_min_name rfl)) hR.1 hR.2.1 hR.2.2.1 hR.2.2.2 hd (kk H locs ls hl hS hW)
theorem r_objInit (h : gOk l R cc nL own nm D A E Rn) {ix a : Nat} (hd : decode cc pc = .ok (.invokespecial ix, 3)) (hw : Cond.methodLink own ix objectInit ∈ lw_tbl) (hR : 1 ≤ R.frames ∧ (st.map fun v => v.category).sum + 12 ≤ R.locals) (kk : Rn (pc + 3) lv st ad ce k n) : Rn pc lv (.ref a :: st) ad ce k n := by
  obtain ⟨p, e, s, m, args, below, meth, c, Q, rfl, hx, hb, hml, hown, hts, hK, hA, hnm⟩ := h
  intro H locs ls hl hS hW
  exact W.objInit hx hb hown (hts _ (gm hw rfl)) (hts _ (gm wim_objectInit rfl)) (hts _ (gm wco_objectInit rfl)) rfl (by rw [hml]; exact hl.1) rfl hd hR.1 (by show 2 * 0 + _ + 12 ≤ _; omega) (kk H locs ls hl hS hW)
theorem r_widen (h : gOk l R cc nL own nm D A E Rn) {k' n' : Nat} (h1 : k ≤ k') (h2 : n ≤ n') (kk : Rn pc lv st ad ce k' n') : Rn pc lv st ad ce k n := by
  obtain ⟨p, e, s, m, args, below, meth, c, Q, rfl, hx, hb, hml, hown, hts, hK, hA, hnm⟩ := h
  intro H locs ls hl hS hW
  exact W.widen h1 h2 (kk H locs ls hl hS hW)
theorem r_lv (h : gOk l R cc nL own nm D A E Rn) (ks : List Nat) (hl' : lv_pick lv ks = lv') (kk : Rn pc lv' st ad ce k n) : Rn pc lv st ad ce k n := by
  obtain ⟨p, e, s, m, args, below, meth, c, Q, rfl, hx, hb, hml, hown, hts, hK, hA, hnm⟩ := h
  intro H locs ls hl hS hW
  exact kk H locs ls (lv_sub hl ks hl') hS hW
end GR
end
section
theorem gW.at {D : va_G} {A : Nat → Prop} {ad : gAd} {ce : gCe} {H : Heap} {kd i : Nat} {e : va_E} (h : gW D A ad ce H) (he : ce kd i = some e) : va_P D vwCl [(ad kd i, e)] H := by
  obtain ⟨L, f, hP, hD, h1, h2⟩ := h
  obtain ⟨hm, hf⟩ := h1 kd i e he
  obtain ⟨j, hj⟩ := va_pl_get (X := []) (f := f) hm
  intro k q hk
  have hz : k < 1 := (List.getElem?_eq_some_iff.mp hk).1
  rw [show k = 0 by omega] at hk
  cases hk
  rw [hf] at hj
  exact hP j _ hj
/-- a named cell gets a new content -/
theorem gW.set {D : va_G} {A : Nat → Prop} {ad : gAd} {ce : gCe} {L : List Nat} {f : Nat → va_E} {kd i : Nat} {e e' : va_E} (he : ce kd i = some e) (h1 : ∀ (k i : Nat) (e : va_E), ce k i = some e → ad k i ∈ L ∧ f (ad k i) = e) (h2 : ∀ (k i k' i' : Nat) (e e' : va_E), ce k i = some e → ce k' i' = some e' → ad k i = ad k' i' → k = k' ∧ i = i') {H1 : Heap} (hP : va_P D vwCl ([] ++ va_pl L (va_up f (ad kd i) e')) H1) (hD : va_D A ([] ++ va_pl L (va_up f (ad kd i) e'))) : gW D A ad (gup ce kd i e') H1 := by
  refine ⟨L, _, hP, hD, ?_, ?_⟩
  · intro k1 i1 e1 q
    unfold gup at q
    by_cases hk : k1 = kd ∧ i1 = i
    · rw [if_pos hk] at q
      obtain ⟨rfl, rfl⟩ := hk
      cases q
      exact ⟨(h1 _ _ _ he).1, va_up_self _ _ _⟩
    · rw [if_neg hk] at q
      obtain ⟨a1, a2⟩ := h1 _ _ _ q
      refine ⟨a1, ?_⟩
      rw [va_up_ne _ _ (fun hh => hk (h2 _ _ _ _ _ _ q he hh))]
      exact a2
  · intro k1 i1 k2 i2 e1 e2 q1 q2 hq
    have a1 : ∃ e3, ce k1 i1 = some e3 := by
      unfold gup at q1
      by_cases hk : k1 = kd ∧ i1 = i
      · obtain ⟨rfl, rfl⟩ := hk
        exact ⟨_, he⟩
      · rw [if_neg hk] at q1
        exact ⟨_, q1⟩
    have a2 : ∃ e3, ce k2 i2 = some e3 := by
      unfold gup at q2
      by_cases hk : k2 = kd ∧ i2 = i
      · obtain ⟨rfl, rfl⟩ := hk
        exact ⟨_, he⟩
      · rw [if_neg hk] at q2
        exact ⟨_, q2⟩
    obtain ⟨e3, a1⟩ := a1
    obtain ⟨e4, a2⟩ := a2
    exact h2 _ _ _ _ _ _ a1 a2 hq
/-- a fresh cell gets a name -/
theorem gW.new {D : va_G} {A : Nat → Prop} {ad : gAd} {ce : gCe} {L : List Nat} {f : Nat → va_E} {kd i q : Nat} {e' : va_E} (he : ce kd i = none) (hq : q ∉ L) (h1 : ∀ (k i : Nat) (e : va_E), ce k i = some e → ad k i ∈ L ∧ f (ad k i) = e) (h2 : ∀ (k i k' i' : Nat) (e e' : va_E), ce k i = some e → ce k' i' = some e' → ad k i = ad k' i' → k = k' ∧ i = i') {H1 : Heap} (hP : va_P D vwCl ([] ++ va_pl (L ++ [q]) (va_up f q e')) H1) (hD : va_D A ([] ++ va_pl (L ++ [q]) (va_up f q e'))) : gW D A (gua ad kd i q) (gup ce kd i e') H1 := by
  have hne : ∀ (k1 i1 : Nat) (e1 : va_E), ce k1 i1 = some e1 → ¬ (k1 = kd ∧ i1 = i) := by
    rintro k1 i1 e1 h ⟨rfl, rfl⟩
    rw [he] at h
    cases h
  have hnq : ∀ (k1 i1 : Nat) (e1 : va_E), ce k1 i1 = some e1 → ad k1 i1 ≠ q := fun k1 i1 e1 h hh => hq (hh ▸ (h1 _ _ _ h).1)
  refine ⟨L ++ [q], _, hP, hD, ?_, ?_⟩
  · intro k1 i1 e1 z
    unfold gup at z
    unfold gua
    by_cases hk : k1 = kd ∧ i1 = i
    · rw [if_pos hk] at z ⊢
      cases z
      exact ⟨List.mem_append_right _ (List.mem_singleton.mpr rfl), va_up_self _ _ _⟩
    · rw [if_neg hk] at z ⊢
      obtain ⟨a1, a2⟩ := h1 _ _ _ z
      exact ⟨List.mem_append_left _ a1, by rw [va_up_ne _ _ (hnq _ _ _ z)]; exact a2⟩
  · intro k1 i1 k2 i2 e1 e2 q1 q2 hqq
    unfold gup at q1 q2
    unfold gua at hqq
    by_cases hk : k1 = kd ∧ i1 = i <;> by_cases hk2 : k2 = kd ∧ i2 = i
    · exact ⟨hk.1.trans hk2.1.symm, hk.2.trans hk2.2.symm⟩
    · rw [if_pos hk, if_neg hk2] at hqq
      rw [if_neg hk2] at q2
      exact absurd hqq.symm (hnq _ _ _ q2)
    · rw [if_neg hk, if_pos hk2] at hqq
      rw [if_neg hk] at q1
      exact absurd hqq (hnq _ _ _ q1)
    · rw [if_neg hk, if_neg hk2] at hqq
      rw [if_neg hk] at q1
      rw [if_neg hk2] at q2
      exact h2 _ _ _ _ _ _ q1 q2 hqq
section GH
variable {l : Launch} {R : Room} {cc : ByteArray} {nL : Nat} {own nm : String} {D : va_G} {A : Nat → Prop} {E : gEc} {Rn : gR} {pc : Nat} {lv lv' : List (Nat × Value)} {st : List Value} {ad : gAd} {ce : gCe} {k n : Nat}
theorem r_get (h : gOk l R cc nL own nm D A E Rn) {kd i ci N ix : Nat} {C : String} {T : u_T} {fs : List Value} {v : Value} (f : Nat) (hd : decode cc pc = .ok (.getfield ix, 3)) (hce : ce kd i = some (.inr (ci, fs))) (hc : vwCl[ci]? = some (C, T, N)) (hin : ∀ w ∈ u_ws C T N, w ∈ lw_tbl) (hf : f < N) (hw : Cond.fieldLink own ix (T f).1 (T f).2.1 (T f).2.2.1 ∈ lw_tbl) (hv : fs[f]? = some v) (kk : Rn (pc + 3) lv (v :: st) ad ce k n) : Rn pc lv (.ref (ad kd i) :: st) ad ce k n := by
  obtain ⟨p, e, s, m, args, below, meth, c, Q, rfl, hx, hb, hml, hown, hts, hK, hA, hnm⟩ := h
  intro H locs ls hl hS hW
  exact va_get (D := D) (ci := ci) (v := v) (C := C) (T := T) (N := N) hx hb hts (gmU hin) hown hK.1 (hW.at hce) 0 rfl hc f hf (hts _ (gm hw rfl)) (fun _ h9 => h9) hv hd (kk H locs ls hl hS hW)
theorem r_put (h : gOk l R cc nL own nm D A E Rn) {kd i ci N ix : Nat} {C : String} {T : u_T} {ty : Nat → FieldType} {fs : List Value} {v : Value} {ce' : gCe} (f : Nat) (hd : decode cc pc = .ok (.putfield ix, 3)) (hce : ce kd i = some (.inr (ci, fs))) (hc : vwCl[ci]? = some (C, T, N)) (hin : ∀ w ∈ u_ws C T N, w ∈ lw_tbl) (hty : ∀ k, k < N → parseFieldDescriptor (T k).2.2.1 = some (ty k)) (hnm2 : ∀ a, a < N → ∀ b, b < N → a ≠ b → (T a).2.1 ≠ (T b).2.1) (hf : f < N) (hw : Cond.fieldLink own ix (T f).1 (T f).2.1 (T f).2.2.1 ∈ lw_tbl) (hfin : (T f).2.2.2 = false) (hn : narrow (ty f) v = v) (hfit : fits (ty f) v = true) (hl0 : f < fs.length) (he : gup ce kd i (.inr (ci, fs.set f v)) = ce') (kk : Rn (pc + 3) lv st ad ce' k n) : Rn pc lv (v :: .ref (ad kd i) :: st) ad ce k n := by
  obtain ⟨p, e, s, m, args, below, meth, c, Q, rfl, hx, hb, hml, hown, hts, hK, hA, hnm⟩ := h
  intro H locs ls hl hS hW
  obtain ⟨L, g, hP, hD, h1, h2⟩ := hW
  obtain ⟨hm, hg⟩ := h1 _ _ _ hce
  obtain ⟨j, hj0⟩ := va_pl_get (X := []) (f := g) hm
  have hj := hj0
  rw [hg] at hj
  refine va_put (D := D) (ci := ci) (v := v) (C := C) (T := T) (N := N) hx hb hts (gmU hin) ty hty hnm2 hown hK.1 hP hD hS j hj hc f hf (hts _ (gm hw rfl)) (fun _ h9 => h9) hfin (hty f hf) hn hfit hl0 hd (fun H1 locs1 hP1 hD1 hS1 => ?_)
  rw [va_pl_set hD hm hj0] at hP1 hD1
  exact kk H1 locs1 ls hl hS1 (he ▸ gW.set hce h1 h2 hP1 hD1)
theorem r_putF (h : gOk l R cc nL own nm D A E Rn) {kd i ci N ix : Nat} {C : String} {T : u_T} {ty : Nat → FieldType} {fs : List Value} {v : Value} {ce' : gCe} (f : Nat) (hd : decode cc pc = .ok (.putfield ix, 3)) (hce : ce kd i = some (.inr (ci, fs))) (hc : vwCl[ci]? = some (C, T, N)) (hin : ∀ w ∈ u_ws C T N, w ∈ lw_tbl) (hty : ∀ k, k < N → parseFieldDescriptor (T k).2.2.1 = some (ty k)) (hnm2 : ∀ a, a < N → ∀ b, b < N → a ≠ b → (T a).2.1 ≠ (T b).2.1) (hf : f < N) (hw : Cond.fieldLink own ix (T f).1 (T f).2.1 (T f).2.2.1 ∈ lw_tbl) (hfin : (T f).2.2.2 = true) (hini : nm = "<init>") (hdecl : (T f).1 = own) (hn : narrow (ty f) v = v) (hfit : fits (ty f) v = true) (hl0 : f < fs.length) (he : gup ce kd i (.inr (ci, fs.set f v)) = ce') (kk : Rn (pc + 3) lv st ad ce' k n) : Rn pc lv (v :: .ref (ad kd i) :: st) ad ce k n := by
  obtain ⟨p, e, s, m, args, below, meth, c, Q, rfl, hx, hb, hml, hown, hts, hK, hA, hnm⟩ := h
  intro H locs ls hl hS hW
  obtain ⟨L, g, hP, hD, h1, h2⟩ := hW
  obtain ⟨hm, hg⟩ := h1 _ _ _ hce
  obtain ⟨j, hj0⟩ := va_pl_get (X := []) (f := g) hm
  have hj := hj0
  rw [hg] at hj
  refine va_putF (D := D) (ci := ci) (v := v) (C := C) (T := T) (N := N) hx hb hts (gmU hin) ty hty hnm2 hown hK.1 hP hD hS j hj hc f hf (hts _ (gm hw rfl)) (fun _ h9 => h9) hfin (hnm.trans hini) hdecl (hty f hf) hn hfit hl0 hd (fun H1 locs1 hP1 hD1 hS1 => ?_)
  rw [va_pl_set hD hm hj0] at hP1 hD1
  exact kk H1 locs1 ls hl hS1 (he ▸ gW.set hce h1 h2 hP1 hD1)
theorem r_iald (h : gOk l R cc nL own nm D A E Rn) {kd i N : Nat} {f : Nat → Int32} {x : Int32} (hd : decode cc pc = .ok (.iaload, 1)) (hce : ce kd i = some (.inl (E 0, N, .inl f))) (hx0 : vp_in x N) (kk : Rn (pc + 1) lv (.int (f x.toNatClampNeg) :: st) ad ce k n) : Rn pc lv (.int x :: .ref (ad kd i) :: st) ad ce k n := by
  obtain ⟨p, e, s, m, args, below, meth, c, Q, rfl, hx, hb, hml, hown, hts, hK, hA, hnm⟩ := h
  intro H locs ls hl hS hW
  exact va_iald hx hb hK.1 (hW.at hce) 0 0 rfl rfl hx0 hd (kk H locs ls hl hS hW)
theorem r_zald (h : gOk l R cc nL own nm D A E Rn) {kd i N : Nat} {f : Nat → Int32} {x : Int32} (hd : decode cc pc = .ok (.baload, 1)) (hce : ce kd i = some (.inl (E 1, N, .inl f))) (hx0 : vp_in x N) (kk : Rn (pc + 1) lv (.int (f x.toNatClampNeg) :: st) ad ce k n) : Rn pc lv (.int x :: .ref (ad kd i) :: st) ad ce k n := by
  obtain ⟨p, e, s, m, args, below, meth, c, Q, rfl, hx, hb, hml, hown, hts, hK, hA, hnm⟩ := h
  intro H locs ls hl hS hW
  exact va_zald hx hb hK.1 (hW.at hce) 0 1 rfl rfl hx0 hd (kk H locs ls hl hS hW)
theorem r_iast (h : gOk l R cc nL own nm D A E Rn) {kd i N : Nat} {f : Nat → Int32} {x v : Int32} {ce' : gCe} (hd : decode cc pc = .ok (.iastore, 1)) (hce : ce kd i = some (.inl (E 0, N, .inl f))) (hx0 : vp_in x N) (he : gup ce kd i (.inl (E 0, N, .inl (upd f x.toNatClampNeg v))) = ce') (kk : Rn (pc + 1) lv st ad ce' k n) : Rn pc lv (.int v :: .int x :: .ref (ad kd i) :: st) ad ce k n := by
  obtain ⟨p, e, s, m, args, below, meth, c, Q, rfl, hx, hb, hml, hown, hts, hK, hA, hnm⟩ := h
  intro H locs ls hl hS hW
  obtain ⟨L, g, hP, hD, h1, h2⟩ := hW
  obtain ⟨hm, hg⟩ := h1 _ _ _ hce
  obtain ⟨j, hj0⟩ := va_pl_get (X := []) (f := g) hm
  have hj := hj0
  rw [hg] at hj
  refine va_iast hx hb hK.1 hP hD hS j 0 hj rfl hx0 hd (fun H1 locs1 hP1 hD1 hS1 => ?_)
  rw [va_pl_set hD hm hj0] at hP1 hD1
  exact kk H1 locs1 ls hl hS1 (he ▸ gW.set hce h1 h2 hP1 hD1)
theorem r_aald (h : gOk l R cc nL own nm D A E Rn) {kd i N t0 : Nat} {cA : ClassId} {C : String} {f : Nat → Option Nat} {x : Int32} (hd : decode cc pc = .ok (.aaload, 1)) (hce : ce kd i = some (.inl (cA, N, .inr (.inr (.inr (.inr f)))))) (ht : (gTys E)[t0]? = some (cA, .object C)) (hx0 : vp_in x N) (kk : Rn (pc + 1) lv (va_rf (f x.toNatClampNeg) :: st) ad ce k n) : Rn pc lv (.int x :: .ref (ad kd i) :: st) ad ce k n := by
  obtain ⟨p, e, s, m, args, below, meth, c, Q, rfl, hx, hb, hml, hown, hts, hK, hA, hnm⟩ := h
  intro H locs ls hl hS hW
  exact va_aldq hx hb hK.1 (hW.at hce) 0 t0 rfl ht hx0 hd (kk H locs ls hl hS hW)
theorem r_aast (h : gOk l R cc nL own nm D A E Rn) {kd i N t0 kv iv ci : Nat} {cA : ClassId} {r : vw_C} {vs : List Value} {f : Nat → Option Nat} {x : Int32} {ce' : gCe} (hd : decode cc pc = .ok (.aastore, 1)) (hce : ce kd i = some (.inl (cA, N, .inr (.inr (.inr (.inr f)))))) (ht : (gTys E)[t0]? = some (cA, .object r.1)) (hv : ce kv iv = some (.inr (ci, vs))) (hc : vwCl[ci]? = some r) (hx0 : vp_in x N) (he : gup ce kd i (.inl (cA, N, .inr (.inr (.inr (.inr (va_up f x.toNatClampNeg (some (ad kv iv)))))))) = ce') (kk : Rn (pc + 1) lv st ad ce' k n) : Rn pc lv (.ref (ad kv iv) :: .int x :: .ref (ad kd i) :: st) ad ce k n := by
  obtain ⟨p, e, s, m, args, below, meth, c, Q, rfl, hx, hb, hml, hown, hts, hK, hA, hnm⟩ := h
  intro H locs ls hl hS hW
  obtain ⟨L, g, hP, hD, h1, h2⟩ := hW
  obtain ⟨hm, hg⟩ := h1 _ _ _ hce
  obtain ⟨j, hj0⟩ := va_pl_get (X := []) (f := g) hm
  have hj := hj0
  rw [hg] at hj
  obtain ⟨hmv, hgv⟩ := h1 _ _ _ hv
  obtain ⟨jv, hjv⟩ := va_pl_get (X := []) (f := g) hmv
  rw [hgv] at hjv
  refine va_astq hx hb hK.1 hP hD hS j t0 jv ci hj ht hjv hc hx0 hd (fun H1 locs1 hP1 hD1 hS1 => ?_)
  rw [va_pl_set hD hm hj0] at hP1 hD1
  exact kk H1 locs1 ls hl hS1 (he ▸ gW.set hce h1 h2 hP1 hD1)
theorem r_aastN (h : gOk l R cc nL own nm D A E Rn) {kd i N t0 : Nat} {cA : ClassId} {C : String} {f : Nat → Option Nat} {x : Int32} {ce' : gCe} (hd : decode cc pc = .ok (.aastore, 1)) (hce : ce kd i = some (.inl (cA, N, .inr (.inr (.inr (.inr f)))))) (ht : (gTys E)[t0]? = some (cA, .object C)) (hx0 : vp_in x N) (he : gup ce kd i (.inl (cA, N, .inr (.inr (.inr (.inr (va_up f x.toNatClampNeg none)))))) = ce') (kk : Rn (pc + 1) lv st ad ce' k n) : Rn pc lv (.null :: .int x :: .ref (ad kd i) :: st) ad ce k n := by
  obtain ⟨p, e, s, m, args, below, meth, c, Q, rfl, hx, hb, hml, hown, hts, hK, hA, hnm⟩ := h
  intro H locs ls hl hS hW
  obtain ⟨L, g, hP, hD, h1, h2⟩ := hW
  obtain ⟨hm, hg⟩ := h1 _ _ _ hce
  obtain ⟨j, hj0⟩ := va_pl_get (X := []) (f := g) hm
  have hj := hj0
  rw [hg] at hj
  refine va_astqN hx hb hK.1 hP hD hS j t0 hj ht hx0 hd (fun H1 locs1 hP1 hD1 hS1 => ?_)
  rw [va_pl_set hD hm hj0] at hP1 hD1
  exact kk H1 locs1 ls hl hS1 (he ▸ gW.set hce h1 h2 hP1 hD1)
theorem r_zast (h : gOk l R cc nL own nm D A E Rn) {kd i N : Nat} {f : Nat → Int32} {x v : Int32} {ce' : gCe} (hd : decode cc pc = .ok (.bastore, 1)) (hce : ce kd i = some (.inl (E 1, N, .inl f))) (hx0 : vp_in x N) (hv : v = 0 ∨ v = 1) (he : gup ce kd i (.inl (E 1, N, .inl (upd f x.toNatClampNeg v))) = ce') (kk : Rn (pc + 1) lv st ad ce' k n) : Rn pc lv (.int v :: .int x :: .ref (ad kd i) :: st) ad ce k n := by
  obtain ⟨p, e, s, m, args, below, meth, c, Q, rfl, hx, hb, hml, hown, hts, hK, hA, hnm⟩ := h
  intro H locs ls hl hS hW
  obtain ⟨L, g, hP, hD, h1, h2⟩ := hW
  obtain ⟨hm, hg⟩ := h1 _ _ _ hce
  obtain ⟨j, hj0⟩ := va_pl_get (X := []) (f := g) hm
  have hj := hj0
  rw [hg] at hj
  have hnv : vp_nar .boolean v = v := by rcases hv with rfl | rfl <;> decide
  refine va_zast hx hb hK.1 hP hD hS j 1 hj rfl hx0 hd (fun H1 locs1 hP1 hD1 hS1 => ?_)
  rw [va_pl_set hD hm hj0] at hP1 hD1
  rw [hnv] at hP1 hD1
  exact kk H1 locs1 ls hl hS1 (he ▸ gW.set hce h1 h2 hP1 hD1)
theorem r_alen (h : gOk l R cc nL own nm D A E Rn) {kd i t0 : Nat} {cA : ClassId} {x : vp_A} {ty : FieldType} {v : Int32} (hd : decode cc pc = .ok (.arraylength, 1)) (hce : ce kd i = some (.inl (cA, x))) (ht : (gTys E)[t0]? = some (cA, ty)) (hv : Int32.ofNat x.1 = v) (kk : Rn (pc + 1) lv (.int v :: st) ad ce k n) : Rn pc lv (.ref (ad kd i) :: st) ad ce k n := by
  obtain ⟨p, e, s, m, args, below, meth, c, Q, rfl, hx, hb, hml, hown, hts, hK, hA, hnm⟩ := h
  intro H locs ls hl hS hW
  exact va_alen hx hb hK.1 (hW.at hce) 0 t0 rfl ht hv hd (kk H locs ls hl hS hW)
theorem r_new (h : gOk l R cc nL own nm D A E Rn) (kd i : Nat) {ci N ix : Nat} {C : String} {T : u_T} {ty : Nat → FieldType} {fs : List Value} (hd : decode cc pc = .ok (.new ix, 3)) (hce : ce kd i = none) (hc : vwCl[ci]? = some (C, T, N)) (hin : ∀ w ∈ u_ws C T N, w ∈ lw_tbl) (hty : ∀ k, k < N → parseFieldDescriptor (T k).2.2.1 = some (ty k)) (hw : Cond.classLink own ix C ∈ lw_tbl) (hi : Cond.instantiable C N ∈ lw_tbl) (hini : Cond.initialized C ∈ lw_tbl) (hfs : ∀ j, j < N → defaultValue (ty j) = vp_V fs j) (hR : k + 1 ≤ R.cells ∧ n + N ≤ R.slots) (kk : ∀ q : Nat, Rn (pc + 3) lv (.ref q :: st) (gua ad kd i q) (gup ce kd i (.inr (ci, fs))) (k + 1) (n + N)) : Rn pc lv st ad ce k n := by
  obtain ⟨p, e, s, m, args, below, meth, c, Q, rfl, hx, hb, hml, hown, hts, hK, hA, hnm⟩ := h
  intro H locs ls hl hS hW
  obtain ⟨L, g, hP, hD, h1, h2⟩ := hW
  refine va_new (ci := ci) (fs := fs) (C := C) (T := T) (N := N) hx hb hts (gmU hin) ty hty hown (hts _ (gm hw rfl)) (hts _ (gm hi rfl)) (hts _ (gm hini rfl)) hK.1 hP hD hS hA hc hfs hR.1 hR.2 hd (fun q H1 hP1 hD1 hS1 => ?_)
  have hq : q ∉ L := by
    intro hm
    obtain ⟨j, hj⟩ := va_pl_get (X := []) (f := g) hm
    have e1 : (([] ++ va_pl L g) ++ [(q, (Sum.inr (ci, fs) : va_E))])[j]? = some (q, g q) := by
      rw [List.getElem?_append_left (List.getElem?_eq_some_iff.mp hj).1]; exact hj
    have e2 : (([] ++ va_pl L g) ++ [(q, (Sum.inr (ci, fs) : va_E))])[([] ++ va_pl L g).length]? = some (q, Sum.inr (ci, fs)) := by
      rw [List.getElem?_append_right (Nat.le_refl _), Nat.sub_self]; rfl
    have e3 := hD1.1 _ _ _ _ e1 e2 rfl
    have e4 := (List.getElem?_eq_some_iff.mp hj).1
    omega
  rw [List.append_assoc, va_pl_push hq] at hP1 hD1
  exact kk q H1 locs ls hl hS1 (gW.new hce hq h1 h2 hP1 hD1)
end GH
end
section
def gPd (r : Option Value) (ad : gAd) (ce : gCe) : Option Value → gAd → gCe → Prop := fun v ad' ce' => v = r ∧ ad' = ad ∧ ce' = ce
section GA
variable {l : Launch} {R : Room} {cc : ByteArray} {nL : Nat} {own nm : String} {D : va_G} {A : Nat → Prop} {E : gEc} {Rn : gR} {pc : Nat} {lv lv' : List (Nat × Value)} {st : List Value} {ad : gAd} {ce : gCe} {k n : Nat}
theorem gFresh {D : va_G} {A : Nat → Prop} {L : List Nat} {g : Nat → va_E} {q : Nat} {e' : va_E} (hD1 : va_D A (([] ++ va_pl L g) ++ [(q, e')])) : q ∉ L := by
  intro hm
  obtain ⟨j, hj⟩ := va_pl_get (X := []) (f := g) hm
  have e1 : (([] ++ va_pl L g) ++ [(q, e')])[j]? = some (q, g q) := by
    rw [List.getElem?_append_left (List.getElem?_eq_some_iff.mp hj).1]; exact hj
  have e2 : (([] ++ va_pl L g) ++ [(q, e')])[([] ++ va_pl L g).length]? = some (q, e') := by
    rw [List.getElem?_append_right (Nat.le_refl _), Nat.sub_self]; rfl
  have e3 := hD1.1 _ _ _ _ e1 e2 rfl
  have e4 := (List.getElem?_eq_some_iff.mp hj).1
  omega
theorem r_newi (h : gOk l R cc nL own nm D A E Rn) (kd i N : Nat) {x : Int32} (hd : decode cc pc = .ok (.newarray .int, 2)) (hce : ce kd i = none) (hx0 : ¬ x < 0) (hN : x.toNatClampNeg = N) (hN2 : N ≤ 100000) (hR : k + 1 ≤ R.cells ∧ n + N ≤ R.slots) (kk : ∀ q : Nat, Rn (pc + 2) lv (.ref q :: st) (gua ad kd i q) (gup ce kd i (.inl (E 0, N, .inl (fun _ => 0)))) (k + 1) (n + N)) : Rn pc lv (.int x :: st) ad ce k n := by
  obtain ⟨p, e, s, m, args, below, meth, c, Q, rfl, hx, hb, hml, hown, hts, hK, hA, hnm⟩ := h
  intro H locs ls hl hS hW
  obtain ⟨L, g, hP, hD, h1, h2⟩ := hW
  refine va_newa (atype := .int) (ty := .int) (a0 := (N, .inl (fun _ => 0))) hx hb (hts _ (gm wac_int rfl)) rfl hK.1 hP hD hS hA (fun cA => rfl) hx0 hN (by show N * 4 ≤ _; omega) hR.1 hR.2 hd (fun q cA H1 hK1 hP1 hD1 hS1 => ?_)
  have e1 : s.vm.findClass ("[" ++ FieldType.int.toString) = some (E 0) := (hK.1.2 0 (E 0, .int) rfl).2
  have e2 : s.vm.findClass ("[" ++ FieldType.int.toString) = some cA := (hK1.2 4 (cA, .int) rfl).2
  obtain rfl : cA = E 0 := Option.some.inj (e2.symm.trans e1)
  have hq := gFresh (D := D) hD1
  rw [List.append_assoc, va_pl_push hq] at hP1 hD1
  exact kk q H1 locs ls hl hS1 (gW.new hce hq h1 h2 hP1 hD1)
theorem r_newz (h : gOk l R cc nL own nm D A E Rn) (kd i N : Nat) {x : Int32} (hd : decode cc pc = .ok (.newarray .boolean, 2)) (hce : ce kd i = none) (hx0 : ¬ x < 0) (hN : x.toNatClampNeg = N) (hN2 : N ≤ 100000) (hR : k + 1 ≤ R.cells ∧ n + N ≤ R.slots) (kk : ∀ q : Nat, Rn (pc + 2) lv (.ref q :: st) (gua ad kd i q) (gup ce kd i (.inl (E 1, N, .inl (fun _ => 0)))) (k + 1) (n + N)) : Rn pc lv (.int x :: st) ad ce k n := by
  obtain ⟨p, e, s, m, args, below, meth, c, Q, rfl, hx, hb, hml, hown, hts, hK, hA, hnm⟩ := h
  intro H locs ls hl hS hW
  obtain ⟨L, g, hP, hD, h1, h2⟩ := hW
  refine va_newa (atype := .boolean) (ty := .boolean) (a0 := (N, .inl (fun _ => 0))) hx hb (hts _ (gm wac_boolean rfl)) rfl hK.1 hP hD hS hA (fun cA => rfl) hx0 hN (by show N * 1 ≤ _; omega) hR.1 hR.2 hd (fun q cA H1 hK1 hP1 hD1 hS1 => ?_)
  have e1 : s.vm.findClass ("[" ++ FieldType.boolean.toString) = some (E 1) := (hK.1.2 1 (E 1, .boolean) rfl).2
  have e2 : s.vm.findClass ("[" ++ FieldType.boolean.toString) = some cA := (hK1.2 4 (cA, .boolean) rfl).2
  obtain rfl : cA = E 1 := Option.some.inj (e2.symm.trans e1)
  have hq := gFresh (D := D) hD1
  rw [List.append_assoc, va_pl_push hq] at hP1 hD1
  exact kk q H1 locs ls hl hS1 (gW.new hce hq h1 h2 hP1 hD1)
theorem r_newq (h : gOk l R cc nL own nm D A E Rn) (kd i N : Nat) {ix t0 : Nat} {C : String} {cE : ClassId} {x : Int32} (hd : decode cc pc = .ok (.anewarray ix, 3)) (hce : ce kd i = none) (hw : Cond.classLink own ix C ∈ lw_tbl) (ht : (gTys E)[t0]? = some (cE, .object C)) (hC : C = RX1 ∨ C = RX4) (hx0 : ¬ x < 0) (hN : x.toNatClampNeg = N) (hN2 : N ≤ 100000) (hR : k + 1 ≤ R.cells ∧ n + N ≤ R.slots) (kk : ∀ q : Nat, Rn (pc + 3) lv (.ref q :: st) (gua ad kd i q) (gup ce kd i (.inl (cE, N, .inr (.inr (.inr (.inr (fun _ => none))))))) (k + 1) (n + N)) : Rn pc lv (.int x :: st) ad ce k n := by
  obtain ⟨p, e, s, m, args, below, meth, c, Q, rfl, hx, hb, hml, hown, hts, hK, hA, hnm⟩ := h
  intro H locs ls hl hS hW
  obtain ⟨L, g, hP, hD, h1, h2⟩ := hW
  have hAO : va_AO C s := by
    rcases hC with rfl | rfl
    · exact hK.2.1
    · exact hK.2.2.1
  refine va_newq (C := C) hx hb hown (hts _ (gm hw rfl)) hAO hK.1 hP hD hS hA hx0 hN (by omega) hR.1 hR.2 hd (fun q cA H1 hK1 hP1 hD1 hS1 => ?_)
  obtain ⟨kA, comp, -, -, -, e1⟩ := (hK.1.2 t0 (cE, .object C) ht).2
  obtain ⟨kB, comp2, -, -, -, e2⟩ := (hK1.2 4 (cA, .object C) rfl).2
  obtain rfl : cA = cE := Option.some.inj (e2.symm.trans e1)
  have hq := gFresh (D := D) hD1
  rw [List.append_assoc, va_pl_push hq] at hP1 hD1
  exact kk q H1 locs ls hl hS1 (gW.new hce hq h1 h2 hP1 hD1)
/-- a call out of its run -/
theorem gCall {p : Program} {e : Env} {s : State} {m : MethodId} {args : Array Value} {below : List Frame} {meth : Method} {c : Code} {H : Heap} {locs : List Loc} {Q : State → Prop} {ls : Array Slot} {rest : List Value} {a : Array Value} {mc ms : Nat} {post : Option Value → gAd → gCe → Prop} (hl : lv_has ls nL lv) (hS : va_S A s.heap H locs)
    (hr : va_Run p l e R s m args below meth c H locs k n mc ms (F0 m pc ls st) rest (gQ D A post a) A)
    (kk : ∀ (v : Option Value) (ad' : gAd) (ce' : gCe), post v ad' ce' → gRun p l e R s m args below meth c D A nL Q (pc + 3) lv (v.toList ++ rest) ad' ce' (k + mc) (n + ms)) : W p l e R s m args below meth c H locs k n Q (F0 m pc ls st) := by
  intro T hT X
  obtain ⟨v, st₀, t, T', L, h0, X', hL, e1, e2, ⟨⟨v', ad', ce', hv, hp, hw⟩, hz, hk⟩, stp⟩ := hr T hT X
  cases hv
  rw [h0] at hz hk
  have hS1 : va_S A s.heap T'.heap (locs ++ L) := ⟨Nat.le_trans hS.1 (by rw [e1]; exact hz), fun q h1 h2 => by rw [e1, hk q (Nat.lt_of_lt_of_le h1 hS.1) h2]; exact hS.2.1 q h1 h2, fun q hq => by
      rcases List.mem_append.mp hq with h | h
      · exact hS.2.2 q h
      · exact hL q h⟩
  obtain ⟨t2, a1, b1⟩ := kk v ad' ce' hp T'.heap (locs ++ L) ls hl hS1 (by rw [e1]; exact hw) T' rfl X'
  exact ⟨t2, stp t2 a1, b1⟩
theorem gBlind {av : List Value} : FrameBlind (gP D A E av ad ce) := fun a U g mk q => by
  obtain ⟨q0, q1, q2, q3⟩ := q
  exact ⟨q0, gK.same rfl q1, q2, q3⟩
theorem gPre {s : State} {H : Heap} {locs : List Loc} {av : List Value} (hK : gK D E s) (hA : ∀ q : Nat, s.heap.size ≤ q → A q) (hS : va_S A s.heap H locs) (hW : gW D A ad ce H) : ∀ U : State, U.heap = H → s.WarmedH U.vm → gP D A E av ad ce av.toArray U := fun U hU hw => ⟨rfl, hK.warm hw, by rw [hU]; exact fun q hq => hA q (Nat.le_trans hS.1 hq), by rw [hU]; exact hW⟩
abbrev gYok (y : MethodName) (na : Nat) : Prop := y.cls ≠ "java/lang/invoke/MethodHandle" ∧ y.cls ≠ "java/lang/invoke/VarHandle" ∧ (parseMethodDescriptor y.desc).map (fun d => d.parameters.length) = some na
abbrev gRok (R : Room) (maxL d mc ms k n : Nat) : Prop := d + 1 ≤ R.frames ∧ 8 + (maxL + 11) + 30 * d ≤ R.locals ∧ k + mc ≤ R.cells ∧ n + ms ≤ R.slots
theorem r_callVX (h : gOk l R cc nL own nm D A E Rn) {y : MethodName} {bytes : ByteArray} {maxL d mc ms kd i ci ix : Nat} {ret : Option FieldType} {fs : List Value} {q : vw_C} (As rest : List Value) {post : Option Value → gAd → gCe → Prop} (hd : decode cc pc = .ok (.invokevirtual ix, 3)) (hM : gCon D E y bytes maxL ret d mc ms (.ref (ad kd i) :: As) ad ce post) (w1 : Cond.methodLink own ix y ∈ lw_tbl) (w2 : Cond.instanceMethod y ∈ lw_tbl) (w3 : Cond.selects y.cls y y ∈ lw_tbl) (w4 : Cond.initialized y.cls ∈ lw_tbl) (w5 : Cond.code y bytes maxL ret ∈ lw_tbl) (hy : gYok y As.length) (hce : ce kd i = some (.inr (ci, fs))) (hc : vwCl[ci]? = some q) (hq : q.1 = y.cls) (hR : gRok R maxL d mc ms k n) (hst : (rest.map fun v => v.category).sum ≤ 8) (hrev : st = As.reverse ++ .ref (ad kd i) :: rest)
    (kk : ∀ (v : Option Value) (ad' : gAd) (ce' : gCe), post v ad' ce' → Rn (pc + 3) lv (v.toList ++ rest) ad' ce' (k + mc) (n + ms)) : Rn pc lv st ad ce k n := by
  obtain ⟨p, e, s, m, args, below, meth, c, Q, rfl, hx, hb, hml, hown, hts, hK, hA, hnm⟩ := h
  intro H locs ls hl hS hW
  subst hrev
  have cb : CallB R s args own ix y bytes maxL ret (gWs y bytes maxL ret) (gRm d mc ms) mc ms As.length := callB_of As.length hts (gGoodWs w5) rfl rfl rfl (hts _ (gm w4 rfl)) (hts _ (gm w1 rfl)) hy ⟨hR.1, hR.2.1⟩
  obtain ⟨cell, c1, c2, c3⟩ := va_recv hK.1 (hW.at hce) (ci := ci) (q0 := 0) hc rfl
  refine gCall hl hS (va_runV (As := As) (rest := rest) (b := ad kd i) (C := y.cls) ⟨hx, hb, hml, hown, hts⟩ (hM l A) ⟨cb, hts _ (gm w2 rfl), hts _ (gm w3 rfl)⟩ ⟨gBlind, ⟨cell, c1, c2, by rw [← hq]; exact c3⟩, gPre hK hA hS hW⟩ rfl rfl hl.1 rfl (lv_room hst) hd ⟨hR.2.2.1, hR.2.2.2⟩) kk
theorem r_callV (h : gOk l R cc nL own nm D A E Rn) {y : MethodName} {bytes : ByteArray} {maxL d mc ms kd i ci ix : Nat} {ret : Option FieldType} {fs : List Value} {q : vw_C} (As rest : List Value) {r : Option Value} {ad1 : gAd} {ce1 : gCe} (hd : decode cc pc = .ok (.invokevirtual ix, 3)) (hM : gCon D E y bytes maxL ret d mc ms (.ref (ad kd i) :: As) ad ce (gPd r ad1 ce1)) (w1 : Cond.methodLink own ix y ∈ lw_tbl) (w2 : Cond.instanceMethod y ∈ lw_tbl) (w3 : Cond.selects y.cls y y ∈ lw_tbl) (w4 : Cond.initialized y.cls ∈ lw_tbl) (w5 : Cond.code y bytes maxL ret ∈ lw_tbl) (hy : gYok y As.length) (hce : ce kd i = some (.inr (ci, fs))) (hc : vwCl[ci]? = some q) (hq : q.1 = y.cls) (hR : gRok R maxL d mc ms k n) (hst : (rest.map fun v => v.category).sum ≤ 8) (hrev : st = As.reverse ++ .ref (ad kd i) :: rest)
    (kk : Rn (pc + 3) lv (r.toList ++ rest) ad1 ce1 (k + mc) (n + ms)) : Rn pc lv st ad ce k n :=
  r_callVX h As rest hd hM w1 w2 w3 w4 w5 hy hce hc hq hR hst hrev (fun v ad' ce' hp => by obtain ⟨rfl, rfl, rfl⟩ := hp; exact kk)
theorem r_callS (h : gOk l R cc nL own nm D A E Rn) {y : MethodName} {bytes : ByteArray} {maxL d mc ms ix : Nat} {ret : Option FieldType} (As rest : List Value) {r : Option Value} {ad1 : gAd} {ce1 : gCe} (hd : decode cc pc = .ok (.invokestatic ix, 3)) (hM : gCon D E y bytes maxL ret d mc ms As ad ce (gPd r ad1 ce1)) (w1 : Cond.methodLink own ix y ∈ lw_tbl) (w2 : Cond.static y ∈ lw_tbl) (w4 : Cond.initialized y.cls ∈ lw_tbl) (w5 : Cond.code y bytes maxL ret ∈ lw_tbl) (hy : gYok y As.length) (hR : gRok R maxL d mc ms k n) (hst : (rest.map fun v => v.category).sum ≤ 8) (hrev : st = As.reverse ++ rest)
    (kk : Rn (pc + 3) lv (r.toList ++ rest) ad1 ce1 (k + mc) (n + ms)) : Rn pc lv st ad ce k n := by
  obtain ⟨p, e, s, m, args, below, meth, c, Q, rfl, hx, hb, hml, hown, hts, hK, hA, hnm⟩ := h
  intro H locs ls hl hS hW
  subst hrev
  have cb : CallB R s args own ix y bytes maxL ret (gWs y bytes maxL ret) (gRm d mc ms) mc ms As.length := callB_of As.length hts (gGoodWs w5) rfl rfl rfl (hts _ (gm w4 rfl)) (hts _ (gm w1 rfl)) hy ⟨hR.1, hR.2.1⟩
  refine gCall hl hS (va_runS (As := As) (rest := rest) ⟨hx, hb, hml, hown, hts⟩ (hM l A) ⟨cb, hts _ (gm w2 rfl)⟩ ⟨gBlind, gPre hK hA hS hW⟩ rfl rfl hl.1 rfl (lv_room hst) hd ⟨hR.2.2.1, hR.2.2.2⟩) (fun v ad' ce' hp => by obtain ⟨rfl, rfl, rfl⟩ := hp; exact kk)
theorem gCN {s : State} {args : Array Value} {y : MethodName} {bytes : ByteArray} {maxL d mc ms ix na : Nat} {ret : Option FieldType} {host : String} (hts : ∀ w ∈ gTB, w.before args s = true) (hN : va_Nw (.methodLinkNest own ix y host) s) (w4 : Cond.initialized y.cls ∈ lw_tbl) (w5 : Cond.code y bytes maxL ret ∈ lw_tbl) (hy : gYok y na) (hR : gRok R maxL d mc ms k n) : va_CN R s args own ix y host bytes maxL ret (gWs y bytes maxL ret) (gRm d mc ms) mc ms na :=
  va_cnB na hts (gGoodWs w5) rfl rfl rfl hN (hts _ (gm w4 rfl)) hy ⟨hR.1, hR.2.1⟩
theorem r_callSN (h : gOk l R cc nL own nm D A E Rn) {y : MethodName} {bytes : ByteArray} {maxL d mc ms ix : Nat} {ret : Option FieldType} {host : String} (As rest : List Value) {r : Option Value} {ad1 : gAd} {ce1 : gCe} (hd : decode cc pc = .ok (.invokestatic ix, 3)) (hM : gCon D E y bytes maxL ret d mc ms As ad ce (gPd r ad1 ce1)) (hN : ∀ s : State, gNs s → va_Nw (.methodLinkNest own ix y host) s) (w2 : Cond.static y ∈ lw_tbl) (w4 : Cond.initialized y.cls ∈ lw_tbl) (w5 : Cond.code y bytes maxL ret ∈ lw_tbl) (hy : gYok y As.length) (hR : gRok R maxL d mc ms k n) (hst : (rest.map fun v => v.category).sum ≤ 8) (hrev : st = As.reverse ++ rest)
    (kk : Rn (pc + 3) lv (r.toList ++ rest) ad1 ce1 (k + mc) (n + ms)) : Rn pc lv st ad ce k n := by
  obtain ⟨p, e, s, m, args, below, meth, c, Q, rfl, hx, hb, hml, hown, hts, hK, hA, hnm⟩ := h
  intro H locs ls hl hS hW
  subst hrev
  refine gCall hl hS (va_runSN (As := As) (rest := rest) ⟨hx, hb, hml, hown, hts⟩ (hM l A) ⟨gCN hts (hN s hK.2.2.2) w4 w5 hy hR, hts _ (gm w2 rfl), trivial⟩ ⟨gBlind, gPre hK hA hS hW⟩ rfl rfl hl.1 rfl (lv_room hst) hd ⟨hR.2.2.1, hR.2.2.2⟩) (fun v ad' ce' hp => by obtain ⟨rfl, rfl, rfl⟩ := hp; exact kk)
theorem r_callIX (h : gOk l R cc nL own nm D A E Rn) {y : MethodName} {bytes : ByteArray} {maxL d mc ms ix b : Nat} (As rest : List Value) {post : Option Value → gAd → gCe → Prop} (hd : decode cc pc = .ok (.invokespecial ix, 3)) (hM : gCon D E y bytes maxL none d mc ms (.ref b :: As) ad ce post) (w1 : Cond.methodLink own ix y ∈ lw_tbl) (w2 : Cond.instanceMethod y ∈ lw_tbl) (w4 : Cond.initialized y.cls ∈ lw_tbl) (w5 : Cond.code y bytes maxL none ∈ lw_tbl) (hyn : y.name = "<init>") (hy : gYok y As.length) (hR : gRok R maxL d mc ms k n) (hst : (rest.map fun v => v.category).sum ≤ 8) (hrev : st = As.reverse ++ .ref b :: rest)
    (kk : ∀ (v : Option Value) (ad' : gAd) (ce' : gCe), post v ad' ce' → Rn (pc + 3) lv (v.toList ++ rest) ad' ce' (k + mc) (n + ms)) : Rn pc lv st ad ce k n := by
  obtain ⟨p, e, s, m, args, below, meth, c, Q, rfl, hx, hb, hml, hown, hts, hK, hA, hnm⟩ := h
  intro H locs ls hl hS hW
  subst hrev
  have cb : CallB R s args own ix y bytes maxL none (gWs y bytes maxL none) (gRm d mc ms) mc ms As.length := callB_of As.length hts (gGoodWs w5) rfl rfl rfl (hts _ (gm w4 rfl)) (hts _ (gm w1 rfl)) hy ⟨hR.1, hR.2.1⟩
  exact gCall hl hS (va_runI (As := As) (rest := rest) (b := b) ⟨hx, hb, hml, hown, hts⟩ (hM l A) ⟨cb, hyn, hts _ (gm w2 rfl)⟩ ⟨gBlind, gPre hK hA hS hW⟩ rfl rfl hl.1 rfl (lv_room hst) hd ⟨hR.2.2.1, hR.2.2.2⟩) kk
theorem r_callINX (h : gOk l R cc nL own nm D A E Rn) {y : MethodName} {bytes : ByteArray} {maxL d mc ms ix b : Nat} {host : String} (As rest : List Value) {post : Option Value → gAd → gCe → Prop} (hd : decode cc pc = .ok (.invokespecial ix, 3)) (hM : gCon D E y bytes maxL none d mc ms (.ref b :: As) ad ce post) (hN : ∀ s : State, gNs s → va_Nw (.methodLinkNest own ix y host) s) (w2 : Cond.instanceMethod y ∈ lw_tbl) (w4 : Cond.initialized y.cls ∈ lw_tbl) (w5 : Cond.code y bytes maxL none ∈ lw_tbl) (hyn : y.name = "<init>") (hy : gYok y As.length) (hR : gRok R maxL d mc ms k n) (hst : (rest.map fun v => v.category).sum ≤ 8) (hrev : st = As.reverse ++ .ref b :: rest)
    (kk : ∀ (v : Option Value) (ad' : gAd) (ce' : gCe), post v ad' ce' → Rn (pc + 3) lv (v.toList ++ rest) ad' ce' (k + mc) (n + ms)) : Rn pc lv st ad ce k n := by
  obtain ⟨p, e, s, m, args, below, meth, c, Q, rfl, hx, hb, hml, hown, hts, hK, hA, hnm⟩ := h
  intro H locs ls hl hS hW
  subst hrev
  exact gCall hl hS (va_runIN (As := As) (rest := rest) (b := b) ⟨hx, hb, hml, hown, hts⟩ (hM l A) ⟨gCN hts (hN s hK.2.2.2) w4 w5 hy hR, hyn, hts _ (gm w2 rfl)⟩ ⟨gBlind, gPre hK hA hS hW⟩ rfl rfl hl.1 rfl (lv_room hst) hd ⟨hR.2.2.1, hR.2.2.2⟩) kk
variable {ret : Option FieldType} {mc ms : Nat} {post : Option Value → gAd → gCe → Prop}
theorem r_iret (h : gOkM l R cc nL (some .int) own nm D A E mc ms post Rn) {v : Int32} (hd : decode cc pc = .ok (.ireturn, 1)) (hk : k ≤ mc ∧ n ≤ ms) (hp : post (some (.int v)) ad ce) : Rn pc lv [.int v] ad ce k n := by
  obtain ⟨p, e, s, m, args, below, meth, c, rfl, hx, hb, hml, hown, hts, hK, hA, hnm, hr, hlocks⟩ := h
  intro H locs ls hl hS hW
  refine W.widen hk.1 hk.2 ?_
  exact W.iret hx hb hr (fun t ht hWm => ⟨⟨_, ad, ce, rfl, hp, by rw [ht]; exact hW⟩, hS.F ht⟩) hS.2.2 hd hlocks
theorem r_zret (h : gOkM l R cc nL (some .boolean) own nm D A E mc ms post Rn) {v : Int32} (hd : decode cc pc = .ok (.ireturn, 1)) (hk : k ≤ mc ∧ n ≤ ms) (hv : v = 0 ∨ v = 1) (hp : post (some (.int v)) ad ce) : Rn pc lv [.int v] ad ce k n := by
  obtain ⟨p, e, s, m, args, below, meth, c, rfl, hx, hb, hml, hown, hts, hK, hA, hnm, hr, hlocks⟩ := h
  intro H locs ls hl hS hW
  refine W.widen hk.1 hk.2 ?_
  exact W.zret hx hb hr (by rcases hv with rfl | rfl <;> rfl) (fun t ht hWm => ⟨⟨_, ad, ce, rfl, hp, by rw [ht]; exact hW⟩, hS.F ht⟩) hS.2.2 hd hlocks
theorem r_vret (h : gOkM l R cc nL none own nm D A E mc ms post Rn) (hd : decode cc pc = .ok (.return_, 1)) (hk : k ≤ mc ∧ n ≤ ms) (hp : post none ad ce) : Rn pc lv [] ad ce k n := by
  obtain ⟨p, e, s, m, args, below, meth, c, rfl, hx, hb, hml, hown, hts, hK, hA, hnm, hr, hlocks⟩ := h
  intro H locs ls hl hS hW
  refine W.widen hk.1 hk.2 ?_
  exact W.vret hx hb hr (fun t ht hWm => ⟨⟨_, ad, ce, rfl, hp, by rw [ht]; exact hW⟩, hS.F ht⟩) hS.2.2 hd hlocks
theorem r_aret {C : String} (h : gOkM l R cc nL (some (.object C)) own nm D A E mc ms post Rn) {v : Value} (hd : decode cc pc = .ok (.areturn, 1)) (hk : k ≤ mc ∧ n ≤ ms) (hv : v = .null ∨ ∃ a, v = .ref a) (hp : post (some v) ad ce) : Rn pc lv [v] ad ce k n := by
  obtain ⟨p, e, s, m, args, below, meth, c, rfl, hx, hb, hml, hown, hts, hK, hA, hnm, hr, hlocks⟩ := h
  intro H locs ls hl hS hW
  refine W.widen hk.1 hk.2 ?_
  exact W.aret hx hb hr (Or.inl ⟨C, rfl⟩) hv (fun t ht hWm => ⟨⟨_, ad, ce, rfl, hp, by rw [ht]; exact hW⟩, hS.F ht⟩) hS.2.2 hd hlocks
end GA
end
section
abbrev gI : Type := Nat → Nat → Nat → Int32
abbrev gF : Type := Nat → Nat → Option Nat
def gr (I : gI) (k i : Nat) (r : Nat → Int32) : gI := fun k' i' => if k' = k ∧ i' = i then r else I k' i'
abbrev gs (I : gI) (k i s : Nat) (v : Int32) : gI := gr I k i (upd (I k i) s v)
def gf (F : gF) (k i : Nat) (v : Option Nat) : gF := fun k' i' => if k' = k ∧ i' = i then v else F k' i'
/-- the content of a named cell: kinds 0 box, 1 line, 2 arm, 3 store, 4 cow, 5 its troubles, 6 its latest, 7 visit, 8 cows, 9 visits, 10 places, 11 the reference, 12 its arrays by their slots -/
def cXr (E : gEc) (ad : gAd) (F : gF) (lc lv : Nat) (k i : Nat) (r : Nat → Int32) : Option va_E := match k with
  | 0 => if i = 0 then some (.inr (5, [.ref (ad 8 0), .ref (ad 9 0), .ref (ad 1 0), .ref (ad 2 0), .ref (ad 3 0), .int (r 5), .int (r 6), .int (r 7), .int (r 8), .int (r 9), .int (r 10), .int (r 11), .int (r 12), .int (r 13)])) else none
  | 1 => if i = 0 then some (.inr (2, [.ref (ad 10 0), .int (r 1)])) else none
  | 2 => if i = 0 then some (.inr (0, [va_rf ((F 1 0).map (ad 7)), .int (r 1), .int (r 2), .int (r 3), .int (r 4)])) else none
  | 3 => if i = 0 then some (.inr (3, [.int (r 0), .int (r 1), .int (r 2), .int (r 3), .int (r 4)])) else none
  | 4 => if i < lc then some (.inr (1, [.int (r 0), .int (r 1), .int (r 2), .int (r 3), .ref (ad 5 i), .ref (ad 6 i), .int (r 6), .int (r 7), .int (r 8), .int (r 9), .int (r 10), .int (r 11), .int (r 12), .int (r 13)])) else none
  | 5 => if i < lc then some (.inl (E 0, 4, .inl r)) else none
  | 6 => if i < lc then some (.inl (E 0, 5, .inl r)) else none
  | 7 => if i < lv then some (.inr (4, [.int (r 0), .int (r 1), .int (r 2), .int (r 3), .int (r 4), .int (r 5), .int (r 6), .int (r 7), .int (r 8), .int (r 9), .int (r 10), .int (r 11)])) else none
  | 8 => if i = 0 then some (.inl (E 2, 12, .inr (.inr (.inr (.inr (fun j => (F 2 j).map (ad 4))))))) else none
  | 9 => if i = 0 then some (.inl (E 3, 500, .inr (.inr (.inr (.inr (fun j => (F 3 j).map (ad 7))))))) else none
  | 10 => if i = 0 then some (.inl (E 3, 12, .inr (.inr (.inr (.inr (fun j => (F 0 j).map (ad 7))))))) else none
  | 11 => if i = 0 then some (.inr (6, [.int (r 0), .int (r 1), .int (r 2), .int (r 3), .ref (ad 12 4), .ref (ad 12 5), .ref (ad 12 6), .ref (ad 12 7), .ref (ad 12 8), .ref (ad 12 9), .ref (ad 12 10), .ref (ad 12 11), .ref (ad 12 12), .ref (ad 12 13), .ref (ad 12 14), .ref (ad 12 15), .ref (ad 12 16), .int (r 17), .ref (ad 12 18), .ref (ad 12 19), .ref (ad 12 20), .ref (ad 12 21), .ref (ad 12 22), .ref (ad 12 23), .ref (ad 12 24), .ref (ad 12 25), .ref (ad 12 26), .ref (ad 12 27), .ref (ad 12 28), .int (r 29), .ref (ad 12 30), .int (r 31), .int (r 32), .int (r 33), .int (r 34), .int (r 35), .int (r 36), .int (r 37), .int (r 38), .int (r 39), .int (r 40), .int (r 41), .int (r 42)])) else none
  | 12 => match i with
    | 4 => some (.inl (E 0, 12, .inl r))
    | 5 => some (.inl (E 0, 12, .inl r))
    | 6 => some (.inl (E 0, 12, .inl r))
    | 7 => some (.inl (E 0, 12, .inl r))
    | 8 => some (.inl (E 0, 12, .inl r))
    | 9 => some (.inl (E 0, 12, .inl r))
    | 10 => some (.inl (E 0, 12, .inl r))
    | 11 => some (.inl (E 0, 12, .inl r))
    | 12 => some (.inl (E 0, 48, .inl r))
    | 13 => some (.inl (E 0, 12, .inl r))
    | 14 => some (.inl (E 0, 12, .inl r))
    | 15 => some (.inl (E 0, 12, .inl r))
    | 16 => some (.inl (E 0, 12, .inl r))
    | 18 => some (.inl (E 0, 500, .inl r))
    | 19 => some (.inl (E 0, 500, .inl r))
    | 20 => some (.inl (E 0, 500, .inl r))
    | 21 => some (.inl (E 0, 500, .inl r))
    | 22 => some (.inl (E 1, 500, .inl r))
    | 23 => some (.inl (E 0, 500, .inl r))
    | 24 => some (.inl (E 0, 500, .inl r))
    | 25 => some (.inl (E 0, 500, .inl r))
    | 26 => some (.inl (E 0, 500, .inl r))
    | 27 => some (.inl (E 0, 500, .inl r))
    | 28 => some (.inl (E 0, 500, .inl r))
    | 30 => some (.inl (E 0, 12, .inl r))
    | _ => none
  | _ => none
def cX (E : gEc) (ad : gAd) (I : gI) (F : gF) (lc lv : Nat) : gCe := fun k i => cXr E ad F lc lv k i (I k i)
section CX
variable {E : gEc} {ad : gAd} {I : gI} {F : gF} {lc lv i : Nat}
theorem xo_0 (r : Nat → Int32) : cXr E ad F lc lv 0 0 r = some (.inr (5, [.ref (ad 8 0), .ref (ad 9 0), .ref (ad 1 0), .ref (ad 2 0), .ref (ad 3 0), .int (r 5), .int (r 6), .int (r 7), .int (r 8), .int (r 9), .int (r 10), .int (r 11), .int (r 12), .int (r 13)])) := rfl
theorem xo_1 (r : Nat → Int32) : cXr E ad F lc lv 1 0 r = some (.inr (2, [.ref (ad 10 0), .int (r 1)])) := rfl
theorem xo_2 (r : Nat → Int32) : cXr E ad F lc lv 2 0 r = some (.inr (0, [va_rf ((F 1 0).map (ad 7)), .int (r 1), .int (r 2), .int (r 3), .int (r 4)])) := rfl
theorem xo_3 (r : Nat → Int32) : cXr E ad F lc lv 3 0 r = some (.inr (3, [.int (r 0), .int (r 1), .int (r 2), .int (r 3), .int (r 4)])) := rfl
theorem xo_4 (h : i < lc) (r : Nat → Int32) : cXr E ad F lc lv 4 i r = some (.inr (1, [.int (r 0), .int (r 1), .int (r 2), .int (r 3), .ref (ad 5 i), .ref (ad 6 i), .int (r 6), .int (r 7), .int (r 8), .int (r 9), .int (r 10), .int (r 11), .int (r 12), .int (r 13)])) := if_pos h
theorem xo_7 (h : i < lv) (r : Nat → Int32) : cXr E ad F lc lv 7 i r = some (.inr (4, [.int (r 0), .int (r 1), .int (r 2), .int (r 3), .int (r 4), .int (r 5), .int (r 6), .int (r 7), .int (r 8), .int (r 9), .int (r 10), .int (r 11)])) := if_pos h
theorem xo_11 (r : Nat → Int32) : cXr E ad F lc lv 11 0 r = some (.inr (6, [.int (r 0), .int (r 1), .int (r 2), .int (r 3), .ref (ad 12 4), .ref (ad 12 5), .ref (ad 12 6), .ref (ad 12 7), .ref (ad 12 8), .ref (ad 12 9), .ref (ad 12 10), .ref (ad 12 11), .ref (ad 12 12), .ref (ad 12 13), .ref (ad 12 14), .ref (ad 12 15), .ref (ad 12 16), .int (r 17), .ref (ad 12 18), .ref (ad 12 19), .ref (ad 12 20), .ref (ad 12 21), .ref (ad 12 22), .ref (ad 12 23), .ref (ad 12 24), .ref (ad 12 25), .ref (ad 12 26), .ref (ad 12 27), .ref (ad 12 28), .int (r 29), .ref (ad 12 30), .int (r 31), .int (r 32), .int (r 33), .int (r 34), .int (r 35), .int (r 36), .int (r 37), .int (r 38), .int (r 39), .int (r 40), .int (r 41), .int (r 42)])) := rfl
theorem xo_5 (h : i < lc) (r : Nat → Int32) : cXr E ad F lc lv 5 i r = some (.inl (E 0, 4, .inl r)) := if_pos h
theorem xo_6 (h : i < lc) (r : Nat → Int32) : cXr E ad F lc lv 6 i r = some (.inl (E 0, 5, .inl r)) := if_pos h
theorem xo_8 (r : Nat → Int32) : cXr E ad F lc lv 8 0 r = some (.inl (E 2, 12, .inr (.inr (.inr (.inr (fun j => (F 2 j).map (ad 4))))))) := rfl
theorem xo_9 (r : Nat → Int32) : cXr E ad F lc lv 9 0 r = some (.inl (E 3, 500, .inr (.inr (.inr (.inr (fun j => (F 3 j).map (ad 7))))))) := rfl
theorem xo_10 (r : Nat → Int32) : cXr E ad F lc lv 10 0 r = some (.inl (E 3, 12, .inr (.inr (.inr (.inr (fun j => (F 0 j).map (ad 7))))))) := rfl
theorem cX_put {k i : Nat} {e : va_E} {r' : Nat → Int32} (he : cXr E ad F lc lv k i r' = some e) : gup (cX E ad I F lc lv) k i e = cX E ad (gr I k i r') F lc lv := by
  funext k' i'
  unfold gup cX gr
  by_cases h : k' = k ∧ i' = i
  · rw [if_pos h]
    obtain ⟨rfl, rfl⟩ := h
    simp [he]
  · rw [if_neg h, if_neg h]
theorem cX_putF {k i : Nat} {e : va_E} {F' : gF} (hk : k ≤ 12) (he : cXr E ad F' lc lv k i (I k i) = some e) (ho : ∀ (k' i' : Nat) (r : Nat → Int32), ¬ (k' = k ∧ i' = i) → cXr E ad F' lc lv k' i' r = cXr E ad F lc lv k' i' r) : gup (cX E ad I F lc lv) k i e = cX E ad I F' lc lv := by
  funext k' i'
  unfold gup cX
  by_cases h : k' = k ∧ i' = i
  · rw [if_pos h]
    obtain ⟨rfl, rfl⟩ := h
    exact he.symm
  · rw [if_neg h]
    exact (ho k' i' _ h).symm
theorem gf_self {k i : Nat} {v : Option Nat} : gf F k i v k i = v := by simp [gf]
theorem gf_k {k i k' i' : Nat} {v : Option Nat} (h : k' ≠ k) : gf F k i v k' i' = F k' i' := by simp [gf, h]
theorem gf_i {k i k' i' : Nat} {v : Option Nat} (h : i' ≠ i) : gf F k i v k' i' = F k' i' := by simp [gf, h]
theorem cX_F_other {F' : gF} (h : ∀ k i : Nat, F' k i = F k i) : cX E ad I F' lc lv = cX E ad I F lc lv := by
  rw [show F' = F from funext fun k => funext fun i => h k i]
theorem cX_put2 (v : Option Nat) : gup (cX E ad I F lc lv) 2 0 (.inr (0, [va_rf (v.map (ad 7)), .int (I 2 0 1), .int (I 2 0 2), .int (I 2 0 3), .int (I 2 0 4)])) = cX E ad I (gf F 1 0 v) lc lv := by
  refine cX_putF (by decide) (by simp [cXr, gf]) ?_
  intro k' i' r h
  unfold cXr
  split <;> simp_all [gf]
theorem gf_map (k a s : Nat) (v : Option Nat) : va_up (fun j => (F k j).map (ad a)) s (v.map (ad a)) = fun j => (gf F k s v k j).map (ad a) := by
  funext j
  by_cases h : j = s
  · subst h; simp [va_up, gf]
  · simp [va_up, gf, h]
theorem cX_put10 (s : Nat) (v : Option Nat) : gup (cX E ad I F lc lv) 10 0 (.inl (E 3, 12, .inr (.inr (.inr (.inr (va_up (fun j => (F 0 j).map (ad 7)) s (v.map (ad 7)))))))) = cX E ad I (gf F 0 s v) lc lv := by
  rw [gf_map]
  refine cX_putF (by decide) (by simp [cXr]) ?_
  intro k' i' r h
  unfold cXr
  split <;> simp_all [gf]
theorem cX_put8 (s : Nat) (v : Option Nat) : gup (cX E ad I F lc lv) 8 0 (.inl (E 2, 12, .inr (.inr (.inr (.inr (va_up (fun j => (F 2 j).map (ad 4)) s (v.map (ad 4)))))))) = cX E ad I (gf F 2 s v) lc lv := by
  rw [gf_map]
  refine cX_putF (by decide) (by simp [cXr]) ?_
  intro k' i' r h
  unfold cXr
  split <;> simp_all [gf]
theorem cX_put9 (s : Nat) (v : Option Nat) : gup (cX E ad I F lc lv) 9 0 (.inl (E 3, 500, .inr (.inr (.inr (.inr (va_up (fun j => (F 3 j).map (ad 7)) s (v.map (ad 7)))))))) = cX E ad I (gf F 3 s v) lc lv := by
  rw [gf_map]
  refine cX_putF (by decide) (by simp [cXr]) ?_
  intro k' i' r h
  unfold cXr
  split <;> simp_all [gf]
theorem gs_self {k i s : Nat} {v : Int32} : gs I k i s v k i s = v := by simp [gs, gr, upd]
theorem gs_k {k i s k' i' s' : Nat} {v : Int32} (h : k' ≠ k) : gs I k i s v k' i' s' = I k' i' s' := by simp [gs, gr, h]
theorem gs_i {k i s k' i' s' : Nat} {v : Int32} (h : i' ≠ i) : gs I k i s v k' i' s' = I k' i' s' := by simp [gs, gr, h]
theorem gs_s {k i s k' i' s' : Nat} {v : Int32} (h : s' ≠ s) : gs I k i s v k' i' s' = I k' i' s' := by
  by_cases hk : k' = k ∧ i' = i
  · obtain ⟨rfl, rfl⟩ := hk
    simp [gs, gr, upd, h]
  · simp [gs, gr, hk]
theorem nI_idx {x : Int32} {j N : Nat} (hx : x = nI j) (hj : j < N) (hN : N < 2 ^ 31) : vp_in x N ∧ x.toNatClampNeg = j := by
  subst hx
  exact ⟨vp_in_nI hj hN, nI_clamp (by omega)⟩
end CX
section XR
variable {l : Launch} {R : Room} {cc : ByteArray} {nL : Nat} {own nm : String} {D : va_G} {A : Nat → Prop} {E : gEc} {Rn : gR} {pc : Nat} {lv lv' : List (Nat × Value)} {st : List Value} {ad : gAd} {I : gI} {F : gF} {lc ln k n : Nat}
/-- an int array of the world, read at a place that is known as a number -/
theorem x_iald (h : gOk l R cc nL own nm D A E Rn) {kd i N : Nat} {x v : Int32} (j : Nat) (hd : decode cc pc = .ok (.iaload, 1)) (hce : cXr E ad F lc ln kd i (I kd i) = some (.inl (E 0, N, .inl (I kd i)))) (hx : x = nI j) (hj : j < N) (hN : N < 2 ^ 31) (hv : I kd i j = v) (kk : Rn (pc + 1) lv (.int v :: st) ad (cX E ad I F lc ln) k n) : Rn pc lv (.int x :: .ref (ad kd i) :: st) ad (cX E ad I F lc ln) k n := by
  obtain ⟨h1, h2⟩ := nI_idx hx hj hN
  refine r_iald h (ce := cX E ad I F lc ln) hd hce h1 ?_
  rw [h2, hv]
  exact kk
theorem x_zald (h : gOk l R cc nL own nm D A E Rn) {kd i N : Nat} {x v : Int32} (j : Nat) (hd : decode cc pc = .ok (.baload, 1)) (hce : cXr E ad F lc ln kd i (I kd i) = some (.inl (E 1, N, .inl (I kd i)))) (hx : x = nI j) (hj : j < N) (hN : N < 2 ^ 31) (hv : I kd i j = v) (kk : Rn (pc + 1) lv (.int v :: st) ad (cX E ad I F lc ln) k n) : Rn pc lv (.int x :: .ref (ad kd i) :: st) ad (cX E ad I F lc ln) k n := by
  obtain ⟨h1, h2⟩ := nI_idx hx hj hN
  refine r_zald h (ce := cX E ad I F lc ln) hd hce h1 ?_
  rw [h2, hv]
  exact kk
theorem x_iast (h : gOk l R cc nL own nm D A E Rn) {kd i N : Nat} {x v : Int32} (j : Nat) (hd : decode cc pc = .ok (.iastore, 1)) (hce : ∀ r : Nat → Int32, cXr E ad F lc ln kd i r = some (.inl (E 0, N, .inl r))) (hx : x = nI j) (hj : j < N) (hN : N < 2 ^ 31) (kk : Rn (pc + 1) lv st ad (cX E ad (gs I kd i j v) F lc ln) k n) : Rn pc lv (.int v :: .int x :: .ref (ad kd i) :: st) ad (cX E ad I F lc ln) k n := by
  obtain ⟨h1, h2⟩ := nI_idx hx hj hN
  refine r_iast h (ce := cX E ad I F lc ln) hd (hce _) h1 (cX_put (hce _)) ?_
  rw [h2]
  exact kk
theorem x_zast (h : gOk l R cc nL own nm D A E Rn) {kd i N : Nat} {x v : Int32} (j : Nat) (hd : decode cc pc = .ok (.bastore, 1)) (hce : ∀ r : Nat → Int32, cXr E ad F lc ln kd i r = some (.inl (E 1, N, .inl r))) (hx : x = nI j) (hj : j < N) (hN : N < 2 ^ 31) (hv : v = 0 ∨ v = 1) (kk : Rn (pc + 1) lv st ad (cX E ad (gs I kd i j v) F lc ln) k n) : Rn pc lv (.int v :: .int x :: .ref (ad kd i) :: st) ad (cX E ad I F lc ln) k n := by
  obtain ⟨h1, h2⟩ := nI_idx hx hj hN
  refine r_zast h (ce := cX E ad I F lc ln) hd (hce _) h1 hv (cX_put (hce _)) ?_
  rw [h2]
  exact kk
end XR
end
section
def bI (p : Prop) [Decidable p] : Int32 := if p then 1 else 0
theorem bI_t {p : Prop} [Decidable p] (h : p) : bI p = 1 := if_pos h
theorem bI_f {p : Prop} [Decidable p] (h : ¬ p) : bI p = 0 := if_neg h
theorem bI_01 (p : Prop) [Decidable p] : bI p = 0 ∨ bI p = 1 := by
  by_cases h : p
  · exact Or.inr (bI_t h)
  · exact Or.inl (bI_f h)
theorem gNz {v : Int32} (h : v = 0 ∨ v = 1) : narrow .boolean (.int v) = .int v := by rcases h with rfl | rfl <;> rfl
theorem gFz {v : Int32} (h : v = 0 ∨ v = 1) : fits .boolean (.int v) = true := by rcases h with rfl | rfl <;> decide
section RR
variable {l : Launch} {R : Room} {cc : ByteArray} {nL : Nat} {own nm : String} {D : va_G} {A : Nat → Prop} {E : gEc} {Rn : gR} {pc : Nat} {lv lv' : List (Nat × Value)} {st : List Value} {ad : gAd} {I : gI} {F : gF} {lc ln k n : Nat} {ce : gCe}
theorem r_topi {x : Int32} (kk : ∀ y : Int32, y = x → Rn pc lv (.int y :: st) ad ce k n) : Rn pc lv (.int x :: st) ad ce k n := kk x rfl
theorem x_ialp (h : gOk l R cc nL own nm D A E Rn) {kd i N : Nat} {x v : Int32} (hd : decode cc pc = .ok (.iaload, 1)) (hce : cXr E ad F lc ln kd i (I kd i) = some (.inl (E 0, N, .inl (I kd i)))) (hx : vp_in x N) (hv : I kd i x.toNatClampNeg = v) (kk : Rn (pc + 1) lv (.int v :: st) ad (cX E ad I F lc ln) k n) : Rn pc lv (.int x :: .ref (ad kd i) :: st) ad (cX E ad I F lc ln) k n := by
  refine r_iald h (ce := cX E ad I F lc ln) hd hce hx ?_
  rw [hv]
  exact kk
theorem x_zalp (h : gOk l R cc nL own nm D A E Rn) {kd i N : Nat} {x v : Int32} (hd : decode cc pc = .ok (.baload, 1)) (hce : cXr E ad F lc ln kd i (I kd i) = some (.inl (E 1, N, .inl (I kd i)))) (hx : vp_in x N) (hv : I kd i x.toNatClampNeg = v) (kk : Rn (pc + 1) lv (.int v :: st) ad (cX E ad I F lc ln) k n) : Rn pc lv (.int x :: .ref (ad kd i) :: st) ad (cX E ad I F lc ln) k n := by
  refine r_zald h (ce := cX E ad I F lc ln) hd hce hx ?_
  rw [hv]
  exact kk
theorem x_iasp (h : gOk l R cc nL own nm D A E Rn) {kd i N : Nat} {x v : Int32} (hd : decode cc pc = .ok (.iastore, 1)) (hce : ∀ r : Nat → Int32, cXr E ad F lc ln kd i r = some (.inl (E 0, N, .inl r))) (hx : vp_in x N) (kk : Rn (pc + 1) lv st ad (cX E ad (gs I kd i x.toNatClampNeg v) F lc ln) k n) : Rn pc lv (.int v :: .int x :: .ref (ad kd i) :: st) ad (cX E ad I F lc ln) k n :=
  r_iast h (ce := cX E ad I F lc ln) hd (hce _) hx (cX_put (hce _)) kk
theorem x_zasp (h : gOk l R cc nL own nm D A E Rn) {kd i N : Nat} {x v : Int32} (hd : decode cc pc = .ok (.bastore, 1)) (hce : ∀ r : Nat → Int32, cXr E ad F lc ln kd i r = some (.inl (E 1, N, .inl r))) (hx : vp_in x N) (hv : v = 0 ∨ v = 1) (kk : Rn (pc + 1) lv st ad (cX E ad (gs I kd i x.toNatClampNeg v) F lc ln) k n) : Rn pc lv (.int v :: .int x :: .ref (ad kd i) :: st) ad (cX E ad I F lc ln) k n :=
  r_zast h (ce := cX E ad I F lc ln) hd (hce _) hx hv (cX_put (hce _)) kk
theorem r_aaldv (h : gOk l R cc nL own nm D A E Rn) {kd i N t0 : Nat} {cA : ClassId} {C : String} {f : Nat → Option Nat} {x : Int32} {v : Value} (hd : decode cc pc = .ok (.aaload, 1)) (hce : ce kd i = some (.inl (cA, N, .inr (.inr (.inr (.inr f)))))) (ht : (gTys E)[t0]? = some (cA, .object C)) (hx0 : vp_in x N) (hv : va_rf (f x.toNatClampNeg) = v) (kk : Rn (pc + 1) lv (v :: st) ad ce k n) : Rn pc lv (.int x :: .ref (ad kd i) :: st) ad ce k n :=
  r_aald h hd hce ht hx0 (by rw [hv]; exact kk)
end RR
theorem gOut {x : Int32} (N : Nat) (hN : N < 2 ^ 31) (h : ∀ j : Nat, j ≤ N → ¬ x = nI j) : x.toInt < 0 ∨ (N : Int) < x.toInt := by
  by_cases h0 : x.toInt < 0
  · exact Or.inl h0
  · refine Or.inr ?_
    have hlt : ¬ x < 0 := fun q => h0 (by simpa using Int32.lt_iff_toInt_lt.mp q)
    obtain ⟨j, hj, rfl⟩ := nI_of hlt
    rw [nI_toInt hj]
    by_cases hjN : j ≤ N
    · exact absurd rfl (h j hjN)
    · omega
theorem gOut2 {x : Int32} (h0 : ¬ x = 0) (h1 : ¬ x = 1) (h2 : ¬ x = 2) : x.toInt < 0 ∨ 2 < x.toInt := by
  refine gOut 2 (by decide) (fun j hj => ?_)
  have hq : j = 0 ∨ j = 1 ∨ j = 2 := by omega
  rcases hq with rfl | rfl | rfl
  · exact h0
  · exact h1
  · exact h2
theorem gOut3 {x : Int32} (h0 : ¬ x = 0) (h1 : ¬ x = 1) (h2 : ¬ x = 2) (h3 : ¬ x = 3) : x.toInt < 0 ∨ 3 < x.toInt := by
  refine gOut 3 (by decide) (fun j hj => ?_)
  have hq : j = 0 ∨ j = 1 ∨ j = 2 ∨ j = 3 := by omega
  rcases hq with rfl | rfl | rfl | rfl
  · exact h0
  · exact h1
  · exact h2
  · exact h3
theorem gOut5 {x : Int32} (h0 : ¬ x = 0) (h1 : ¬ x = 1) (h2 : ¬ x = 2) (h3 : ¬ x = 3) (h4 : ¬ x = 4) (h5 : ¬ x = 5) : x.toInt < 0 ∨ 5 < x.toInt := by
  refine gOut 5 (by decide) (fun j hj => ?_)
  have hq : j = 0 ∨ j = 1 ∨ j = 2 ∨ j = 3 ∨ j = 4 ∨ j = 5 := by omega
  rcases hq with rfl | rfl | rfl | rfl | rfl | rfl
  · exact h0
  · exact h1
  · exact h2
  · exact h3
  · exact h4
  · exact h5
theorem gOut9 {x : Int32} (h0 : ¬ x = 0) (h1 : ¬ x = 1) (h2 : ¬ x = 2) (h3 : ¬ x = 3) (h4 : ¬ x = 4) (h5 : ¬ x = 5) (h6 : ¬ x = 6) (h7 : ¬ x = 7) (h8 : ¬ x = 8) (h9 : ¬ x = 9) : x.toInt < 0 ∨ 9 < x.toInt := by
  refine gOut 9 (by decide) (fun j hj => ?_)
  have hq : j = 0 ∨ j = 1 ∨ j = 2 ∨ j = 3 ∨ j = 4 ∨ j = 5 ∨ j = 6 ∨ j = 7 ∨ j = 8 ∨ j = 9 := by omega
  rcases hq with rfl | rfl | rfl | rfl | rfl | rfl | rfl | rfl | rfl | rfl
  · exact h0
  · exact h1
  · exact h2
  · exact h3
  · exact h4
  · exact h5
  · exact h6
  · exact h7
  · exact h8
  · exact h9
theorem gOut11 {x : Int32} (h0 : ¬ x = 0) (h1 : ¬ x = 1) (h2 : ¬ x = 2) (h3 : ¬ x = 3) (h4 : ¬ x = 4) (h5 : ¬ x = 5) (h6 : ¬ x = 6) (h7 : ¬ x = 7) (h8 : ¬ x = 8) (h9 : ¬ x = 9) (h10 : ¬ x = 10) (h11 : ¬ x = 11) : x.toInt < 0 ∨ 11 < x.toInt := by
  refine gOut 11 (by decide) (fun j hj => ?_)
  have hq : j = 0 ∨ j = 1 ∨ j = 2 ∨ j = 3 ∨ j = 4 ∨ j = 5 ∨ j = 6 ∨ j = 7 ∨ j = 8 ∨ j = 9 ∨ j = 10 ∨ j = 11 := by omega
  rcases hq with rfl | rfl | rfl | rfl | rfl | rfl | rfl | rfl | rfl | rfl | rfl | rfl
  · exact h0
  · exact h1
  · exact h2
  · exact h3
  · exact h4
  · exact h5
  · exact h6
  · exact h7
  · exact h8
  · exact h9
  · exact h10
  · exact h11
theorem gOut12 {x : Int32} (h0 : ¬ x = 0) (h1 : ¬ x = 1) (h2 : ¬ x = 2) (h3 : ¬ x = 3) (h4 : ¬ x = 4) (h5 : ¬ x = 5) (h6 : ¬ x = 6) (h7 : ¬ x = 7) (h8 : ¬ x = 8) (h9 : ¬ x = 9) (h10 : ¬ x = 10) (h11 : ¬ x = 11) (h12 : ¬ x = 12) : x.toInt < 0 ∨ 12 < x.toInt := by
  refine gOut 12 (by decide) (fun j hj => ?_)
  have hq : j = 0 ∨ j = 1 ∨ j = 2 ∨ j = 3 ∨ j = 4 ∨ j = 5 ∨ j = 6 ∨ j = 7 ∨ j = 8 ∨ j = 9 ∨ j = 10 ∨ j = 11 ∨ j = 12 := by omega
  rcases hq with rfl | rfl | rfl | rfl | rfl | rfl | rfl | rfl | rfl | rfl | rfl | rfl | rfl
  · exact h0
  · exact h1
  · exact h2
  · exact h3
  · exact h4
  · exact h5
  · exact h6
  · exact h7
  · exact h8
  · exact h9
  · exact h10
  · exact h11
  · exact h12
theorem gOut19 {x : Int32} (h0 : ¬ x = 0) (h1 : ¬ x = 1) (h2 : ¬ x = 2) (h3 : ¬ x = 3) (h4 : ¬ x = 4) (h5 : ¬ x = 5) (h6 : ¬ x = 6) (h7 : ¬ x = 7) (h8 : ¬ x = 8) (h9 : ¬ x = 9) (h10 : ¬ x = 10) (h11 : ¬ x = 11) (h12 : ¬ x = 12) (h13 : ¬ x = 13) (h14 : ¬ x = 14) (h15 : ¬ x = 15) (h16 : ¬ x = 16) (h17 : ¬ x = 17) (h18 : ¬ x = 18) (h19 : ¬ x = 19) : x.toInt < 0 ∨ 19 < x.toInt := by
  refine gOut 19 (by decide) (fun j hj => ?_)
  have hq : j = 0 ∨ j = 1 ∨ j = 2 ∨ j = 3 ∨ j = 4 ∨ j = 5 ∨ j = 6 ∨ j = 7 ∨ j = 8 ∨ j = 9 ∨ j = 10 ∨ j = 11 ∨ j = 12 ∨ j = 13 ∨ j = 14 ∨ j = 15 ∨ j = 16 ∨ j = 17 ∨ j = 18 ∨ j = 19 := by omega
  rcases hq with rfl | rfl | rfl | rfl | rfl | rfl | rfl | rfl | rfl | rfl | rfl | rfl | rfl | rfl | rfl | rfl | rfl | rfl | rfl | rfl
  · exact h0
  · exact h1
  · exact h2
  · exact h3
  · exact h4
  · exact h5
  · exact h6
  · exact h7
  · exact h8
  · exact h9
  · exact h10
  · exact h11
  · exact h12
  · exact h13
  · exact h14
  · exact h15
  · exact h16
  · exact h17
  · exact h18
  · exact h19
theorem gOut6 {x : Int32} (h0 : ¬ x = 0) (h1 : ¬ x = 1) (h2 : ¬ x = 2) (h3 : ¬ x = 3) (h4 : ¬ x = 4) (h5 : ¬ x = 5) (h6 : ¬ x = 6) : x.toInt < 0 ∨ 6 < x.toInt := by
  refine gOut 6 (by decide) (fun j hj => ?_)
  have hq : j = 0 ∨ j = 1 ∨ j = 2 ∨ j = 3 ∨ j = 4 ∨ j = 5 ∨ j = 6 := by omega
  rcases hq with rfl | rfl | rfl | rfl | rfl | rfl | rfl
  · exact h0
  · exact h1
  · exact h2
  · exact h3
  · exact h4
  · exact h5
  · exact h6
theorem gOut10 {x : Int32} (h0 : ¬ x = 0) (h1 : ¬ x = 1) (h2 : ¬ x = 2) (h3 : ¬ x = 3) (h4 : ¬ x = 4) (h5 : ¬ x = 5) (h6 : ¬ x = 6) (h7 : ¬ x = 7) (h8 : ¬ x = 8) (h9 : ¬ x = 9) (h10 : ¬ x = 10) : x.toInt < 0 ∨ 10 < x.toInt := by
  refine gOut 10 (by decide) (fun j hj => ?_)
  have hq : j = 0 ∨ j = 1 ∨ j = 2 ∨ j = 3 ∨ j = 4 ∨ j = 5 ∨ j = 6 ∨ j = 7 ∨ j = 8 ∨ j = 9 ∨ j = 10 := by omega
  rcases hq with rfl | rfl | rfl | rfl | rfl | rfl | rfl | rfl | rfl | rfl | rfl
  · exact h0
  · exact h1
  · exact h2
  · exact h3
  · exact h4
  · exact h5
  · exact h6
  · exact h7
  · exact h8
  · exact h9
  · exact h10
end
section
theorem yok_X0_init : gYok yX0_init 0 := ⟨by decide, by decide, by decide +kernel⟩
theorem yok_X0_isBusy : gYok yX0_isBusy 0 := ⟨by decide, by decide, by decide +kernel⟩
theorem yok_X0_holds : gYok yX0_holds 1 := ⟨by decide, by decide, by decide +kernel⟩
theorem yok_X0_begin : gYok yX0_begin 3 := ⟨by decide, by decide, by decide +kernel⟩
theorem yok_X0_milkedBy : gYok yX0_milkedBy 1 := ⟨by decide, by decide, by decide +kernel⟩
theorem yok_X0_milkOfTeat : gYok yX0_milkOfTeat 1 := ⟨by decide, by decide, by decide +kernel⟩
theorem yok_X1_init : gYok yX1_init 5 := ⟨by decide, by decide, by decide +kernel⟩
theorem yok_X1_milkAt : gYok yX1_milkAt 1 := ⟨by decide, by decide, by decide +kernel⟩
theorem yok_X1_minutesTo : gYok yX1_minutesTo 2 := ⟨by decide, by decide, by decide +kernel⟩
theorem yok_X1_hasRightAt : gYok yX1_hasRightAt 1 := ⟨by decide, by decide, by decide +kernel⟩
theorem yok_X1_isWithheldAt : gYok yX1_isWithheldAt 1 := ⟨by decide, by decide, by decide +kernel⟩
theorem yok_X1_fedOn : gYok yX1_fedOn 1 := ⟨by decide, by decide, by decide +kernel⟩
theorem yok_X1_feedFor : gYok yX1_feedFor 2 := ⟨by decide, by decide, by decide +kernel⟩
theorem yok_X1_isAlarming : gYok yX1_isAlarming 1 := ⟨by decide, by decide, by decide +kernel⟩
theorem yok_X1_keepReading : gYok yX1_keepReading 1 := ⟨by decide, by decide, by decide +kernel⟩
theorem yok_X1_beginMilking : gYok yX1_beginMilking 1 := ⟨by decide, by decide, by decide +kernel⟩
theorem yok_X2_init : gYok yX2_init 0 := ⟨by decide, by decide, by decide +kernel⟩
theorem yok_X2_at : gYok yX2_at 1 := ⟨by decide, by decide, by decide +kernel⟩
theorem yok_X2_placeOf : gYok yX2_placeOf 1 := ⟨by decide, by decide, by decide +kernel⟩
theorem yok_X2_addLast : gYok yX2_addLast 1 := ⟨by decide, by decide, by decide +kernel⟩
theorem yok_X2_takeNext : gYok yX2_takeNext 1 := ⟨by decide, by decide, by decide +kernel⟩
theorem yok_X2_choose : gYok yX2_choose 1 := ⟨by decide, by decide, by decide +kernel⟩
theorem yok_X2_closeUp : gYok yX2_closeUp 1 := ⟨by decide, by decide, by decide +kernel⟩
theorem yok_X3_init : gYok yX3_init 0 := ⟨by decide, by decide, by decide +kernel⟩
theorem yok_X3_put : gYok yX3_put 2 := ⟨by decide, by decide, by decide +kernel⟩
theorem yok_X3_takeAway : gYok yX3_takeAway 1 := ⟨by decide, by decide, by decide +kernel⟩
theorem yok_X4_init : gYok yX4_init 5 := ⟨by decide, by decide, by decide +kernel⟩
theorem yok_X4_isOfKind : gYok yX4_isOfKind 1 := ⟨by decide, by decide, by decide +kernel⟩
theorem yok_X4_endedOn : gYok yX4_endedOn 1 := ⟨by decide, by decide, by decide +kernel⟩
theorem yok_X4_tell : gYok yX4_tell 1 := ⟨by decide, by decide, by decide +kernel⟩
theorem yok_X5_init : gYok yX5_init 0 := ⟨by decide, by decide, by decide +kernel⟩
theorem yok_X5_cow : gYok yX5_cow 4 := ⟨by decide, by decide, by decide +kernel⟩
theorem yok_X5_taken : gYok yX5_taken 3 := ⟨by decide, by decide, by decide +kernel⟩
theorem yok_X5_withhold : gYok yX5_withhold 2 := ⟨by decide, by decide, by decide +kernel⟩
theorem yok_X5_trouble : gYok yX5_trouble 3 := ⟨by decide, by decide, by decide +kernel⟩
theorem yok_X5_about : gYok yX5_about 2 := ⟨by decide, by decide, by decide +kernel⟩
theorem yok_X5_pass : gYok yX5_pass 1 := ⟨by decide, by decide, by decide +kernel⟩
theorem yok_X5_come : gYok yX5_come 2 := ⟨by decide, by decide, by decide +kernel⟩
theorem yok_X5_power : gYok yX5_power 1 := ⟨by decide, by decide, by decide +kernel⟩
theorem yok_X5_box : gYok yX5_box 0 := ⟨by decide, by decide, by decide +kernel⟩
theorem yok_X5_queue : gYok yX5_queue 1 := ⟨by decide, by decide, by decide +kernel⟩
theorem yok_X5_ends : gYok yX5_ends 0 := ⟨by decide, by decide, by decide +kernel⟩
theorem yok_X5_room : gYok yX5_room 1 := ⟨by decide, by decide, by decide +kernel⟩
theorem yok_X5_pick : gYok yX5_pick 1 := ⟨by decide, by decide, by decide +kernel⟩
theorem yok_X5_total : gYok yX5_total 1 := ⟨by decide, by decide, by decide +kernel⟩
theorem yok_X5_visit : gYok yX5_visit 3 := ⟨by decide, by decide, by decide +kernel⟩
theorem yok_X5_visitOf : gYok yX5_visitOf 2 := ⟨by decide, by decide, by decide +kernel⟩
theorem yok_X5_gave : gYok yX5_gave 2 := ⟨by decide, by decide, by decide +kernel⟩
theorem yok_X5_longest : gYok yX5_longest 0 := ⟨by decide, by decide, by decide +kernel⟩
theorem yok_X5_rank : gYok yX5_rank 1 := ⟨by decide, by decide, by decide +kernel⟩
theorem yok_X5_until : gYok yX5_until 2 := ⟨by decide, by decide, by decide +kernel⟩
theorem yok_X5_within : gYok yX5_within 3 := ⟨by decide, by decide, by decide +kernel⟩
theorem yok_X5_asNumber : gYok yX5_asNumber 1 := ⟨by decide, by decide, by decide +kernel⟩
theorem yok_X5_cowAt : gYok yX5_cowAt 1 := ⟨by decide, by decide, by decide +kernel⟩
theorem yok_X5_visitAt : gYok yX5_visitAt 1 := ⟨by decide, by decide, by decide +kernel⟩
theorem yok_X5_fillBox : gYok yX5_fillBox 0 := ⟨by decide, by decide, by decide +kernel⟩
theorem yok_X5_finishMilking : gYok yX5_finishMilking 1 := ⟨by decide, by decide, by decide +kernel⟩
theorem yok_X5_countAhead : gYok yX5_countAhead 1 := ⟨by decide, by decide, by decide +kernel⟩
theorem yok_X6_init : gYok yX6_init 0 := ⟨by decide, by decide, by decide +kernel⟩
theorem yok_X6_in : gYok yX6_in 3 := ⟨by decide, by decide, by decide +kernel⟩
theorem yok_X6_noCow : gYok yX6_noCow 1 := ⟨by decide, by decide, by decide +kernel⟩
theorem yok_X6_cowInBox : gYok yX6_cowInBox 0 := ⟨by decide, by decide, by decide +kernel⟩
theorem yok_X6_has : gYok yX6_has 1 := ⟨by decide, by decide, by decide +kernel⟩
theorem yok_X6_hasRight : gYok yX6_hasRight 1 := ⟨by decide, by decide, by decide +kernel⟩
theorem yok_X6_fedToday : gYok yX6_fedToday 1 := ⟨by decide, by decide, by decide +kernel⟩
theorem yok_X6_enter : gYok yX6_enter 0 := ⟨by decide, by decide, by decide +kernel⟩
theorem yok_X6_begin : gYok yX6_begin 1 := ⟨by decide, by decide, by decide +kernel⟩
theorem yok_X6_finish : gYok yX6_finish 1 := ⟨by decide, by decide, by decide +kernel⟩
theorem yok_X6_cow : gYok yX6_cow 4 := ⟨by decide, by decide, by decide +kernel⟩
theorem yok_X6_taken : gYok yX6_taken 3 := ⟨by decide, by decide, by decide +kernel⟩
theorem yok_X6_withhold : gYok yX6_withhold 2 := ⟨by decide, by decide, by decide +kernel⟩
theorem yok_X6_trouble : gYok yX6_trouble 3 := ⟨by decide, by decide, by decide +kernel⟩
theorem yok_X6_placeOf : gYok yX6_placeOf 1 := ⟨by decide, by decide, by decide +kernel⟩
theorem yok_X6_about : gYok yX6_about 2 := ⟨by decide, by decide, by decide +kernel⟩
theorem yok_X6_pass : gYok yX6_pass 1 := ⟨by decide, by decide, by decide +kernel⟩
theorem yok_X6_isAlarm : gYok yX6_isAlarm 2 := ⟨by decide, by decide, by decide +kernel⟩
theorem yok_X6_come : gYok yX6_come 2 := ⟨by decide, by decide, by decide +kernel⟩
theorem yok_X6_power : gYok yX6_power 1 := ⟨by decide, by decide, by decide +kernel⟩
theorem yok_X6_box : gYok yX6_box 0 := ⟨by decide, by decide, by decide +kernel⟩
theorem yok_X6_queue : gYok yX6_queue 1 := ⟨by decide, by decide, by decide +kernel⟩
theorem yok_X6_ends : gYok yX6_ends 0 := ⟨by decide, by decide, by decide +kernel⟩
theorem yok_X6_room : gYok yX6_room 1 := ⟨by decide, by decide, by decide +kernel⟩
theorem yok_X6_pick : gYok yX6_pick 1 := ⟨by decide, by decide, by decide +kernel⟩
theorem yok_X6_total : gYok yX6_total 1 := ⟨by decide, by decide, by decide +kernel⟩
theorem yok_X6_visit : gYok yX6_visit 3 := ⟨by decide, by decide, by decide +kernel⟩
theorem yok_X6_visitOf : gYok yX6_visitOf 2 := ⟨by decide, by decide, by decide +kernel⟩
theorem yok_X6_gave : gYok yX6_gave 2 := ⟨by decide, by decide, by decide +kernel⟩
theorem yok_X6_longest : gYok yX6_longest 0 := ⟨by decide, by decide, by decide +kernel⟩
theorem yok_X6_rank : gYok yX6_rank 1 := ⟨by decide, by decide, by decide +kernel⟩
theorem yok_X6_until : gYok yX6_until 2 := ⟨by decide, by decide, by decide +kernel⟩
end
section
theorem i64_lt {x y : Int32} : x.toInt64 < y.toInt64 ↔ x < y := by
  rw [Int64.lt_iff_toInt_lt, Int32.lt_iff_toInt_lt, Int32.toInt_toInt64, Int32.toInt_toInt64]
theorem cmp_lt {x y : Int32} : lg_cmp x.toInt64 y.toInt64 < 0 ↔ x < y := by
  unfold lg_cmp
  by_cases h1 : y < x
  · rw [if_pos (i64_lt.mpr h1)]
    exact ⟨fun h => absurd h (by decide), fun h => absurd h (by rw [Int32.lt_iff_toInt_lt] at *; omega)⟩
  · rw [if_neg (fun q => h1 (i64_lt.mp q))]
    by_cases h2 : x = y
    · subst h2
      rw [if_pos rfl]
      exact ⟨fun h => absurd h (by decide), fun h => absurd h h1⟩
    · rw [if_neg (fun q => h2 (Int32.toInt_inj.mp (by rw [← Int32.toInt_toInt64, q, Int32.toInt_toInt64])))]
      refine ⟨fun _ => ?_, fun _ => by decide⟩
      rw [Int32.lt_iff_toInt_lt] at *
      have h3 : x.toInt ≠ y.toInt := fun q => h2 (Int32.toInt_inj.mp q)
      omega
theorem cmp_gt {x y : Int32} : 0 < lg_cmp x.toInt64 y.toInt64 ↔ y < x := by
  unfold lg_cmp
  by_cases h1 : y < x
  · rw [if_pos (i64_lt.mpr h1)]
    exact ⟨fun _ => h1, fun _ => by decide⟩
  · rw [if_neg (fun q => h1 (i64_lt.mp q))]
    refine ⟨fun h => absurd h ?_, fun h => absurd h h1⟩
    split <;> decide
/-- between: as the programs ask it -/
def mIn (x y z : Int32) : Prop := ¬ x < y ∧ ¬ z < x
theorem mIn_or (x y z : Int32) : mIn x y z ∨ ¬ mIn x y z := Classical.em _
noncomputable def mNo (I : gI) (c : Int32) : Prop := ¬ mIn c 0 (I 11 0 3 - 1)
def mHas (I : gI) (c : Int32) : Int32 := if I 12 9 c.toNatClampNeg + I 12 5 c.toNatClampNeg * (I 11 0 1 - I 12 8 c.toNatClampNeg) / 60 ≤ 400 then I 12 9 c.toNatClampNeg + I 12 5 c.toNatClampNeg * (I 11 0 1 - I 12 8 c.toNatClampNeg) / 60 else 400
def mRight (I : gI) (c : Int32) : Prop := I 12 10 c.toNatClampNeg = -9 ∨ ¬ I 11 0 1 - I 12 10 c.toNatClampNeg < I 12 6 c.toNatClampNeg
def mFed (I : gI) (c : Int32) : Int32 := if I 12 13 c.toNatClampNeg = I 11 0 1 / 1440 then I 12 14 c.toNatClampNeg else 0
def mBox (I : gI) : Int32 := if I 11 0 31 = -9 then -9 else I 12 19 (I 11 0 31).toNatClampNeg
noncomputable def pI (p : Prop) : Int32 := @ite Int32 p (Classical.propDecidable p) 1 0
theorem pI_t {p : Prop} (h : p) : pI p = 1 := if_pos h
theorem pI_f {p : Prop} (h : ¬ p) : pI p = 0 := if_neg h
theorem pI_01 (p : Prop) : pI p = 0 ∨ pI p = 1 := by
  by_cases h : p
  · exact Or.inr (pI_t h)
  · exact Or.inl (pI_f h)
theorem pI_0 {p : Prop} : pI p = 0 ↔ ¬ p := ⟨fun h q => by rw [pI_t q] at h; exact absurd h (by decide), pI_f⟩
theorem pI_n0 {p : Prop} : ¬ pI p = 0 ↔ p := by rw [pI_0, Classical.not_not]
set_option maxHeartbeats 4000000 in
set_option maxRecDepth 100000 in
theorem c_X6_in (D : va_G) (E : gEc) (ad : gAd) (I : gI) (F : gF) (lc ln : Nat) (x y z : Int32) : gCon D E yX6_in cX6_in 6 (some .boolean) 0 0 0 [.long x.toInt64, .long y.toInt64, .long z.toInt64] ad (cX E ad I F lc ln) (gPd (some (.int (pI (mIn x y z)))) ad (cX E ad I F lc ln)) := by
  refine gCon.of (by decide) (Nat.le_of_ble_eq_true rfl) ?_
  intro l A Rn h
  show Rn 0 [(0, .long x.toInt64), (2, .long y.toInt64), (4, .long z.toInt64)] [] ad (cX E ad I F lc ln) 0 0
  refine r_lload_n h.ok dX6_in_0 0 rfl ?_
  refine r_lload_n h.ok dX6_in_1 1 rfl ?_
  refine r_lcmp h.ok dX6_in_2 ?_
  refine r_if_lt h.ok 17 dX6_in_3 (by decide) (fun c_3 => ?_) (fun c_3 => ?_)
  · refine r_iconst (v := 0) h.ok dX6_in_17 (by decide) ?_
    refine r_zret h dX6_in_18 ⟨by decide, by decide⟩ (by simp) ⟨?_, rfl, rfl⟩
    congr 2
    exact (pI_f (fun q => q.1 (cmp_lt.mp c_3))).symm
  · refine r_lload_n h.ok dX6_in_6 0 rfl ?_
    refine r_lload h.ok dX6_in_7 2 rfl ?_
    refine r_lcmp h.ok dX6_in_9 ?_
    refine r_if_gt h.ok 17 dX6_in_10 (by decide) (fun c_10 => ?_) (fun c_10 => ?_)
    · refine r_iconst (v := 0) h.ok dX6_in_17 (by decide) ?_
      refine r_zret h dX6_in_18 ⟨by decide, by decide⟩ (by simp) ⟨?_, rfl, rfl⟩
      congr 2
      exact (pI_f (fun q => q.2 (cmp_gt.mp c_10))).symm
    · refine r_iconst (v := 1) h.ok dX6_in_13 (by decide) ?_
      refine r_goto h.ok 18 dX6_in_14 (by decide) ?_
      refine r_zret h dX6_in_18 ⟨by decide, by decide⟩ (by simp) ⟨?_, rfl, rfl⟩
      congr 2
      exact (pI_t ⟨fun q => c_3 (cmp_lt.mpr q), fun q => c_10 (cmp_gt.mpr q)⟩).symm
set_option maxHeartbeats 4000000 in
set_option maxRecDepth 100000 in
theorem c_X6_noCow (D : va_G) (E : gEc) (ad : gAd) (I : gI) (F : gF) (lc ln : Nat) (c : Int32) : gCon D E yX6_noCow cX6_noCow 2 (some .boolean) 1 0 0 [.ref (ad 11 0), .int c] ad (cX E ad I F lc ln) (gPd (some (.int (pI (mNo I c)))) ad (cX E ad I F lc ln)) := by
  refine gCon.of (by decide) (Nat.le_of_ble_eq_true rfl) ?_
  intro l A Rn h
  show Rn 0 [(0, .ref (ad 11 0)), (1, .int c)] [] ad (cX E ad I F lc ln) 0 0
  refine r_iload_n h.ok dX6_noCow_0 1 rfl ?_
  refine r_i2l h.ok dX6_noCow_1 ?_
  refine r_lconst (v := Int32.toInt64 0) h.ok dX6_noCow_2 (by decide) ?_
  refine r_aload_n h.ok dX6_noCow_3 0 rfl ?_
  refine r_get (v := .int (I 11 0 3)) h.ok 3 dX6_noCow_4 (xo_11 _) rfl inX6 (by decide) wfl_X6_100 rfl ?_
  refine r_iconst (v := 1) h.ok dX6_noCow_7 (by decide) ?_
  refine r_isub h.ok dX6_noCow_8 ?_
  refine r_i2l h.ok dX6_noCow_9 ?_
  refine r_callS h.ok [.long (Int32.toInt64 c), .long (Int32.toInt64 0), .long (Int32.toInt64 ((I 11 0 3) - 1))] [] dX6_noCow_10 (c_X6_in D E ad I F lc ln c 0 ((I 11 0 3) - 1)) wml_X6_103 wst_X6_in win_X6 wco_X6_in yok_X6_in ⟨by decide, by decide, by simp [gRm], by simp [gRm]⟩ (Nat.le_of_ble_eq_true rfl) rfl ?_
  show Rn 13 [(0, .ref (ad 11 0)), (1, .int c)] [.int (pI (mIn c 0 ((I 11 0 3) - 1)))] ad (cX E ad I F lc ln) 0 0
  refine r_if_ne h.ok 20 dX6_noCow_13 (by decide) (fun c_13 => ?_) (fun c_13 => ?_)
  · refine r_iconst (v := 0) h.ok dX6_noCow_20 (by decide) ?_
    refine r_zret h dX6_noCow_21 ⟨by decide, by decide⟩ (by simp) ⟨by rw [pI_f (show ¬ mNo I c from fun q => q (pI_n0.mp c_13))], rfl, rfl⟩
  · refine r_iconst (v := 1) h.ok dX6_noCow_16 (by decide) ?_
    refine r_goto h.ok 21 dX6_noCow_17 (by decide) ?_
    refine r_zret h dX6_noCow_21 ⟨by decide, by decide⟩ (by simp) ⟨by rw [pI_t (show mNo I c from pI_0.mp c_13)], rfl, rfl⟩
set_option maxHeartbeats 4000000 in
set_option maxRecDepth 100000 in
theorem c_X6_has (D : va_G) (E : gEc) (ad : gAd) (I : gI) (F : gF) (lc ln : Nat) (c : Int32) (hc : vp_in c 12) : gCon D E yX6_has cX6_has 3 (some .int) 0 0 0 [.ref (ad 11 0), .int c] ad (cX E ad I F lc ln) (gPd (some (.int (mHas I c))) ad (cX E ad I F lc ln)) := by
  refine gCon.of (by decide) (Nat.le_of_ble_eq_true rfl) ?_
  intro l A Rn h
  show Rn 0 [(0, .ref (ad 11 0)), (1, .int c)] [] ad (cX E ad I F lc ln) 0 0
  refine r_aload_n h.ok dX6_has_0 0 rfl ?_
  refine r_get h.ok 9 dX6_has_1 (xo_11 _) rfl inX6 (by decide) wfl_X6_29 rfl ?_
  refine r_iload_n h.ok dX6_has_4 1 rfl ?_
  refine x_ialp (v := I 12 9 c.toNatClampNeg) h.ok dX6_has_5 rfl hc rfl ?_
  refine r_aload_n h.ok dX6_has_6 0 rfl ?_
  refine r_get h.ok 5 dX6_has_7 (xo_11 _) rfl inX6 (by decide) wfl_X6_17 rfl ?_
  refine r_iload_n h.ok dX6_has_10 1 rfl ?_
  refine x_ialp (v := I 12 5 c.toNatClampNeg) h.ok dX6_has_11 rfl hc rfl ?_
  refine r_aload_n h.ok dX6_has_12 0 rfl ?_
  refine r_get (v := .int (I 11 0 1)) h.ok 1 dX6_has_13 (xo_11 _) rfl inX6 (by decide) wfl_X6_107 rfl ?_
  refine r_aload_n h.ok dX6_has_16 0 rfl ?_
  refine r_get h.ok 8 dX6_has_17 (xo_11 _) rfl inX6 (by decide) wfl_X6_26 rfl ?_
  refine r_iload_n h.ok dX6_has_20 1 rfl ?_
  refine x_ialp (v := I 12 8 c.toNatClampNeg) h.ok dX6_has_21 rfl hc rfl ?_
  refine r_isub h.ok dX6_has_22 ?_
  refine r_imul h.ok dX6_has_23 ?_
  refine r_bipush (v := 60) h.ok dX6_has_24 (by decide) ?_
  refine r_idiv h.ok dX6_has_26 (by decide) ?_
  refine r_iadd h.ok dX6_has_27 ?_
  refine r_istore_n (lv' := [(2, .int ((I 12 9 c.toNatClampNeg) + (((I 12 5 c.toNatClampNeg) * ((I 11 0 1) - (I 12 8 c.toNatClampNeg))) / 60))), (0, .ref (ad 11 0)), (1, .int c)]) h.ok dX6_has_28 (by decide) rfl ?_
  refine r_iload_n h.ok dX6_has_29 0 rfl ?_
  refine r_sipush (v := 400) h.ok dX6_has_30 (by decide) ?_
  refine r_icmp_le h.ok 42 dX6_has_33 (by decide) (fun c_33 => ?_) (fun c_33 => ?_)
  · refine r_iload_n h.ok dX6_has_42 0 rfl ?_
    refine r_iret h dX6_has_43 ⟨by decide, by decide⟩ ⟨by simp [mHas, c_33], rfl, rfl⟩
  · refine r_sipush (v := 400) h.ok dX6_has_36 (by decide) ?_
    refine r_goto h.ok 43 dX6_has_39 (by decide) ?_
    refine r_iret h dX6_has_43 ⟨by decide, by decide⟩ ⟨by simp [mHas, c_33], rfl, rfl⟩
set_option maxHeartbeats 4000000 in
set_option maxRecDepth 100000 in
theorem c_X6_hasRight (D : va_G) (E : gEc) (ad : gAd) (I : gI) (F : gF) (lc ln : Nat) (c : Int32) (hc : vp_in c 12) : gCon D E yX6_hasRight cX6_hasRight 2 (some .boolean) 0 0 0 [.ref (ad 11 0), .int c] ad (cX E ad I F lc ln) (gPd (some (.int (pI (mRight I c)))) ad (cX E ad I F lc ln)) := by
  refine gCon.of (by decide) (Nat.le_of_ble_eq_true rfl) ?_
  intro l A Rn h
  show Rn 0 [(0, .ref (ad 11 0)), (1, .int c)] [] ad (cX E ad I F lc ln) 0 0
  refine r_aload_n h.ok dX6_hasRight_0 0 rfl ?_
  refine r_get h.ok 10 dX6_hasRight_1 (xo_11 _) rfl inX6 (by decide) wfl_X6_32 rfl ?_
  refine r_iload_n h.ok dX6_hasRight_4 1 rfl ?_
  refine x_ialp (v := I 12 10 c.toNatClampNeg) h.ok dX6_hasRight_5 rfl hc rfl ?_
  refine r_bipush (v := (-9)) h.ok dX6_hasRight_6 (by decide) ?_
  refine r_icmp_eq h.ok 31 dX6_hasRight_8 (by decide) (fun c_8 => ?_) (fun c_8 => ?_)
  · refine r_iconst (v := 1) h.ok dX6_hasRight_31 (by decide) ?_
    refine r_goto h.ok 36 dX6_hasRight_32 (by decide) ?_
    refine r_zret h dX6_hasRight_36 ⟨by decide, by decide⟩ (by simp) ⟨by rw [pI_t (show mRight I c from Or.inl c_8)], rfl, rfl⟩
  · refine r_aload_n h.ok dX6_hasRight_11 0 rfl ?_
    refine r_get (v := .int (I 11 0 1)) h.ok 1 dX6_hasRight_12 (xo_11 _) rfl inX6 (by decide) wfl_X6_107 rfl ?_
    refine r_aload_n h.ok dX6_hasRight_15 0 rfl ?_
    refine r_get h.ok 10 dX6_hasRight_16 (xo_11 _) rfl inX6 (by decide) wfl_X6_32 rfl ?_
    refine r_iload_n h.ok dX6_hasRight_19 1 rfl ?_
    refine x_ialp (v := I 12 10 c.toNatClampNeg) h.ok dX6_hasRight_20 rfl hc rfl ?_
    refine r_isub h.ok dX6_hasRight_21 ?_
    refine r_aload_n h.ok dX6_hasRight_22 0 rfl ?_
    refine r_get h.ok 6 dX6_hasRight_23 (xo_11 _) rfl inX6 (by decide) wfl_X6_20 rfl ?_
    refine r_iload_n h.ok dX6_hasRight_26 1 rfl ?_
    refine x_ialp (v := I 12 6 c.toNatClampNeg) h.ok dX6_hasRight_27 rfl hc rfl ?_
    refine r_icmp_lt h.ok 35 dX6_hasRight_28 (by decide) (fun c_28 => ?_) (fun c_28 => ?_)
    · refine r_iconst (v := 0) h.ok dX6_hasRight_35 (by decide) ?_
      refine r_zret h dX6_hasRight_36 ⟨by decide, by decide⟩ (by simp) ⟨by rw [pI_f (show ¬ mRight I c from fun q => q.elim c_8 (fun q => q c_28))], rfl, rfl⟩
    · refine r_iconst (v := 1) h.ok dX6_hasRight_31 (by decide) ?_
      refine r_goto h.ok 36 dX6_hasRight_32 (by decide) ?_
      refine r_zret h dX6_hasRight_36 ⟨by decide, by decide⟩ (by simp) ⟨by rw [pI_t (show mRight I c from Or.inr c_28)], rfl, rfl⟩
set_option maxHeartbeats 4000000 in
set_option maxRecDepth 100000 in
theorem c_X6_fedToday (D : va_G) (E : gEc) (ad : gAd) (I : gI) (F : gF) (lc ln : Nat) (c : Int32) (hc : vp_in c 12) : gCon D E yX6_fedToday cX6_fedToday 2 (some .int) 0 0 0 [.ref (ad 11 0), .int c] ad (cX E ad I F lc ln) (gPd (some (.int (mFed I c))) ad (cX E ad I F lc ln)) := by
  refine gCon.of (by decide) (Nat.le_of_ble_eq_true rfl) ?_
  intro l A Rn h
  show Rn 0 [(0, .ref (ad 11 0)), (1, .int c)] [] ad (cX E ad I F lc ln) 0 0
  refine r_aload_n h.ok dX6_fedToday_0 0 rfl ?_
  refine r_get h.ok 13 dX6_fedToday_1 (xo_11 _) rfl inX6 (by decide) wfl_X6_41 rfl ?_
  refine r_iload_n h.ok dX6_fedToday_4 1 rfl ?_
  refine x_ialp (v := I 12 13 c.toNatClampNeg) h.ok dX6_fedToday_5 rfl hc rfl ?_
  refine r_aload_n h.ok dX6_fedToday_6 0 rfl ?_
  refine r_get (v := .int (I 11 0 1)) h.ok 1 dX6_fedToday_7 (xo_11 _) rfl inX6 (by decide) wfl_X6_107 rfl ?_
  refine r_sipush (v := 1440) h.ok dX6_fedToday_10 (by decide) ?_
  refine r_idiv h.ok dX6_fedToday_13 (by decide) ?_
  refine r_icmp_ne h.ok 26 dX6_fedToday_14 (by decide) (fun c_14 => ?_) (fun c_14 => ?_)
  · refine r_iconst (v := 0) h.ok dX6_fedToday_26 (by decide) ?_
    refine r_iret h dX6_fedToday_27 ⟨by decide, by decide⟩ ⟨by simp [mFed, c_14], rfl, rfl⟩
  · refine r_aload_n h.ok dX6_fedToday_17 0 rfl ?_
    refine r_get h.ok 14 dX6_fedToday_18 (xo_11 _) rfl inX6 (by decide) wfl_X6_44 rfl ?_
    refine r_iload_n h.ok dX6_fedToday_21 1 rfl ?_
    refine x_ialp (v := I 12 14 c.toNatClampNeg) h.ok dX6_fedToday_22 rfl hc rfl ?_
    refine r_goto h.ok 27 dX6_fedToday_23 (by decide) ?_
    refine r_iret h dX6_fedToday_27 ⟨by decide, by decide⟩ ⟨by simp [mFed, c_14], rfl, rfl⟩
set_option maxHeartbeats 4000000 in
set_option maxRecDepth 100000 in
theorem c_X6_cowInBox (D : va_G) (E : gEc) (ad : gAd) (I : gI) (F : gF) (lc ln : Nat) (hb : I 11 0 31 = -9 ∨ vp_in (I 11 0 31) 500) : gCon D E yX6_cowInBox cX6_cowInBox 1 (some .int) 0 0 0 [.ref (ad 11 0)] ad (cX E ad I F lc ln) (gPd (some (.int (mBox I))) ad (cX E ad I F lc ln)) := by
  refine gCon.of (by decide) (Nat.le_of_ble_eq_true rfl) ?_
  intro l A Rn h
  show Rn 0 [(0, .ref (ad 11 0))] [] ad (cX E ad I F lc ln) 0 0
  refine r_aload_n h.ok dX6_cowInBox_0 0 rfl ?_
  refine r_get (v := .int (I 11 0 31)) h.ok 31 dX6_cowInBox_1 (xo_11 _) rfl inX6 (by decide) wfl_X6_90 rfl ?_
  refine r_bipush (v := (-9)) h.ok dX6_cowInBox_4 (by decide) ?_
  refine r_icmp_ne h.ok 14 dX6_cowInBox_6 (by decide) (fun c_6 => ?_) (fun c_6 => ?_)
  · refine r_aload_n h.ok dX6_cowInBox_14 0 rfl ?_
    refine r_get h.ok 19 dX6_cowInBox_15 (xo_11 _) rfl inX6 (by decide) wfl_X6_56 rfl ?_
    refine r_aload_n h.ok dX6_cowInBox_18 0 rfl ?_
    refine r_get (v := .int (I 11 0 31)) h.ok 31 dX6_cowInBox_19 (xo_11 _) rfl inX6 (by decide) wfl_X6_90 rfl ?_
    refine x_ialp (v := I 12 19 ((I 11 0 31).toNatClampNeg)) h.ok dX6_cowInBox_22 rfl (hb.elim (fun q => absurd q c_6) id) rfl ?_
    refine r_iret h dX6_cowInBox_23 ⟨by decide, by decide⟩ ⟨by simp [mBox, c_6], rfl, rfl⟩
  · refine r_bipush (v := (-9)) h.ok dX6_cowInBox_9 (by decide) ?_
    refine r_goto h.ok 23 dX6_cowInBox_11 (by decide) ?_
    refine r_iret h dX6_cowInBox_23 ⟨by decide, by decide⟩ ⟨by simp [mBox, c_6], rfl, rfl⟩
end
section
/-- a number of a cow that is there -/
theorem mNo_in {I : gI} {c : Int32} {nc : Nat} (hn : I 11 0 3 = nI nc) (h12 : nc ≤ 12) (h : ¬ mNo I c) : vp_in c nc := by
  have hq : mIn c 0 (I 11 0 3 - 1) := Classical.not_not.mp h
  obtain ⟨h1, h2⟩ := hq
  rw [hn] at h2
  rw [vp_in_iff]
  rw [Int32.lt_iff_toInt_lt] at h1 h2
  have e1 : (nI nc - 1).toInt = (nc : Int) - 1 := pk_sub_toInt (a := nc) (b := 1) (by omega) (by decide)
  rw [e1] at h2
  have e0 : (0 : Int32).toInt = 0 := by decide
  rw [e0] at h1
  omega
theorem vp_mono {x : Int32} {a b : Nat} (h : vp_in x a) (hab : a ≤ b) : vp_in x b := by
  rw [vp_in_iff] at *
  omega
theorem cX_thr {E : gEc} {ad : gAd} {I : gI} {F : gF} {lc lv : Nat} (ht : I 11 0 0 = 0) : gup (cX E ad I F lc lv) 11 0 (.inr (6, [.int (I 11 0 0), .int (I 11 0 1), .int (I 11 0 2), .int (I 11 0 3), .ref (ad 12 4), .ref (ad 12 5), .ref (ad 12 6), .ref (ad 12 7), .ref (ad 12 8), .ref (ad 12 9), .ref (ad 12 10), .ref (ad 12 11), .ref (ad 12 12), .ref (ad 12 13), .ref (ad 12 14), .ref (ad 12 15), .ref (ad 12 16), .int (I 11 0 17), .ref (ad 12 18), .ref (ad 12 19), .ref (ad 12 20), .ref (ad 12 21), .ref (ad 12 22), .ref (ad 12 23), .ref (ad 12 24), .ref (ad 12 25), .ref (ad 12 26), .ref (ad 12 27), .ref (ad 12 28), .int (I 11 0 29), .ref (ad 12 30), .int (I 11 0 31), .int (I 11 0 32), .int (I 11 0 33), .int (I 11 0 34), .int (I 11 0 35), .int (I 11 0 36), .int (I 11 0 37), .int (I 11 0 38), .int (I 11 0 39), .int (I 11 0 40), .int (I 11 0 41), .int (I 11 0 42)].set 0 (.int 0))) = cX E ad I F lc lv := by
  refine (cX_put (r' := upd (I 11 0) 0 0) (xo_11 _)).trans ?_
  congr 1
  funext k i s
  unfold gr upd
  by_cases h : k = 11 ∧ i = 0
  · obtain ⟨rfl, rfl⟩ := h
    rw [if_pos ⟨rfl, rfl⟩]
    by_cases h2 : s = 0
    · subst h2; simp [ht]
    · simp [h2]
  · rw [if_neg h]
noncomputable def mEnds_r (I : gI) (F : gF)  : Int32 := (if (I 11 0 31) = (-9) then (-9) else I 11 0 35)
set_option maxHeartbeats 4000000 in
set_option maxRecDepth 100000 in
theorem c_X6_ends (D : va_G) (E : gEc) (ad : gAd) (I : gI) (F : gF) (lc ln : Nat) (ht : I 11 0 0 = 0) : gCon D E yX6_ends cX6_ends 1 (some .int) 0 0 0 [.ref (ad 11 0)] ad (cX E ad I F lc ln) (gPd (some (.int (mEnds_r I F ))) ad (cX E ad I F lc ln)) := by
  refine gCon.of (by decide) (Nat.le_of_ble_eq_true rfl) ?_
  intro l A Rn h
  show Rn 0 [(0, .ref (ad 11 0))] [] ad (cX E ad I F lc ln) 0 0
  refine r_aload_n h.ok dX6_ends_0 0 rfl ?_
  refine r_iconst (v := 0) h.ok dX6_ends_1 (by decide) ?_
  refine r_put (ty := tyX6) h.ok 0 dX6_ends_2 (xo_11 _) rfl inX6 tyX6_ok nmX6 (by decide) wfl_X6_97 rfl rfl rfl (by simp) (cX_thr ht) ?_
  refine r_aload_n h.ok dX6_ends_5 0 rfl ?_
  refine r_get (v := .int (I 11 0 31)) h.ok 31 dX6_ends_6 (xo_11 _) rfl inX6 (by decide) wfl_X6_90 rfl ?_
  refine r_bipush (v := (-9)) h.ok dX6_ends_9 (by decide) ?_
  refine r_icmp_ne h.ok 19 dX6_ends_11 (by decide) (fun c_11 => ?_) (fun c_11 => ?_)
  · refine r_aload_n h.ok dX6_ends_19 0 rfl ?_
    refine r_get (v := .int (I 11 0 35)) h.ok 35 dX6_ends_20 (xo_11 _) rfl inX6 (by decide) wfl_X6_130 rfl ?_
    refine r_iret h dX6_ends_23 ⟨by decide, by decide⟩ ⟨(by unfold mEnds_r; simp only [if_neg c_11]), rfl, rfl⟩
  · refine r_bipush (v := (-9)) h.ok dX6_ends_14 (by decide) ?_
    refine r_goto h.ok 23 dX6_ends_16 (by decide) ?_
    refine r_iret h dX6_ends_23 ⟨by decide, by decide⟩ ⟨(by unfold mEnds_r; simp only [if_pos c_11]), rfl, rfl⟩
noncomputable def mRoom_r (I : gI) (F : gF) (a : Int32) : Int32 := (if (pI (mIn a 1 100000)) = 0 then (-2) else (if (I 11 0 36) ≤ a then I 11 0 37 else (-3)))
noncomputable def mRoom_I (I : gI) (F : gF) (a : Int32) : gI := (if (pI (mIn a 1 100000)) = 0 then I else (if (I 11 0 36) ≤ a then gs I 11 0 37 a else I))
set_option maxHeartbeats 4000000 in
set_option maxRecDepth 100000 in
theorem c_X6_room (D : va_G) (E : gEc) (ad : gAd) (I : gI) (F : gF) (lc ln : Nat) (a : Int32) (ht : I 11 0 0 = 0) : gCon D E yX6_room cX6_room 3 (some .int) 1 0 0 [.ref (ad 11 0), .int a] ad (cX E ad I F lc ln) (gPd (some (.int (mRoom_r I F a))) ad (cX E ad (mRoom_I I F a) F lc ln)) := by
  refine gCon.of (by decide) (Nat.le_of_ble_eq_true rfl) ?_
  intro l A Rn h
  show Rn 0 [(0, .ref (ad 11 0)), (1, .int a)] [] ad (cX E ad I F lc ln) 0 0
  refine r_aload_n h.ok dX6_room_0 0 rfl ?_
  refine r_iconst (v := 0) h.ok dX6_room_1 (by decide) ?_
  refine r_put (ty := tyX6) h.ok 0 dX6_room_2 (xo_11 _) rfl inX6 tyX6_ok nmX6 (by decide) wfl_X6_97 rfl rfl rfl (by simp) (cX_thr ht) ?_
  refine r_iload_n h.ok dX6_room_5 1 rfl ?_
  refine r_i2l h.ok dX6_room_6 ?_
  refine r_lconst (v := Int32.toInt64 1) h.ok dX6_room_7 (by decide) ?_
  refine r_ldc2 (v' := Int32.toInt64 100000) h.ok dX6_room_8 wk_X6_197 (by decide) ?_
  refine r_callS h.ok [.long (Int32.toInt64 a), .long (Int32.toInt64 1), .long (Int32.toInt64 100000)] [] dX6_room_11 (c_X6_in D E ad I F lc ln a 1 100000) wml_X6_103 wst_X6_in win_X6 wco_X6_in yok_X6_in ⟨by decide, by decide, by simp [gRm], by simp [gRm]⟩ (Nat.le_of_ble_eq_true rfl) rfl ?_
  show Rn 14 [(0, .ref (ad 11 0)), (1, .int a)] [.int (pI (mIn a 1 100000))] ad (cX E ad I F lc ln) 0 0
  refine r_if_ne h.ok 20 dX6_room_14 (by decide) (fun c_14 => ?_) (fun c_14 => ?_)
  · refine r_aload_n h.ok dX6_room_20 0 rfl ?_
    refine r_get (v := .int (I 11 0 36)) h.ok 36 dX6_room_21 (xo_11 _) rfl inX6 (by decide) wfl_X6_133 rfl ?_
    refine r_iload_n h.ok dX6_room_24 1 rfl ?_
    refine r_icmp_le h.ok 31 dX6_room_25 (by decide) (fun c_25 => ?_) (fun c_25 => ?_)
    · refine r_aload_n h.ok dX6_room_31 0 rfl ?_
      refine r_get (v := .int (I 11 0 37)) h.ok 37 dX6_room_32 (xo_11 _) rfl inX6 (by decide) wfl_X6_94 rfl ?_
      refine r_istore_n (lv' := [(2, .int (I 11 0 37)), (0, .ref (ad 11 0)), (1, .int a)]) h.ok dX6_room_35 (by decide) rfl ?_
      refine r_aload_n h.ok dX6_room_36 1 rfl ?_
      refine r_iload_n h.ok dX6_room_37 2 rfl ?_
      refine r_put (ty := tyX6) h.ok 37 dX6_room_38 (xo_11 _) rfl inX6 tyX6_ok nmX6 (by decide) wfl_X6_94 rfl rfl rfl (by simp) (cX_put (r' := upd (I 11 0) 37 a) (xo_11 _)) ?_
      refine r_iload_n h.ok dX6_room_41 0 rfl ?_
      refine r_iret h dX6_room_42 ⟨by decide, by decide⟩ ⟨(by unfold mRoom_r; simp only [if_neg c_14, if_pos c_25]), rfl, (by unfold mRoom_I; simp only [if_neg c_14, if_pos c_25])⟩
    · refine r_bipush (v := (-3)) h.ok dX6_room_28 (by decide) ?_
      refine r_iret h dX6_room_30 ⟨by decide, by decide⟩ ⟨(by unfold mRoom_r; simp only [if_neg c_14, if_neg c_25]), rfl, (by unfold mRoom_I; simp only [if_neg c_14, if_neg c_25])⟩
  · refine r_bipush (v := (-2)) h.ok dX6_room_17 (by decide) ?_
    refine r_iret h dX6_room_19 ⟨by decide, by decide⟩ ⟨(by unfold mRoom_r; simp only [if_pos c_14]), rfl, (by unfold mRoom_I; simp only [if_pos c_14])⟩
noncomputable def mPick_r (I : gI) (F : gF) (a : Int32) : Int32 := (if (pI (mIn a 1 100000)) = 0 then (-2) else (if (I 11 0 36) ≤ a then I 11 0 36 else a))
noncomputable def mPick_I (I : gI) (F : gF) (a : Int32) : gI := (if (pI (mIn a 1 100000)) = 0 then I else (if (I 11 0 36) ≤ a then gs (gs I 11 0 36 ((I 11 0 36) - (I 11 0 36))) 11 0 40 ((I 11 0 40) + (I 11 0 36)) else gs (gs I 11 0 36 ((I 11 0 36) - a)) 11 0 40 ((I 11 0 40) + a)))
set_option maxHeartbeats 4000000 in
set_option maxRecDepth 100000 in
theorem c_X6_pick (D : va_G) (E : gEc) (ad : gAd) (I : gI) (F : gF) (lc ln : Nat) (a : Int32) (ht : I 11 0 0 = 0) : gCon D E yX6_pick cX6_pick 3 (some .int) 1 0 0 [.ref (ad 11 0), .int a] ad (cX E ad I F lc ln) (gPd (some (.int (mPick_r I F a))) ad (cX E ad (mPick_I I F a) F lc ln)) := by
  refine gCon.of (by decide) (Nat.le_of_ble_eq_true rfl) ?_
  intro l A Rn h
  show Rn 0 [(0, .ref (ad 11 0)), (1, .int a)] [] ad (cX E ad I F lc ln) 0 0
  refine r_aload_n h.ok dX6_pick_0 0 rfl ?_
  refine r_iconst (v := 0) h.ok dX6_pick_1 (by decide) ?_
  refine r_put (ty := tyX6) h.ok 0 dX6_pick_2 (xo_11 _) rfl inX6 tyX6_ok nmX6 (by decide) wfl_X6_97 rfl rfl rfl (by simp) (cX_thr ht) ?_
  refine r_iload_n h.ok dX6_pick_5 1 rfl ?_
  refine r_i2l h.ok dX6_pick_6 ?_
  refine r_lconst (v := Int32.toInt64 1) h.ok dX6_pick_7 (by decide) ?_
  refine r_ldc2 (v' := Int32.toInt64 100000) h.ok dX6_pick_8 wk_X6_197 (by decide) ?_
  refine r_callS h.ok [.long (Int32.toInt64 a), .long (Int32.toInt64 1), .long (Int32.toInt64 100000)] [] dX6_pick_11 (c_X6_in D E ad I F lc ln a 1 100000) wml_X6_103 wst_X6_in win_X6 wco_X6_in yok_X6_in ⟨by decide, by decide, by simp [gRm], by simp [gRm]⟩ (Nat.le_of_ble_eq_true rfl) rfl ?_
  show Rn 14 [(0, .ref (ad 11 0)), (1, .int a)] [.int (pI (mIn a 1 100000))] ad (cX E ad I F lc ln) 0 0
  refine r_if_ne h.ok 20 dX6_pick_14 (by decide) (fun c_14 => ?_) (fun c_14 => ?_)
  · refine r_iload_n h.ok dX6_pick_20 1 rfl ?_
    refine r_aload_n h.ok dX6_pick_21 0 rfl ?_
    refine r_get (v := .int (I 11 0 36)) h.ok 36 dX6_pick_22 (xo_11 _) rfl inX6 (by decide) wfl_X6_133 rfl ?_
    refine r_icmp_ge h.ok 32 dX6_pick_25 (by decide) (fun c_25 => ?_) (fun c_25 => ?_)
    · refine r_aload_n h.ok dX6_pick_32 0 rfl ?_
      refine r_get (v := .int (I 11 0 36)) h.ok 36 dX6_pick_33 (xo_11 _) rfl inX6 (by decide) wfl_X6_133 rfl ?_
      refine r_istore_n (lv' := [(2, .int (I 11 0 36)), (0, .ref (ad 11 0)), (1, .int a)]) h.ok dX6_pick_36 (by decide) rfl ?_
      refine r_aload_n h.ok dX6_pick_37 1 rfl ?_
      refine r_dup h.ok dX6_pick_38 rfl ?_
      refine r_get (v := .int (I 11 0 36)) h.ok 36 dX6_pick_39 (xo_11 _) rfl inX6 (by decide) wfl_X6_133 rfl ?_
      refine r_iload_n h.ok dX6_pick_42 0 rfl ?_
      refine r_isub h.ok dX6_pick_43 ?_
      refine r_put (ty := tyX6) h.ok 36 dX6_pick_44 (xo_11 _) rfl inX6 tyX6_ok nmX6 (by decide) wfl_X6_133 rfl rfl rfl (by simp) (cX_put (r' := upd (I 11 0) 36 ((I 11 0 36) - (I 11 0 36))) (xo_11 _)) ?_
      refine r_aload_n h.ok dX6_pick_47 1 rfl ?_
      refine r_dup h.ok dX6_pick_48 rfl ?_
      refine r_get (v := .int (I 11 0 40)) h.ok 40 dX6_pick_49 (xo_11 _) rfl inX6 (by decide) wfl_X6_199 (congrArg (fun z => some (Value.int z)) (by simp [gr, upd] : (gs I 11 0 36 ((I 11 0 36) - (I 11 0 36))) 11 0 40 = I 11 0 40)) ?_
      refine r_iload_n h.ok dX6_pick_52 0 rfl ?_
      refine r_iadd h.ok dX6_pick_53 ?_
      refine r_put (ty := tyX6) h.ok 40 dX6_pick_54 (xo_11 _) rfl inX6 tyX6_ok nmX6 (by decide) wfl_X6_199 rfl rfl rfl (by simp) (cX_put (r' := upd ((gs I 11 0 36 ((I 11 0 36) - (I 11 0 36))) 11 0) 40 ((I 11 0 40) + (I 11 0 36))) (xo_11 _)) ?_
      refine r_iload_n h.ok dX6_pick_57 0 rfl ?_
      refine r_iret h dX6_pick_58 ⟨by decide, by decide⟩ ⟨(by unfold mPick_r; simp only [if_neg c_14, if_pos c_25]), rfl, (by unfold mPick_I; simp only [if_neg c_14, if_pos c_25])⟩
    · refine r_iload_n h.ok dX6_pick_28 1 rfl ?_
      refine r_goto h.ok 36 dX6_pick_29 (by decide) ?_
      refine r_istore_n (lv' := [(2, .int a), (0, .ref (ad 11 0)), (1, .int a)]) h.ok dX6_pick_36 (by decide) rfl ?_
      refine r_aload_n h.ok dX6_pick_37 1 rfl ?_
      refine r_dup h.ok dX6_pick_38 rfl ?_
      refine r_get (v := .int (I 11 0 36)) h.ok 36 dX6_pick_39 (xo_11 _) rfl inX6 (by decide) wfl_X6_133 rfl ?_
      refine r_iload_n h.ok dX6_pick_42 0 rfl ?_
      refine r_isub h.ok dX6_pick_43 ?_
      refine r_put (ty := tyX6) h.ok 36 dX6_pick_44 (xo_11 _) rfl inX6 tyX6_ok nmX6 (by decide) wfl_X6_133 rfl rfl rfl (by simp) (cX_put (r' := upd (I 11 0) 36 ((I 11 0 36) - a)) (xo_11 _)) ?_
      refine r_aload_n h.ok dX6_pick_47 1 rfl ?_
      refine r_dup h.ok dX6_pick_48 rfl ?_
      refine r_get (v := .int (I 11 0 40)) h.ok 40 dX6_pick_49 (xo_11 _) rfl inX6 (by decide) wfl_X6_199 (congrArg (fun z => some (Value.int z)) (by simp [gr, upd] : (gs I 11 0 36 ((I 11 0 36) - a)) 11 0 40 = I 11 0 40)) ?_
      refine r_iload_n h.ok dX6_pick_52 0 rfl ?_
      refine r_iadd h.ok dX6_pick_53 ?_
      refine r_put (ty := tyX6) h.ok 40 dX6_pick_54 (xo_11 _) rfl inX6 tyX6_ok nmX6 (by decide) wfl_X6_199 rfl rfl rfl (by simp) (cX_put (r' := upd ((gs I 11 0 36 ((I 11 0 36) - a)) 11 0) 40 ((I 11 0 40) + a)) (xo_11 _)) ?_
      refine r_iload_n h.ok dX6_pick_57 0 rfl ?_
      refine r_iret h dX6_pick_58 ⟨by decide, by decide⟩ ⟨(by unfold mPick_r; simp only [if_neg c_14, if_neg c_25]), rfl, (by unfold mPick_I; simp only [if_neg c_14, if_neg c_25])⟩
  · refine r_bipush (v := (-2)) h.ok dX6_pick_17 (by decide) ?_
    refine r_iret h dX6_pick_19 ⟨by decide, by decide⟩ ⟨(by unfold mPick_r; simp only [if_pos c_14]), rfl, (by unfold mPick_I; simp only [if_pos c_14])⟩
noncomputable def mBoxOp_r (I : gI) (F : gF)  : Int32 := mBox I
set_option maxHeartbeats 4000000 in
set_option maxRecDepth 100000 in
theorem c_X6_box (D : va_G) (E : gEc) (ad : gAd) (I : gI) (F : gF) (lc ln : Nat) (ht : I 11 0 0 = 0) (hb : I 11 0 31 = -9 ∨ vp_in (I 11 0 31) 500) : gCon D E yX6_box cX6_box 1 (some .int) 1 0 0 [.ref (ad 11 0)] ad (cX E ad I F lc ln) (gPd (some (.int (mBoxOp_r I F ))) ad (cX E ad I F lc ln)) := by
  refine gCon.of (by decide) (Nat.le_of_ble_eq_true rfl) ?_
  intro l A Rn h
  show Rn 0 [(0, .ref (ad 11 0))] [] ad (cX E ad I F lc ln) 0 0
  refine r_aload_n h.ok dX6_box_0 0 rfl ?_
  refine r_iconst (v := 0) h.ok dX6_box_1 (by decide) ?_
  refine r_put (ty := tyX6) h.ok 0 dX6_box_2 (xo_11 _) rfl inX6 tyX6_ok nmX6 (by decide) wfl_X6_97 rfl rfl rfl (by simp) (cX_thr ht) ?_
  refine r_aload_n h.ok dX6_box_5 0 rfl ?_
  refine r_callV h.ok [] [] dX6_box_6 (c_X6_cowInBox D E ad I F lc ln hb) wml_X6_189 wim_X6_cowInBox wse_X6_cowInBox win_X6 wco_X6_cowInBox yok_X6_cowInBox (xo_11 _) rfl rfl ⟨by decide, by decide, by simp [gRm], by simp [gRm]⟩ (Nat.le_of_ble_eq_true rfl) rfl ?_
  show Rn 9 [(0, .ref (ad 11 0))] [.int (mBox I)] ad (cX E ad I F lc ln) 0 0
  refine r_iret h dX6_box_9 ⟨by decide, by decide⟩ ⟨(by unfold mBoxOp_r; rfl), rfl, rfl⟩
end
section
theorem mIn_in {w x : Int32} {n : Nat} (hw : w = nI n) (hn : n ≤ 1000) (h : mIn x 0 (w - 1)) : vp_in x n := by
  obtain ⟨h1, h2⟩ := h
  rw [hw] at h2
  rw [vp_in_iff]
  rw [Int32.lt_iff_toInt_lt] at h1 h2
  have e1 : (nI n - 1).toInt = (n : Int) - 1 := pk_sub_toInt (a := n) (b := 1) (by omega) (by decide)
  rw [e1] at h2
  have e0 : (0 : Int32).toInt = 0 := by decide
  rw [e0] at h1
  omega
theorem vp_lt {x : Int32} {n : Nat} (h : vp_in x n) : x.toNatClampNeg < n := Nat.not_le.mp fun q => h (Or.inr q)
theorem vp_eq {x : Int32} {n : Nat} (h : vp_in x n) : x = nI x.toNatClampNeg := by
  have h0 : ¬ x < 0 := fun q => h (Or.inl q)
  obtain ⟨j, hj, rfl⟩ := nI_of h0
  rw [nI_clamp hj]
theorem vp_cows {I : gI} {nc : Nat} (hn : I 11 0 3 = nI nc) (h12 : nc ≤ 12) (h : ¬ I 11 0 3 = 12) : vp_in (I 11 0 3) 12 := by
  rw [hn] at *
  refine vp_in_nI ?_ (by decide)
  rcases Nat.lt_or_ge nc 12 with q | q
  · exact q
  · exact absurd (show nI nc = 12 by rw [show nc = 12 by omega]; decide) h
theorem vp_teat {c t : Int32} (hc : vp_in c 12) (ht : mIn t 0 3) : vp_in (4 * c + t) 48 ∧ (4 * c + t).toNatClampNeg = 4 * c.toNatClampNeg + t.toNatClampNeg := by
  have h4 : vp_in t 4 := by
    obtain ⟨h1, h2⟩ := ht
    rw [vp_in_iff]
    rw [Int32.lt_iff_toInt_lt] at h1 h2
    have e0 : (0 : Int32).toInt = 0 := by decide
    have e3 : (3 : Int32).toInt = 3 := by decide
    rw [e0] at h1
    rw [e3] at h2
    omega
  have a1 := vp_lt hc
  have a2 := vp_lt h4
  rw [vp_eq hc, vp_eq h4]
  generalize c.toNatClampNeg = j at *
  generalize t.toNatClampNeg = q at *
  have e : (4 : Int32) * nI j + nI q = nI (4 * j + q) := by
    rw [show (4 : Int32) = nI 4 by decide, pk_mul, nI_add]
  rw [e, nI_clamp (by omega), nI_clamp (by omega), nI_clamp (by omega)]
  exact ⟨vp_in_nI (by omega) (by decide), rfl⟩
noncomputable def mCow_r (I : gI) (F : gF) (a b c d : Int32) : Int32 := (if (pI (mIn a 0 2)) = 0 then (-2) else (if (pI (mIn b 1 30)) = 0 then (-2) else (if (pI (mIn c 0 1440)) = 0 then (-2) else (if (pI (mIn d 0 5000)) = 0 then (-2) else (if (I 11 0 3) = 12 then (-4) else ((I 11 0 3) + 1) - 1)))))
noncomputable def mCow_I (I : gI) (F : gF) (a b c d : Int32) : gI := (if (pI (mIn a 0 2)) = 0 then I else (if (pI (mIn b 1 30)) = 0 then I else (if (pI (mIn c 0 1440)) = 0 then I else (if (pI (mIn d 0 5000)) = 0 then I else (if (I 11 0 3) = 12 then I else gs (gs (gs (gs (gs (gs (gs (gs I 12 4 ((I 11 0 3).toNatClampNeg) a) 12 5 ((I 11 0 3).toNatClampNeg) b) 12 6 ((I 11 0 3).toNatClampNeg) c) 12 7 ((I 11 0 3).toNatClampNeg) d) 12 8 ((I 11 0 3).toNatClampNeg) (I 11 0 1)) 12 10 ((I 11 0 3).toNatClampNeg) (-9)) 12 13 ((I 11 0 3).toNatClampNeg) (-9)) 11 0 3 ((I 11 0 3) + 1))))))
set_option maxHeartbeats 4000000 in
set_option maxRecDepth 100000 in
theorem c_X6_cow (D : va_G) (E : gEc) (ad : gAd) (I : gI) (F : gF) (lc ln : Nat) (a b c d : Int32) (ht : I 11 0 0 = 0) (nc : Nat) (hn : I 11 0 3 = nI nc) (h12 : nc ≤ 12) : gCon D E yX6_cow cX6_cow 5 (some .int) 1 0 0 [.ref (ad 11 0), .int a, .int b, .int c, .int d] ad (cX E ad I F lc ln) (gPd (some (.int (mCow_r I F a b c d))) ad (cX E ad (mCow_I I F a b c d) F lc ln)) := by
  refine gCon.of (by decide) (Nat.le_of_ble_eq_true rfl) ?_
  intro l A Rn h
  show Rn 0 [(0, .ref (ad 11 0)), (1, .int a), (2, .int b), (3, .int c), (4, .int d)] [] ad (cX E ad I F lc ln) 0 0
  refine r_aload_n h.ok dX6_cow_0 0 rfl ?_
  refine r_iconst (v := 0) h.ok dX6_cow_1 (by decide) ?_
  refine r_put (ty := tyX6) h.ok 0 dX6_cow_2 (xo_11 _) rfl inX6 tyX6_ok nmX6 (by decide) wfl_X6_97 rfl rfl rfl (by simp) (cX_thr ht) ?_
  refine r_iload_n h.ok dX6_cow_5 1 rfl ?_
  refine r_i2l h.ok dX6_cow_6 ?_
  refine r_lconst (v := Int32.toInt64 0) h.ok dX6_cow_7 (by decide) ?_
  refine r_ldc2 (v' := Int32.toInt64 2) h.ok dX6_cow_8 wk_X6_151 (by decide) ?_
  refine r_callS h.ok [.long (Int32.toInt64 a), .long (Int32.toInt64 0), .long (Int32.toInt64 2)] [] dX6_cow_11 (c_X6_in D E ad I F lc ln a 0 2) wml_X6_103 wst_X6_in win_X6 wco_X6_in yok_X6_in ⟨by decide, by decide, by simp [gRm], by simp [gRm]⟩ (Nat.le_of_ble_eq_true rfl) rfl ?_
  show Rn 14 [(0, .ref (ad 11 0)), (1, .int a), (2, .int b), (3, .int c), (4, .int d)] [.int (pI (mIn a 0 2))] ad (cX E ad I F lc ln) 0 0
  refine r_if_eq h.ok 54 dX6_cow_14 (by decide) (fun c_14 => ?_) (fun c_14 => ?_)
  · refine r_bipush (v := (-2)) h.ok dX6_cow_54 (by decide) ?_
    refine r_iret h dX6_cow_56 ⟨by decide, by decide⟩ ⟨(by unfold mCow_r; simp only [if_pos c_14]), rfl, (by unfold mCow_I; simp only [if_pos c_14])⟩
  · refine r_iload_n h.ok dX6_cow_17 2 rfl ?_
    refine r_i2l h.ok dX6_cow_18 ?_
    refine r_lconst (v := Int32.toInt64 1) h.ok dX6_cow_19 (by decide) ?_
    refine r_ldc2 (v' := Int32.toInt64 30) h.ok dX6_cow_20 wk_X6_153 (by decide) ?_
    refine r_callS h.ok [.long (Int32.toInt64 b), .long (Int32.toInt64 1), .long (Int32.toInt64 30)] [] dX6_cow_23 (c_X6_in D E ad I F lc ln b 1 30) wml_X6_103 wst_X6_in win_X6 wco_X6_in yok_X6_in ⟨by decide, by decide, by simp [gRm], by simp [gRm]⟩ (Nat.le_of_ble_eq_true rfl) rfl ?_
    show Rn 26 [(0, .ref (ad 11 0)), (1, .int a), (2, .int b), (3, .int c), (4, .int d)] [.int (pI (mIn b 1 30))] ad (cX E ad I F lc ln) 0 0
    refine r_if_eq h.ok 54 dX6_cow_26 (by decide) (fun c_26 => ?_) (fun c_26 => ?_)
    · refine r_bipush (v := (-2)) h.ok dX6_cow_54 (by decide) ?_
      refine r_iret h dX6_cow_56 ⟨by decide, by decide⟩ ⟨(by unfold mCow_r; simp only [if_neg c_14, if_pos c_26]), rfl, (by unfold mCow_I; simp only [if_neg c_14, if_pos c_26])⟩
    · refine r_iload_n h.ok dX6_cow_29 3 rfl ?_
      refine r_i2l h.ok dX6_cow_30 ?_
      refine r_lconst (v := Int32.toInt64 0) h.ok dX6_cow_31 (by decide) ?_
      refine r_ldc2 (v' := Int32.toInt64 1440) h.ok dX6_cow_32 wk_X6_155 (by decide) ?_
      refine r_callS h.ok [.long (Int32.toInt64 c), .long (Int32.toInt64 0), .long (Int32.toInt64 1440)] [] dX6_cow_35 (c_X6_in D E ad I F lc ln c 0 1440) wml_X6_103 wst_X6_in win_X6 wco_X6_in yok_X6_in ⟨by decide, by decide, by simp [gRm], by simp [gRm]⟩ (Nat.le_of_ble_eq_true rfl) rfl ?_
      show Rn 38 [(0, .ref (ad 11 0)), (1, .int a), (2, .int b), (3, .int c), (4, .int d)] [.int (pI (mIn c 0 1440))] ad (cX E ad I F lc ln) 0 0
      refine r_if_eq h.ok 54 dX6_cow_38 (by decide) (fun c_38 => ?_) (fun c_38 => ?_)
      · refine r_bipush (v := (-2)) h.ok dX6_cow_54 (by decide) ?_
        refine r_iret h dX6_cow_56 ⟨by decide, by decide⟩ ⟨(by unfold mCow_r; simp only [if_neg c_14, if_neg c_26, if_pos c_38]), rfl, (by unfold mCow_I; simp only [if_neg c_14, if_neg c_26, if_pos c_38])⟩
      · refine r_iload h.ok dX6_cow_41 4 rfl ?_
        refine r_i2l h.ok dX6_cow_43 ?_
        refine r_lconst (v := Int32.toInt64 0) h.ok dX6_cow_44 (by decide) ?_
        refine r_ldc2 (v' := Int32.toInt64 5000) h.ok dX6_cow_45 wk_X6_157 (by decide) ?_
        refine r_callS h.ok [.long (Int32.toInt64 d), .long (Int32.toInt64 0), .long (Int32.toInt64 5000)] [] dX6_cow_48 (c_X6_in D E ad I F lc ln d 0 5000) wml_X6_103 wst_X6_in win_X6 wco_X6_in yok_X6_in ⟨by decide, by decide, by simp [gRm], by simp [gRm]⟩ (Nat.le_of_ble_eq_true rfl) rfl ?_
        show Rn 51 [(0, .ref (ad 11 0)), (1, .int a), (2, .int b), (3, .int c), (4, .int d)] [.int (pI (mIn d 0 5000))] ad (cX E ad I F lc ln) 0 0
        refine r_if_ne h.ok 57 dX6_cow_51 (by decide) (fun c_51 => ?_) (fun c_51 => ?_)
        · refine r_aload_n h.ok dX6_cow_57 0 rfl ?_
          refine r_get (v := .int (I 11 0 3)) h.ok 3 dX6_cow_58 (xo_11 _) rfl inX6 (by decide) wfl_X6_100 rfl ?_
          refine r_bipush (v := 12) h.ok dX6_cow_61 (by decide) ?_
          refine r_icmp_ne h.ok 69 dX6_cow_63 (by decide) (fun c_63 => ?_) (fun c_63 => ?_)
          · refine r_aload_n h.ok dX6_cow_69 0 rfl ?_
            refine r_get h.ok 4 dX6_cow_70 (xo_11 _) rfl inX6 (by decide) wfl_X6_13 rfl ?_
            refine r_aload_n h.ok dX6_cow_73 0 rfl ?_
            refine r_get (v := .int (I 11 0 3)) h.ok 3 dX6_cow_74 (xo_11 _) rfl inX6 (by decide) wfl_X6_100 rfl ?_
            refine r_iload_n h.ok dX6_cow_77 1 rfl ?_
            refine x_iasp h.ok dX6_cow_78 (fun _ => rfl) (vp_cows hn h12 c_63) ?_
            refine r_aload_n h.ok dX6_cow_79 0 rfl ?_
            refine r_get h.ok 5 dX6_cow_80 (xo_11 _) rfl inX6 (by decide) wfl_X6_17 rfl ?_
            refine r_aload_n h.ok dX6_cow_83 0 rfl ?_
            refine r_get (v := .int (I 11 0 3)) h.ok 3 dX6_cow_84 (xo_11 _) rfl inX6 (by decide) wfl_X6_100 rfl ?_
            refine r_iload_n h.ok dX6_cow_87 2 rfl ?_
            refine x_iasp h.ok dX6_cow_88 (fun _ => rfl) (vp_cows hn h12 c_63) ?_
            refine r_aload_n h.ok dX6_cow_89 0 rfl ?_
            refine r_get h.ok 6 dX6_cow_90 (xo_11 _) rfl inX6 (by decide) wfl_X6_20 rfl ?_
            refine r_aload_n h.ok dX6_cow_93 0 rfl ?_
            refine r_get (v := .int (I 11 0 3)) h.ok 3 dX6_cow_94 (xo_11 _) rfl inX6 (by decide) wfl_X6_100 rfl ?_
            refine r_iload_n h.ok dX6_cow_97 3 rfl ?_
            refine x_iasp h.ok dX6_cow_98 (fun _ => rfl) (vp_cows hn h12 c_63) ?_
            refine r_aload_n h.ok dX6_cow_99 0 rfl ?_
            refine r_get h.ok 7 dX6_cow_100 (xo_11 _) rfl inX6 (by decide) wfl_X6_23 rfl ?_
            refine r_aload_n h.ok dX6_cow_103 0 rfl ?_
            refine r_get (v := .int (I 11 0 3)) h.ok 3 dX6_cow_104 (xo_11 _) rfl inX6 (by decide) wfl_X6_100 rfl ?_
            refine r_iload h.ok dX6_cow_107 4 rfl ?_
            refine x_iasp h.ok dX6_cow_109 (fun _ => rfl) (vp_cows hn h12 c_63) ?_
            refine r_aload_n h.ok dX6_cow_110 0 rfl ?_
            refine r_get h.ok 8 dX6_cow_111 (xo_11 _) rfl inX6 (by decide) wfl_X6_26 rfl ?_
            refine r_aload_n h.ok dX6_cow_114 0 rfl ?_
            refine r_get (v := .int (I 11 0 3)) h.ok 3 dX6_cow_115 (xo_11 _) rfl inX6 (by decide) wfl_X6_100 rfl ?_
            refine r_aload_n h.ok dX6_cow_118 0 rfl ?_
            refine r_get (v := .int (I 11 0 1)) h.ok 1 dX6_cow_119 (xo_11 _) rfl inX6 (by decide) wfl_X6_107 rfl ?_
            refine x_iasp h.ok dX6_cow_122 (fun _ => rfl) (vp_cows hn h12 c_63) ?_
            refine r_aload_n h.ok dX6_cow_123 0 rfl ?_
            refine r_get h.ok 10 dX6_cow_124 (xo_11 _) rfl inX6 (by decide) wfl_X6_32 rfl ?_
            refine r_aload_n h.ok dX6_cow_127 0 rfl ?_
            refine r_get (v := .int (I 11 0 3)) h.ok 3 dX6_cow_128 (xo_11 _) rfl inX6 (by decide) wfl_X6_100 rfl ?_
            refine r_bipush (v := (-9)) h.ok dX6_cow_131 (by decide) ?_
            refine x_iasp h.ok dX6_cow_133 (fun _ => rfl) (vp_cows hn h12 c_63) ?_
            refine r_aload_n h.ok dX6_cow_134 0 rfl ?_
            refine r_get h.ok 13 dX6_cow_135 (xo_11 _) rfl inX6 (by decide) wfl_X6_41 rfl ?_
            refine r_aload_n h.ok dX6_cow_138 0 rfl ?_
            refine r_get (v := .int (I 11 0 3)) h.ok 3 dX6_cow_139 (xo_11 _) rfl inX6 (by decide) wfl_X6_100 rfl ?_
            refine r_bipush (v := (-9)) h.ok dX6_cow_142 (by decide) ?_
            refine x_iasp h.ok dX6_cow_144 (fun _ => rfl) (vp_cows hn h12 c_63) ?_
            refine r_aload_n h.ok dX6_cow_145 0 rfl ?_
            refine r_dup h.ok dX6_cow_146 rfl ?_
            refine r_get (v := .int (I 11 0 3)) h.ok 3 dX6_cow_147 (xo_11 _) rfl inX6 (by decide) wfl_X6_100 rfl ?_
            refine r_iconst (v := 1) h.ok dX6_cow_150 (by decide) ?_
            refine r_iadd h.ok dX6_cow_151 ?_
            refine r_put (ty := tyX6) h.ok 3 dX6_cow_152 (xo_11 _) rfl inX6 tyX6_ok nmX6 (by decide) wfl_X6_100 rfl rfl rfl (by simp) (cX_put (r' := upd ((gs (gs (gs (gs (gs (gs (gs I 12 4 ((I 11 0 3).toNatClampNeg) a) 12 5 ((I 11 0 3).toNatClampNeg) b) 12 6 ((I 11 0 3).toNatClampNeg) c) 12 7 ((I 11 0 3).toNatClampNeg) d) 12 8 ((I 11 0 3).toNatClampNeg) (I 11 0 1)) 12 10 ((I 11 0 3).toNatClampNeg) (-9)) 12 13 ((I 11 0 3).toNatClampNeg) (-9)) 11 0) 3 ((I 11 0 3) + 1)) (xo_11 _)) ?_
            refine r_aload_n h.ok dX6_cow_155 0 rfl ?_
            refine r_get (v := .int ((I 11 0 3) + 1)) h.ok 3 dX6_cow_156 (xo_11 _) rfl inX6 (by decide) wfl_X6_100 (congrArg (fun z => some (Value.int z)) (by simp [gr, upd] : (gs (gs (gs (gs (gs (gs (gs (gs I 12 4 ((I 11 0 3).toNatClampNeg) a) 12 5 ((I 11 0 3).toNatClampNeg) b) 12 6 ((I 11 0 3).toNatClampNeg) c) 12 7 ((I 11 0 3).toNatClampNeg) d) 12 8 ((I 11 0 3).toNatClampNeg) (I 11 0 1)) 12 10 ((I 11 0 3).toNatClampNeg) (-9)) 12 13 ((I 11 0 3).toNatClampNeg) (-9)) 11 0 3 ((I 11 0 3) + 1)) 11 0 3 = (I 11 0 3) + 1)) ?_
            refine r_iconst (v := 1) h.ok dX6_cow_159 (by decide) ?_
            refine r_isub h.ok dX6_cow_160 ?_
            refine r_iret h dX6_cow_161 ⟨by decide, by decide⟩ ⟨(by unfold mCow_r; simp only [if_neg c_14, if_neg c_26, if_neg c_38, if_neg c_51, if_neg c_63]), rfl, (by unfold mCow_I; simp only [if_neg c_14, if_neg c_26, if_neg c_38, if_neg c_51, if_neg c_63])⟩
          · refine r_bipush (v := (-4)) h.ok dX6_cow_66 (by decide) ?_
            refine r_iret h dX6_cow_68 ⟨by decide, by decide⟩ ⟨(by unfold mCow_r; simp only [if_neg c_14, if_neg c_26, if_neg c_38, if_neg c_51, if_pos c_63]), rfl, (by unfold mCow_I; simp only [if_neg c_14, if_neg c_26, if_neg c_38, if_neg c_51, if_pos c_63])⟩
        · refine r_bipush (v := (-2)) h.ok dX6_cow_54 (by decide) ?_
          refine r_iret h dX6_cow_56 ⟨by decide, by decide⟩ ⟨(by unfold mCow_r; simp only [if_neg c_14, if_neg c_26, if_neg c_38, if_pos c_51]), rfl, (by unfold mCow_I; simp only [if_neg c_14, if_neg c_26, if_neg c_38, if_pos c_51])⟩
noncomputable def mTaken_r (I : gI) (F : gF) (c a b : Int32) : Int32 := (if (pI (mNo I c)) = 0 then (if (pI (mIn a 0 2)) = 0 then (-2) else (if (pI (mIn b 0 3)) = 0 then (-2) else (if a = 0 then (if b = 0 then I 12 4 c.toNatClampNeg else (if b = 1 then I 12 5 c.toNatClampNeg else (if b = 2 then I 12 6 c.toNatClampNeg else I 12 7 c.toNatClampNeg))) else (if (I 12 4 c.toNatClampNeg) = a then (if b = 0 then I 12 4 c.toNatClampNeg else (if b = 1 then I 12 5 c.toNatClampNeg else (if b = 2 then I 12 6 c.toNatClampNeg else I 12 7 c.toNatClampNeg))) else (-13))))) else (-1))
set_option maxHeartbeats 4000000 in
set_option maxRecDepth 100000 in
theorem c_X6_taken (D : va_G) (E : gEc) (ad : gAd) (I : gI) (F : gF) (lc ln : Nat) (c a b : Int32) (ht : I 11 0 0 = 0) (nc : Nat) (hn : I 11 0 3 = nI nc) (h12 : nc ≤ 12) : gCon D E yX6_taken cX6_taken 4 (some .int) 2 0 0 [.ref (ad 11 0), .int c, .int a, .int b] ad (cX E ad I F lc ln) (gPd (some (.int (mTaken_r I F c a b))) ad (cX E ad I F lc ln)) := by
  refine gCon.of (by decide) (Nat.le_of_ble_eq_true rfl) ?_
  intro l A Rn h
  show Rn 0 [(0, .ref (ad 11 0)), (1, .int c), (2, .int a), (3, .int b)] [] ad (cX E ad I F lc ln) 0 0
  refine r_aload_n h.ok dX6_taken_0 0 rfl ?_
  refine r_iconst (v := 0) h.ok dX6_taken_1 (by decide) ?_
  refine r_put (ty := tyX6) h.ok 0 dX6_taken_2 (xo_11 _) rfl inX6 tyX6_ok nmX6 (by decide) wfl_X6_97 rfl rfl rfl (by simp) (cX_thr ht) ?_
  refine r_aload_n h.ok dX6_taken_5 0 rfl ?_
  refine r_iload_n h.ok dX6_taken_6 1 rfl ?_
  refine r_callV h.ok [.int c] [] dX6_taken_7 (c_X6_noCow D E ad I F lc ln c) wml_X6_159 wim_X6_noCow wse_X6_noCow win_X6 wco_X6_noCow yok_X6_noCow (xo_11 _) rfl rfl ⟨by decide, by decide, by simp [gRm], by simp [gRm]⟩ (Nat.le_of_ble_eq_true rfl) rfl ?_
  show Rn 10 [(0, .ref (ad 11 0)), (1, .int c), (2, .int a), (3, .int b)] [.int (pI (mNo I c))] ad (cX E ad I F lc ln) 0 0
  refine r_if_eq h.ok 15 dX6_taken_10 (by decide) (fun c_10 => ?_) (fun c_10 => ?_)
  · refine r_iload_n h.ok dX6_taken_15 2 rfl ?_
    refine r_i2l h.ok dX6_taken_16 ?_
    refine r_lconst (v := Int32.toInt64 0) h.ok dX6_taken_17 (by decide) ?_
    refine r_ldc2 (v' := Int32.toInt64 2) h.ok dX6_taken_18 wk_X6_151 (by decide) ?_
    refine r_callS h.ok [.long (Int32.toInt64 a), .long (Int32.toInt64 0), .long (Int32.toInt64 2)] [] dX6_taken_21 (c_X6_in D E ad I F lc ln a 0 2) wml_X6_103 wst_X6_in win_X6 wco_X6_in yok_X6_in ⟨by decide, by decide, by simp [gRm], by simp [gRm]⟩ (Nat.le_of_ble_eq_true rfl) rfl ?_
    show Rn 24 [(0, .ref (ad 11 0)), (1, .int c), (2, .int a), (3, .int b)] [.int (pI (mIn a 0 2))] ad (cX E ad I F lc ln) 0 0
    refine r_if_eq h.ok 39 dX6_taken_24 (by decide) (fun c_24 => ?_) (fun c_24 => ?_)
    · refine r_bipush (v := (-2)) h.ok dX6_taken_39 (by decide) ?_
      refine r_iret h dX6_taken_41 ⟨by decide, by decide⟩ ⟨(by unfold mTaken_r; simp only [if_pos c_10, if_pos c_24]), rfl, rfl⟩
    · refine r_iload_n h.ok dX6_taken_27 3 rfl ?_
      refine r_i2l h.ok dX6_taken_28 ?_
      refine r_lconst (v := Int32.toInt64 0) h.ok dX6_taken_29 (by decide) ?_
      refine r_ldc2 (v' := Int32.toInt64 3) h.ok dX6_taken_30 wk_X6_163 (by decide) ?_
      refine r_callS h.ok [.long (Int32.toInt64 b), .long (Int32.toInt64 0), .long (Int32.toInt64 3)] [] dX6_taken_33 (c_X6_in D E ad I F lc ln b 0 3) wml_X6_103 wst_X6_in win_X6 wco_X6_in yok_X6_in ⟨by decide, by decide, by simp [gRm], by simp [gRm]⟩ (Nat.le_of_ble_eq_true rfl) rfl ?_
      show Rn 36 [(0, .ref (ad 11 0)), (1, .int c), (2, .int a), (3, .int b)] [.int (pI (mIn b 0 3))] ad (cX E ad I F lc ln) 0 0
      refine r_if_ne h.ok 42 dX6_taken_36 (by decide) (fun c_36 => ?_) (fun c_36 => ?_)
      · refine r_iload_n h.ok dX6_taken_42 2 rfl ?_
        refine r_if_eq h.ok 59 dX6_taken_43 (by decide) (fun c_43 => ?_) (fun c_43 => ?_)
        · refine r_iload_n h.ok dX6_taken_59 3 rfl ?_
          refine r_if_ne h.ok 72 dX6_taken_60 (by decide) (fun c_60 => ?_) (fun c_60 => ?_)
          · refine r_iload_n h.ok dX6_taken_72 3 rfl ?_
            refine r_iconst (v := 1) h.ok dX6_taken_73 (by decide) ?_
            refine r_icmp_ne h.ok 86 dX6_taken_74 (by decide) (fun c_74 => ?_) (fun c_74 => ?_)
            · refine r_iload_n h.ok dX6_taken_86 3 rfl ?_
              refine r_iconst (v := 2) h.ok dX6_taken_87 (by decide) ?_
              refine r_icmp_ne h.ok 100 dX6_taken_88 (by decide) (fun c_88 => ?_) (fun c_88 => ?_)
              · refine r_aload_n h.ok dX6_taken_100 0 rfl ?_
                refine r_get h.ok 7 dX6_taken_101 (xo_11 _) rfl inX6 (by decide) wfl_X6_23 rfl ?_
                refine r_iload_n h.ok dX6_taken_104 1 rfl ?_
                refine x_ialp (v := I 12 7 c.toNatClampNeg) h.ok dX6_taken_105 rfl (vp_mono (mNo_in hn h12 (pI_0.mp c_10)) h12) rfl ?_
                refine r_iret h dX6_taken_106 ⟨by decide, by decide⟩ ⟨(by unfold mTaken_r; simp only [if_pos c_10, if_neg c_24, if_neg c_36, if_pos c_43, if_neg c_60, if_neg c_74, if_neg c_88]), rfl, rfl⟩
              · refine r_aload_n h.ok dX6_taken_91 0 rfl ?_
                refine r_get h.ok 6 dX6_taken_92 (xo_11 _) rfl inX6 (by decide) wfl_X6_20 rfl ?_
                refine r_iload_n h.ok dX6_taken_95 1 rfl ?_
                refine x_ialp (v := I 12 6 c.toNatClampNeg) h.ok dX6_taken_96 rfl (vp_mono (mNo_in hn h12 (pI_0.mp c_10)) h12) rfl ?_
                refine r_goto h.ok 106 dX6_taken_97 (by decide) ?_
                refine r_iret h dX6_taken_106 ⟨by decide, by decide⟩ ⟨(by unfold mTaken_r; simp only [if_pos c_10, if_neg c_24, if_neg c_36, if_pos c_43, if_neg c_60, if_neg c_74, if_pos c_88]), rfl, rfl⟩
            · refine r_aload_n h.ok dX6_taken_77 0 rfl ?_
              refine r_get h.ok 5 dX6_taken_78 (xo_11 _) rfl inX6 (by decide) wfl_X6_17 rfl ?_
              refine r_iload_n h.ok dX6_taken_81 1 rfl ?_
              refine x_ialp (v := I 12 5 c.toNatClampNeg) h.ok dX6_taken_82 rfl (vp_mono (mNo_in hn h12 (pI_0.mp c_10)) h12) rfl ?_
              refine r_goto h.ok 106 dX6_taken_83 (by decide) ?_
              refine r_iret h dX6_taken_106 ⟨by decide, by decide⟩ ⟨(by unfold mTaken_r; simp only [if_pos c_10, if_neg c_24, if_neg c_36, if_pos c_43, if_neg c_60, if_pos c_74]), rfl, rfl⟩
          · refine r_aload_n h.ok dX6_taken_63 0 rfl ?_
            refine r_get h.ok 4 dX6_taken_64 (xo_11 _) rfl inX6 (by decide) wfl_X6_13 rfl ?_
            refine r_iload_n h.ok dX6_taken_67 1 rfl ?_
            refine x_ialp (v := I 12 4 c.toNatClampNeg) h.ok dX6_taken_68 rfl (vp_mono (mNo_in hn h12 (pI_0.mp c_10)) h12) rfl ?_
            refine r_goto h.ok 106 dX6_taken_69 (by decide) ?_
            refine r_iret h dX6_taken_106 ⟨by decide, by decide⟩ ⟨(by unfold mTaken_r; simp only [if_pos c_10, if_neg c_24, if_neg c_36, if_pos c_43, if_pos c_60]), rfl, rfl⟩
        · refine r_aload_n h.ok dX6_taken_46 0 rfl ?_
          refine r_get h.ok 4 dX6_taken_47 (xo_11 _) rfl inX6 (by decide) wfl_X6_13 rfl ?_
          refine r_iload_n h.ok dX6_taken_50 1 rfl ?_
          refine x_ialp (v := I 12 4 c.toNatClampNeg) h.ok dX6_taken_51 rfl (vp_mono (mNo_in hn h12 (pI_0.mp c_10)) h12) rfl ?_
          refine r_iload_n h.ok dX6_taken_52 2 rfl ?_
          refine r_icmp_eq h.ok 59 dX6_taken_53 (by decide) (fun c_53 => ?_) (fun c_53 => ?_)
          · refine r_iload_n h.ok dX6_taken_59 3 rfl ?_
            refine r_if_ne h.ok 72 dX6_taken_60 (by decide) (fun c_60 => ?_) (fun c_60 => ?_)
            · refine r_iload_n h.ok dX6_taken_72 3 rfl ?_
              refine r_iconst (v := 1) h.ok dX6_taken_73 (by decide) ?_
              refine r_icmp_ne h.ok 86 dX6_taken_74 (by decide) (fun c_74 => ?_) (fun c_74 => ?_)
              · refine r_iload_n h.ok dX6_taken_86 3 rfl ?_
                refine r_iconst (v := 2) h.ok dX6_taken_87 (by decide) ?_
                refine r_icmp_ne h.ok 100 dX6_taken_88 (by decide) (fun c_88 => ?_) (fun c_88 => ?_)
                · refine r_aload_n h.ok dX6_taken_100 0 rfl ?_
                  refine r_get h.ok 7 dX6_taken_101 (xo_11 _) rfl inX6 (by decide) wfl_X6_23 rfl ?_
                  refine r_iload_n h.ok dX6_taken_104 1 rfl ?_
                  refine x_ialp (v := I 12 7 c.toNatClampNeg) h.ok dX6_taken_105 rfl (vp_mono (mNo_in hn h12 (pI_0.mp c_10)) h12) rfl ?_
                  refine r_iret h dX6_taken_106 ⟨by decide, by decide⟩ ⟨(by unfold mTaken_r; simp only [if_pos c_10, if_neg c_24, if_neg c_36, if_neg c_43, if_pos c_53, if_neg c_60, if_neg c_74, if_neg c_88]), rfl, rfl⟩
                · refine r_aload_n h.ok dX6_taken_91 0 rfl ?_
                  refine r_get h.ok 6 dX6_taken_92 (xo_11 _) rfl inX6 (by decide) wfl_X6_20 rfl ?_
                  refine r_iload_n h.ok dX6_taken_95 1 rfl ?_
                  refine x_ialp (v := I 12 6 c.toNatClampNeg) h.ok dX6_taken_96 rfl (vp_mono (mNo_in hn h12 (pI_0.mp c_10)) h12) rfl ?_
                  refine r_goto h.ok 106 dX6_taken_97 (by decide) ?_
                  refine r_iret h dX6_taken_106 ⟨by decide, by decide⟩ ⟨(by unfold mTaken_r; simp only [if_pos c_10, if_neg c_24, if_neg c_36, if_neg c_43, if_pos c_53, if_neg c_60, if_neg c_74, if_pos c_88]), rfl, rfl⟩
              · refine r_aload_n h.ok dX6_taken_77 0 rfl ?_
                refine r_get h.ok 5 dX6_taken_78 (xo_11 _) rfl inX6 (by decide) wfl_X6_17 rfl ?_
                refine r_iload_n h.ok dX6_taken_81 1 rfl ?_
                refine x_ialp (v := I 12 5 c.toNatClampNeg) h.ok dX6_taken_82 rfl (vp_mono (mNo_in hn h12 (pI_0.mp c_10)) h12) rfl ?_
                refine r_goto h.ok 106 dX6_taken_83 (by decide) ?_
                refine r_iret h dX6_taken_106 ⟨by decide, by decide⟩ ⟨(by unfold mTaken_r; simp only [if_pos c_10, if_neg c_24, if_neg c_36, if_neg c_43, if_pos c_53, if_neg c_60, if_pos c_74]), rfl, rfl⟩
            · refine r_aload_n h.ok dX6_taken_63 0 rfl ?_
              refine r_get h.ok 4 dX6_taken_64 (xo_11 _) rfl inX6 (by decide) wfl_X6_13 rfl ?_
              refine r_iload_n h.ok dX6_taken_67 1 rfl ?_
              refine x_ialp (v := I 12 4 c.toNatClampNeg) h.ok dX6_taken_68 rfl (vp_mono (mNo_in hn h12 (pI_0.mp c_10)) h12) rfl ?_
              refine r_goto h.ok 106 dX6_taken_69 (by decide) ?_
              refine r_iret h dX6_taken_106 ⟨by decide, by decide⟩ ⟨(by unfold mTaken_r; simp only [if_pos c_10, if_neg c_24, if_neg c_36, if_neg c_43, if_pos c_53, if_pos c_60]), rfl, rfl⟩
          · refine r_bipush (v := (-13)) h.ok dX6_taken_56 (by decide) ?_
            refine r_iret h dX6_taken_58 ⟨by decide, by decide⟩ ⟨(by unfold mTaken_r; simp only [if_pos c_10, if_neg c_24, if_neg c_36, if_neg c_43, if_neg c_53]), rfl, rfl⟩
      · refine r_bipush (v := (-2)) h.ok dX6_taken_39 (by decide) ?_
        refine r_iret h dX6_taken_41 ⟨by decide, by decide⟩ ⟨(by unfold mTaken_r; simp only [if_pos c_10, if_neg c_24, if_pos c_36]), rfl, rfl⟩
  · refine r_iconst (v := (-1)) h.ok dX6_taken_13 (by decide) ?_
    refine r_iret h dX6_taken_14 ⟨by decide, by decide⟩ ⟨(by unfold mTaken_r; simp only [if_neg c_10]), rfl, rfl⟩
noncomputable def mWithhold_r (I : gI) (F : gF) (c a : Int32) : Int32 := (if (pI (mNo I c)) = 0 then (if (pI (mIn a 0 200000)) = 0 then (-2) else I 12 11 c.toNatClampNeg) else (-1))
noncomputable def mWithhold_I (I : gI) (F : gF) (c a : Int32) : gI := (if (pI (mNo I c)) = 0 then (if (pI (mIn a 0 200000)) = 0 then I else gs I 12 11 c.toNatClampNeg a) else I)
set_option maxHeartbeats 4000000 in
set_option maxRecDepth 100000 in
theorem c_X6_withhold (D : va_G) (E : gEc) (ad : gAd) (I : gI) (F : gF) (lc ln : Nat) (c a : Int32) (ht : I 11 0 0 = 0) (nc : Nat) (hn : I 11 0 3 = nI nc) (h12 : nc ≤ 12) : gCon D E yX6_withhold cX6_withhold 4 (some .int) 2 0 0 [.ref (ad 11 0), .int c, .int a] ad (cX E ad I F lc ln) (gPd (some (.int (mWithhold_r I F c a))) ad (cX E ad (mWithhold_I I F c a) F lc ln)) := by
  refine gCon.of (by decide) (Nat.le_of_ble_eq_true rfl) ?_
  intro l A Rn h
  show Rn 0 [(0, .ref (ad 11 0)), (1, .int c), (2, .int a)] [] ad (cX E ad I F lc ln) 0 0
  refine r_aload_n h.ok dX6_withhold_0 0 rfl ?_
  refine r_iconst (v := 0) h.ok dX6_withhold_1 (by decide) ?_
  refine r_put (ty := tyX6) h.ok 0 dX6_withhold_2 (xo_11 _) rfl inX6 tyX6_ok nmX6 (by decide) wfl_X6_97 rfl rfl rfl (by simp) (cX_thr ht) ?_
  refine r_aload_n h.ok dX6_withhold_5 0 rfl ?_
  refine r_iload_n h.ok dX6_withhold_6 1 rfl ?_
  refine r_callV h.ok [.int c] [] dX6_withhold_7 (c_X6_noCow D E ad I F lc ln c) wml_X6_159 wim_X6_noCow wse_X6_noCow win_X6 wco_X6_noCow yok_X6_noCow (xo_11 _) rfl rfl ⟨by decide, by decide, by simp [gRm], by simp [gRm]⟩ (Nat.le_of_ble_eq_true rfl) rfl ?_
  show Rn 10 [(0, .ref (ad 11 0)), (1, .int c), (2, .int a)] [.int (pI (mNo I c))] ad (cX E ad I F lc ln) 0 0
  refine r_if_eq h.ok 15 dX6_withhold_10 (by decide) (fun c_10 => ?_) (fun c_10 => ?_)
  · refine r_iload_n h.ok dX6_withhold_15 2 rfl ?_
    refine r_i2l h.ok dX6_withhold_16 ?_
    refine r_lconst (v := Int32.toInt64 0) h.ok dX6_withhold_17 (by decide) ?_
    refine r_ldc2 (v' := Int32.toInt64 200000) h.ok dX6_withhold_18 wk_X6_165 (by decide) ?_
    refine r_callS h.ok [.long (Int32.toInt64 a), .long (Int32.toInt64 0), .long (Int32.toInt64 200000)] [] dX6_withhold_21 (c_X6_in D E ad I F lc ln a 0 200000) wml_X6_103 wst_X6_in win_X6 wco_X6_in yok_X6_in ⟨by decide, by decide, by simp [gRm], by simp [gRm]⟩ (Nat.le_of_ble_eq_true rfl) rfl ?_
    show Rn 24 [(0, .ref (ad 11 0)), (1, .int c), (2, .int a)] [.int (pI (mIn a 0 200000))] ad (cX E ad I F lc ln) 0 0
    refine r_if_ne h.ok 30 dX6_withhold_24 (by decide) (fun c_24 => ?_) (fun c_24 => ?_)
    · refine r_aload_n h.ok dX6_withhold_30 0 rfl ?_
      refine r_get h.ok 11 dX6_withhold_31 (xo_11 _) rfl inX6 (by decide) wfl_X6_35 rfl ?_
      refine r_iload_n h.ok dX6_withhold_34 1 rfl ?_
      refine x_ialp (v := I 12 11 c.toNatClampNeg) h.ok dX6_withhold_35 rfl (vp_mono (mNo_in hn h12 (pI_0.mp c_10)) h12) rfl ?_
      refine r_istore_n (lv' := [(3, .int (I 12 11 c.toNatClampNeg)), (0, .ref (ad 11 0)), (1, .int c), (2, .int a)]) h.ok dX6_withhold_36 (by decide) rfl ?_
      refine r_aload_n h.ok dX6_withhold_37 1 rfl ?_
      refine r_get h.ok 11 dX6_withhold_38 (xo_11 _) rfl inX6 (by decide) wfl_X6_35 rfl ?_
      refine r_iload_n h.ok dX6_withhold_41 2 rfl ?_
      refine r_iload_n h.ok dX6_withhold_42 3 rfl ?_
      refine x_iasp h.ok dX6_withhold_43 (fun _ => rfl) (vp_mono (mNo_in hn h12 (pI_0.mp c_10)) h12) ?_
      refine r_iload_n h.ok dX6_withhold_44 0 rfl ?_
      refine r_iret h dX6_withhold_45 ⟨by decide, by decide⟩ ⟨(by unfold mWithhold_r; simp only [if_pos c_10, if_neg c_24]), rfl, (by unfold mWithhold_I; simp only [if_pos c_10, if_neg c_24])⟩
    · refine r_bipush (v := (-2)) h.ok dX6_withhold_27 (by decide) ?_
      refine r_iret h dX6_withhold_29 ⟨by decide, by decide⟩ ⟨(by unfold mWithhold_r; simp only [if_pos c_10, if_pos c_24]), rfl, (by unfold mWithhold_I; simp only [if_pos c_10, if_pos c_24])⟩
  · refine r_iconst (v := (-1)) h.ok dX6_withhold_13 (by decide) ?_
    refine r_iret h dX6_withhold_14 ⟨by decide, by decide⟩ ⟨(by unfold mWithhold_r; simp only [if_neg c_10]), rfl, (by unfold mWithhold_I; simp only [if_neg c_10])⟩
noncomputable def mTrouble_r (I : gI) (F : gF) (c a b : Int32) : Int32 := (if (pI (mNo I c)) = 0 then (if (pI (mIn a 0 3)) = 0 then (-1) else (if (pI (mIn b 0 9)) = 0 then (-2) else I 12 12 (((4 * c) + a).toNatClampNeg))) else (-1))
noncomputable def mTrouble_I (I : gI) (F : gF) (c a b : Int32) : gI := (if (pI (mNo I c)) = 0 then (if (pI (mIn a 0 3)) = 0 then I else (if (pI (mIn b 0 9)) = 0 then I else gs I 12 12 (((4 * c) + a).toNatClampNeg) b)) else I)
set_option maxHeartbeats 4000000 in
set_option maxRecDepth 100000 in
theorem c_X6_trouble (D : va_G) (E : gEc) (ad : gAd) (I : gI) (F : gF) (lc ln : Nat) (c a b : Int32) (ht : I 11 0 0 = 0) (nc : Nat) (hn : I 11 0 3 = nI nc) (h12 : nc ≤ 12) : gCon D E yX6_trouble cX6_trouble 5 (some .int) 2 0 0 [.ref (ad 11 0), .int c, .int a, .int b] ad (cX E ad I F lc ln) (gPd (some (.int (mTrouble_r I F c a b))) ad (cX E ad (mTrouble_I I F c a b) F lc ln)) := by
  refine gCon.of (by decide) (Nat.le_of_ble_eq_true rfl) ?_
  intro l A Rn h
  show Rn 0 [(0, .ref (ad 11 0)), (1, .int c), (2, .int a), (3, .int b)] [] ad (cX E ad I F lc ln) 0 0
  refine r_aload_n h.ok dX6_trouble_0 0 rfl ?_
  refine r_iconst (v := 0) h.ok dX6_trouble_1 (by decide) ?_
  refine r_put (ty := tyX6) h.ok 0 dX6_trouble_2 (xo_11 _) rfl inX6 tyX6_ok nmX6 (by decide) wfl_X6_97 rfl rfl rfl (by simp) (cX_thr ht) ?_
  refine r_aload_n h.ok dX6_trouble_5 0 rfl ?_
  refine r_iload_n h.ok dX6_trouble_6 1 rfl ?_
  refine r_callV h.ok [.int c] [] dX6_trouble_7 (c_X6_noCow D E ad I F lc ln c) wml_X6_159 wim_X6_noCow wse_X6_noCow win_X6 wco_X6_noCow yok_X6_noCow (xo_11 _) rfl rfl ⟨by decide, by decide, by simp [gRm], by simp [gRm]⟩ (Nat.le_of_ble_eq_true rfl) rfl ?_
  show Rn 10 [(0, .ref (ad 11 0)), (1, .int c), (2, .int a), (3, .int b)] [.int (pI (mNo I c))] ad (cX E ad I F lc ln) 0 0
  refine r_if_ne h.ok 25 dX6_trouble_10 (by decide) (fun c_10 => ?_) (fun c_10 => ?_)
  · refine r_iconst (v := (-1)) h.ok dX6_trouble_25 (by decide) ?_
    refine r_iret h dX6_trouble_26 ⟨by decide, by decide⟩ ⟨(by unfold mTrouble_r; simp only [if_neg c_10]), rfl, (by unfold mTrouble_I; simp only [if_neg c_10])⟩
  · refine r_iload_n h.ok dX6_trouble_13 2 rfl ?_
    refine r_i2l h.ok dX6_trouble_14 ?_
    refine r_lconst (v := Int32.toInt64 0) h.ok dX6_trouble_15 (by decide) ?_
    refine r_ldc2 (v' := Int32.toInt64 3) h.ok dX6_trouble_16 wk_X6_163 (by decide) ?_
    refine r_callS h.ok [.long (Int32.toInt64 a), .long (Int32.toInt64 0), .long (Int32.toInt64 3)] [] dX6_trouble_19 (c_X6_in D E ad I F lc ln a 0 3) wml_X6_103 wst_X6_in win_X6 wco_X6_in yok_X6_in ⟨by decide, by decide, by simp [gRm], by simp [gRm]⟩ (Nat.le_of_ble_eq_true rfl) rfl ?_
    show Rn 22 [(0, .ref (ad 11 0)), (1, .int c), (2, .int a), (3, .int b)] [.int (pI (mIn a 0 3))] ad (cX E ad I F lc ln) 0 0
    refine r_if_ne h.ok 27 dX6_trouble_22 (by decide) (fun c_22 => ?_) (fun c_22 => ?_)
    · refine r_iload_n h.ok dX6_trouble_27 3 rfl ?_
      refine r_i2l h.ok dX6_trouble_28 ?_
      refine r_lconst (v := Int32.toInt64 0) h.ok dX6_trouble_29 (by decide) ?_
      refine r_ldc2 (v' := Int32.toInt64 9) h.ok dX6_trouble_30 wk_X6_167 (by decide) ?_
      refine r_callS h.ok [.long (Int32.toInt64 b), .long (Int32.toInt64 0), .long (Int32.toInt64 9)] [] dX6_trouble_33 (c_X6_in D E ad I F lc ln b 0 9) wml_X6_103 wst_X6_in win_X6 wco_X6_in yok_X6_in ⟨by decide, by decide, by simp [gRm], by simp [gRm]⟩ (Nat.le_of_ble_eq_true rfl) rfl ?_
      show Rn 36 [(0, .ref (ad 11 0)), (1, .int c), (2, .int a), (3, .int b)] [.int (pI (mIn b 0 9))] ad (cX E ad I F lc ln) 0 0
      refine r_if_ne h.ok 42 dX6_trouble_36 (by decide) (fun c_36 => ?_) (fun c_36 => ?_)
      · refine r_aload_n h.ok dX6_trouble_42 0 rfl ?_
        refine r_get h.ok 12 dX6_trouble_43 (xo_11 _) rfl inX6 (by decide) wfl_X6_38 rfl ?_
        refine r_iconst (v := 4) h.ok dX6_trouble_46 (by decide) ?_
        refine r_iload_n h.ok dX6_trouble_47 1 rfl ?_
        refine r_imul h.ok dX6_trouble_48 ?_
        refine r_iload_n h.ok dX6_trouble_49 2 rfl ?_
        refine r_iadd h.ok dX6_trouble_50 ?_
        refine x_ialp (v := I 12 12 (((4 * c) + a).toNatClampNeg)) h.ok dX6_trouble_51 rfl (vp_teat (vp_mono (mNo_in hn h12 (pI_0.mp c_10)) h12) (pI_n0.mp c_22)).1 rfl ?_
        refine r_istore (lv' := [(4, .int (I 12 12 (((4 * c) + a).toNatClampNeg))), (0, .ref (ad 11 0)), (1, .int c), (2, .int a), (3, .int b)]) h.ok dX6_trouble_52 (by decide) rfl ?_
        refine r_aload_n h.ok dX6_trouble_54 1 rfl ?_
        refine r_get h.ok 12 dX6_trouble_55 (xo_11 _) rfl inX6 (by decide) wfl_X6_38 rfl ?_
        refine r_iconst (v := 4) h.ok dX6_trouble_58 (by decide) ?_
        refine r_iload_n h.ok dX6_trouble_59 2 rfl ?_
        refine r_imul h.ok dX6_trouble_60 ?_
        refine r_iload_n h.ok dX6_trouble_61 3 rfl ?_
        refine r_iadd h.ok dX6_trouble_62 ?_
        refine r_iload_n h.ok dX6_trouble_63 4 rfl ?_
        refine x_iasp h.ok dX6_trouble_64 (fun _ => rfl) (vp_teat (vp_mono (mNo_in hn h12 (pI_0.mp c_10)) h12) (pI_n0.mp c_22)).1 ?_
        refine r_iload h.ok dX6_trouble_65 0 rfl ?_
        refine r_iret h dX6_trouble_67 ⟨by decide, by decide⟩ ⟨(by unfold mTrouble_r; simp only [if_pos c_10, if_neg c_22, if_neg c_36]), rfl, (by unfold mTrouble_I; simp only [if_pos c_10, if_neg c_22, if_neg c_36])⟩
      · refine r_bipush (v := (-2)) h.ok dX6_trouble_39 (by decide) ?_
        refine r_iret h dX6_trouble_41 ⟨by decide, by decide⟩ ⟨(by unfold mTrouble_r; simp only [if_pos c_10, if_neg c_22, if_pos c_36]), rfl, (by unfold mTrouble_I; simp only [if_pos c_10, if_neg c_22, if_pos c_36])⟩
    · refine r_iconst (v := (-1)) h.ok dX6_trouble_25 (by decide) ?_
      refine r_iret h dX6_trouble_26 ⟨by decide, by decide⟩ ⟨(by unfold mTrouble_r; simp only [if_pos c_10, if_pos c_22]), rfl, (by unfold mTrouble_I; simp only [if_pos c_10, if_pos c_22])⟩
noncomputable def mQueue_r (I : gI) (F : gF) (a : Int32) : Int32 := (if (pI (mIn a 0 ((I 11 0 29) - 1))) = 0 then (-9) else I 12 19 ((I 12 30 a.toNatClampNeg).toNatClampNeg))
set_option maxHeartbeats 4000000 in
set_option maxRecDepth 100000 in
theorem c_X6_queue (D : va_G) (E : gEc) (ad : gAd) (I : gI) (F : gF) (lc ln : Nat) (a : Int32) (ht : I 11 0 0 = 0) (nv nw : Nat) (hw : I 11 0 29 = nI nw) (w12 : nw ≤ 12) (v500 : nv ≤ 500) (hq : ∀ j : Nat, j < nw → vp_in (I 12 30 j) nv) : gCon D E yX6_queue cX6_queue 2 (some .int) 1 0 0 [.ref (ad 11 0), .int a] ad (cX E ad I F lc ln) (gPd (some (.int (mQueue_r I F a))) ad (cX E ad I F lc ln)) := by
  refine gCon.of (by decide) (Nat.le_of_ble_eq_true rfl) ?_
  intro l A Rn h
  show Rn 0 [(0, .ref (ad 11 0)), (1, .int a)] [] ad (cX E ad I F lc ln) 0 0
  refine r_aload_n h.ok dX6_queue_0 0 rfl ?_
  refine r_iconst (v := 0) h.ok dX6_queue_1 (by decide) ?_
  refine r_put (ty := tyX6) h.ok 0 dX6_queue_2 (xo_11 _) rfl inX6 tyX6_ok nmX6 (by decide) wfl_X6_97 rfl rfl rfl (by simp) (cX_thr ht) ?_
  refine r_iload_n h.ok dX6_queue_5 1 rfl ?_
  refine r_i2l h.ok dX6_queue_6 ?_
  refine r_lconst (v := Int32.toInt64 0) h.ok dX6_queue_7 (by decide) ?_
  refine r_aload_n h.ok dX6_queue_8 0 rfl ?_
  refine r_get (v := .int (I 11 0 29)) h.ok 29 dX6_queue_9 (xo_11 _) rfl inX6 (by decide) wfl_X6_110 rfl ?_
  refine r_iconst (v := 1) h.ok dX6_queue_12 (by decide) ?_
  refine r_isub h.ok dX6_queue_13 ?_
  refine r_i2l h.ok dX6_queue_14 ?_
  refine r_callS h.ok [.long (Int32.toInt64 a), .long (Int32.toInt64 0), .long (Int32.toInt64 ((I 11 0 29) - 1))] [] dX6_queue_15 (c_X6_in D E ad I F lc ln a 0 ((I 11 0 29) - 1)) wml_X6_103 wst_X6_in win_X6 wco_X6_in yok_X6_in ⟨by decide, by decide, by simp [gRm], by simp [gRm]⟩ (Nat.le_of_ble_eq_true rfl) rfl ?_
  show Rn 18 [(0, .ref (ad 11 0)), (1, .int a)] [.int (pI (mIn a 0 ((I 11 0 29) - 1)))] ad (cX E ad I F lc ln) 0 0
  refine r_if_eq h.ok 35 dX6_queue_18 (by decide) (fun c_18 => ?_) (fun c_18 => ?_)
  · refine r_bipush (v := (-9)) h.ok dX6_queue_35 (by decide) ?_
    refine r_iret h dX6_queue_37 ⟨by decide, by decide⟩ ⟨(by unfold mQueue_r; simp only [if_pos c_18]), rfl, rfl⟩
  · refine r_aload_n h.ok dX6_queue_21 0 rfl ?_
    refine r_get h.ok 19 dX6_queue_22 (xo_11 _) rfl inX6 (by decide) wfl_X6_56 rfl ?_
    refine r_aload_n h.ok dX6_queue_25 0 rfl ?_
    refine r_get h.ok 30 dX6_queue_26 (xo_11 _) rfl inX6 (by decide) wfl_X6_87 rfl ?_
    refine r_iload_n h.ok dX6_queue_29 1 rfl ?_
    refine x_ialp (v := I 12 30 a.toNatClampNeg) h.ok dX6_queue_30 rfl (vp_mono (mIn_in hw (by omega) (pI_n0.mp c_18)) w12) rfl ?_
    refine x_ialp (v := I 12 19 ((I 12 30 a.toNatClampNeg).toNatClampNeg)) h.ok dX6_queue_31 rfl (vp_mono (hq _ (vp_lt (mIn_in hw (by omega) (pI_n0.mp c_18)))) v500) rfl ?_
    refine r_goto h.ok 37 dX6_queue_32 (by decide) ?_
    refine r_iret h dX6_queue_37 ⟨by decide, by decide⟩ ⟨(by unfold mQueue_r; simp only [if_neg c_18]), rfl, rfl⟩
noncomputable def mUntil_r (I : gI) (F : gF) (c a : Int32) : Int32 := (if (pI (mNo I c)) = 0 then (if (pI (mIn a 1 400)) = 0 then (-2) else (if (mBox I) = c then (-9) else (if 0 < (a - (I 12 9 c.toNatClampNeg)) then (if ((((60 * (a - (I 12 9 c.toNatClampNeg))) + (I 12 5 c.toNatClampNeg)) - 1) / (I 12 5 c.toNatClampNeg)) ≤ ((I 11 0 1) - (I 12 8 c.toNatClampNeg)) then 0 else ((((60 * (a - (I 12 9 c.toNatClampNeg))) + (I 12 5 c.toNatClampNeg)) - 1) / (I 12 5 c.toNatClampNeg)) - ((I 11 0 1) - (I 12 8 c.toNatClampNeg))) else (if 0 ≤ ((I 11 0 1) - (I 12 8 c.toNatClampNeg)) then 0 else 0 - ((I 11 0 1) - (I 12 8 c.toNatClampNeg)))))) else (-1))
set_option maxHeartbeats 4000000 in
set_option maxRecDepth 100000 in
theorem c_X6_until (D : va_G) (E : gEc) (ad : gAd) (I : gI) (F : gF) (lc ln : Nat) (c a : Int32) (ht : I 11 0 0 = 0) (nc : Nat) (hn : I 11 0 3 = nI nc) (h12 : nc ≤ 12) (hb : I 11 0 31 = -9 ∨ vp_in (I 11 0 31) 500) (hr : ∀ j : Nat, j < nc → ¬ I 12 5 j = 0) : gCon D E yX6_until cX6_until 6 (some .int) 2 0 0 [.ref (ad 11 0), .int c, .int a] ad (cX E ad I F lc ln) (gPd (some (.int (mUntil_r I F c a))) ad (cX E ad I F lc ln)) := by
  refine gCon.of (by decide) (Nat.le_of_ble_eq_true rfl) ?_
  intro l A Rn h
  show Rn 0 [(0, .ref (ad 11 0)), (1, .int c), (2, .int a)] [] ad (cX E ad I F lc ln) 0 0
  refine r_aload_n h.ok dX6_until_0 0 rfl ?_
  refine r_iconst (v := 0) h.ok dX6_until_1 (by decide) ?_
  refine r_put (ty := tyX6) h.ok 0 dX6_until_2 (xo_11 _) rfl inX6 tyX6_ok nmX6 (by decide) wfl_X6_97 rfl rfl rfl (by simp) (cX_thr ht) ?_
  refine r_aload_n h.ok dX6_until_5 0 rfl ?_
  refine r_iload_n h.ok dX6_until_6 1 rfl ?_
  refine r_callV h.ok [.int c] [] dX6_until_7 (c_X6_noCow D E ad I F lc ln c) wml_X6_159 wim_X6_noCow wse_X6_noCow win_X6 wco_X6_noCow yok_X6_noCow (xo_11 _) rfl rfl ⟨by decide, by decide, by simp [gRm], by simp [gRm]⟩ (Nat.le_of_ble_eq_true rfl) rfl ?_
  show Rn 10 [(0, .ref (ad 11 0)), (1, .int c), (2, .int a)] [.int (pI (mNo I c))] ad (cX E ad I F lc ln) 0 0
  refine r_if_eq h.ok 15 dX6_until_10 (by decide) (fun c_10 => ?_) (fun c_10 => ?_)
  · refine r_iload_n h.ok dX6_until_15 2 rfl ?_
    refine r_i2l h.ok dX6_until_16 ?_
    refine r_lconst (v := Int32.toInt64 1) h.ok dX6_until_17 (by decide) ?_
    refine r_ldc2 (v' := Int32.toInt64 400) h.ok dX6_until_18 wk_X6_204 (by decide) ?_
    refine r_callS h.ok [.long (Int32.toInt64 a), .long (Int32.toInt64 1), .long (Int32.toInt64 400)] [] dX6_until_21 (c_X6_in D E ad I F lc ln a 1 400) wml_X6_103 wst_X6_in win_X6 wco_X6_in yok_X6_in ⟨by decide, by decide, by simp [gRm], by simp [gRm]⟩ (Nat.le_of_ble_eq_true rfl) rfl ?_
    show Rn 24 [(0, .ref (ad 11 0)), (1, .int c), (2, .int a)] [.int (pI (mIn a 1 400))] ad (cX E ad I F lc ln) 0 0
    refine r_if_ne h.ok 30 dX6_until_24 (by decide) (fun c_24 => ?_) (fun c_24 => ?_)
    · refine r_aload_n h.ok dX6_until_30 0 rfl ?_
      refine r_callV h.ok [] [] dX6_until_31 (c_X6_cowInBox D E ad I F lc ln hb) wml_X6_189 wim_X6_cowInBox wse_X6_cowInBox win_X6 wco_X6_cowInBox yok_X6_cowInBox (xo_11 _) rfl rfl ⟨by decide, by decide, by simp [gRm], by simp [gRm]⟩ (Nat.le_of_ble_eq_true rfl) rfl ?_
      show Rn 34 [(0, .ref (ad 11 0)), (1, .int c), (2, .int a)] [.int (mBox I)] ad (cX E ad I F lc ln) 0 0
      refine r_iload_n h.ok dX6_until_34 1 rfl ?_
      refine r_icmp_ne h.ok 41 dX6_until_35 (by decide) (fun c_35 => ?_) (fun c_35 => ?_)
      · refine r_iload_n h.ok dX6_until_41 2 rfl ?_
        refine r_aload_n h.ok dX6_until_42 0 rfl ?_
        refine r_get h.ok 9 dX6_until_43 (xo_11 _) rfl inX6 (by decide) wfl_X6_29 rfl ?_
        refine r_iload_n h.ok dX6_until_46 1 rfl ?_
        refine x_ialp (v := I 12 9 c.toNatClampNeg) h.ok dX6_until_47 rfl (vp_mono (mNo_in hn h12 (pI_0.mp c_10)) h12) rfl ?_
        refine r_isub h.ok dX6_until_48 ?_
        refine r_istore_n (lv' := [(3, .int (a - (I 12 9 c.toNatClampNeg))), (0, .ref (ad 11 0)), (1, .int c), (2, .int a)]) h.ok dX6_until_49 (by decide) rfl ?_
        refine r_iload_n h.ok dX6_until_50 0 rfl ?_
        refine r_if_gt h.ok 58 dX6_until_51 (by decide) (fun c_51 => ?_) (fun c_51 => ?_)
        · refine r_bipush (v := 60) h.ok dX6_until_58 (by decide) ?_
          refine r_iload_n h.ok dX6_until_60 0 rfl ?_
          refine r_imul h.ok dX6_until_61 ?_
          refine r_aload_n h.ok dX6_until_62 1 rfl ?_
          refine r_get h.ok 5 dX6_until_63 (xo_11 _) rfl inX6 (by decide) wfl_X6_17 rfl ?_
          refine r_iload_n h.ok dX6_until_66 2 rfl ?_
          refine x_ialp (v := I 12 5 c.toNatClampNeg) h.ok dX6_until_67 rfl (vp_mono (mNo_in hn h12 (pI_0.mp c_10)) h12) rfl ?_
          refine r_iadd h.ok dX6_until_68 ?_
          refine r_iconst (v := 1) h.ok dX6_until_69 (by decide) ?_
          refine r_isub h.ok dX6_until_70 ?_
          refine r_aload_n h.ok dX6_until_71 1 rfl ?_
          refine r_get h.ok 5 dX6_until_72 (xo_11 _) rfl inX6 (by decide) wfl_X6_17 rfl ?_
          refine r_iload_n h.ok dX6_until_75 2 rfl ?_
          refine x_ialp (v := I 12 5 c.toNatClampNeg) h.ok dX6_until_76 rfl (vp_mono (mNo_in hn h12 (pI_0.mp c_10)) h12) rfl ?_
          refine r_idiv h.ok dX6_until_77 (hr _ (vp_lt (mNo_in hn h12 (pI_0.mp c_10)))) ?_
          refine r_istore (lv' := [(4, .int ((((60 * (a - (I 12 9 c.toNatClampNeg))) + (I 12 5 c.toNatClampNeg)) - 1) / (I 12 5 c.toNatClampNeg))), (3, .int (a - (I 12 9 c.toNatClampNeg))), (0, .ref (ad 11 0)), (1, .int c), (2, .int a)]) h.ok dX6_until_78 (by decide) rfl ?_
          refine r_aload_n h.ok dX6_until_80 2 rfl ?_
          refine r_get (v := .int (I 11 0 1)) h.ok 1 dX6_until_81 (xo_11 _) rfl inX6 (by decide) wfl_X6_107 rfl ?_
          refine r_aload_n h.ok dX6_until_84 2 rfl ?_
          refine r_get h.ok 8 dX6_until_85 (xo_11 _) rfl inX6 (by decide) wfl_X6_26 rfl ?_
          refine r_iload_n h.ok dX6_until_88 3 rfl ?_
          refine x_ialp (v := I 12 8 c.toNatClampNeg) h.ok dX6_until_89 rfl (vp_mono (mNo_in hn h12 (pI_0.mp c_10)) h12) rfl ?_
          refine r_isub h.ok dX6_until_90 ?_
          refine r_istore (lv' := [(5, .int ((I 11 0 1) - (I 12 8 c.toNatClampNeg))), (4, .int ((((60 * (a - (I 12 9 c.toNatClampNeg))) + (I 12 5 c.toNatClampNeg)) - 1) / (I 12 5 c.toNatClampNeg))), (3, .int (a - (I 12 9 c.toNatClampNeg))), (0, .ref (ad 11 0)), (1, .int c), (2, .int a)]) h.ok dX6_until_91 (by decide) rfl ?_
          refine r_iload h.ok dX6_until_93 1 rfl ?_
          refine r_iload h.ok dX6_until_95 0 rfl ?_
          refine r_icmp_le h.ok 108 dX6_until_97 (by decide) (fun c_97 => ?_) (fun c_97 => ?_)
          · refine r_iconst (v := 0) h.ok dX6_until_108 (by decide) ?_
            refine r_iret h dX6_until_109 ⟨by decide, by decide⟩ ⟨(by unfold mUntil_r; simp only [if_pos c_10, if_neg c_24, if_neg c_35, if_pos c_51, if_pos c_97]), rfl, rfl⟩
          · refine r_iload h.ok dX6_until_100 1 rfl ?_
            refine r_iload h.ok dX6_until_102 0 rfl ?_
            refine r_isub h.ok dX6_until_104 ?_
            refine r_goto h.ok 109 dX6_until_105 (by decide) ?_
            refine r_iret h dX6_until_109 ⟨by decide, by decide⟩ ⟨(by unfold mUntil_r; simp only [if_pos c_10, if_neg c_24, if_neg c_35, if_pos c_51, if_neg c_97]), rfl, rfl⟩
        · refine r_iconst (v := 0) h.ok dX6_until_54 (by decide) ?_
          refine r_goto h.ok 78 dX6_until_55 (by decide) ?_
          refine r_istore (lv' := [(4, .int 0), (3, .int (a - (I 12 9 c.toNatClampNeg))), (0, .ref (ad 11 0)), (1, .int c), (2, .int a)]) h.ok dX6_until_78 (by decide) rfl ?_
          refine r_aload_n h.ok dX6_until_80 2 rfl ?_
          refine r_get (v := .int (I 11 0 1)) h.ok 1 dX6_until_81 (xo_11 _) rfl inX6 (by decide) wfl_X6_107 rfl ?_
          refine r_aload_n h.ok dX6_until_84 2 rfl ?_
          refine r_get h.ok 8 dX6_until_85 (xo_11 _) rfl inX6 (by decide) wfl_X6_26 rfl ?_
          refine r_iload_n h.ok dX6_until_88 3 rfl ?_
          refine x_ialp (v := I 12 8 c.toNatClampNeg) h.ok dX6_until_89 rfl (vp_mono (mNo_in hn h12 (pI_0.mp c_10)) h12) rfl ?_
          refine r_isub h.ok dX6_until_90 ?_
          refine r_istore (lv' := [(5, .int ((I 11 0 1) - (I 12 8 c.toNatClampNeg))), (4, .int 0), (3, .int (a - (I 12 9 c.toNatClampNeg))), (0, .ref (ad 11 0)), (1, .int c), (2, .int a)]) h.ok dX6_until_91 (by decide) rfl ?_
          refine r_iload h.ok dX6_until_93 1 rfl ?_
          refine r_iload h.ok dX6_until_95 0 rfl ?_
          refine r_icmp_le h.ok 108 dX6_until_97 (by decide) (fun c_97 => ?_) (fun c_97 => ?_)
          · refine r_iconst (v := 0) h.ok dX6_until_108 (by decide) ?_
            refine r_iret h dX6_until_109 ⟨by decide, by decide⟩ ⟨(by unfold mUntil_r; simp only [if_pos c_10, if_neg c_24, if_neg c_35, if_neg c_51, if_pos c_97]), rfl, rfl⟩
          · refine r_iload h.ok dX6_until_100 1 rfl ?_
            refine r_iload h.ok dX6_until_102 0 rfl ?_
            refine r_isub h.ok dX6_until_104 ?_
            refine r_goto h.ok 109 dX6_until_105 (by decide) ?_
            refine r_iret h dX6_until_109 ⟨by decide, by decide⟩ ⟨(by unfold mUntil_r; simp only [if_pos c_10, if_neg c_24, if_neg c_35, if_neg c_51, if_neg c_97]), rfl, rfl⟩
      · refine r_bipush (v := (-9)) h.ok dX6_until_38 (by decide) ?_
        refine r_iret h dX6_until_40 ⟨by decide, by decide⟩ ⟨(by unfold mUntil_r; simp only [if_pos c_10, if_neg c_24, if_pos c_35]), rfl, rfl⟩
    · refine r_bipush (v := (-2)) h.ok dX6_until_27 (by decide) ?_
      refine r_iret h dX6_until_29 ⟨by decide, by decide⟩ ⟨(by unfold mUntil_r; simp only [if_pos c_10, if_pos c_24]), rfl, rfl⟩
  · refine r_iconst (v := (-1)) h.ok dX6_until_13 (by decide) ?_
    refine r_iret h dX6_until_14 ⟨by decide, by decide⟩ ⟨(by unfold mUntil_r; simp only [if_neg c_10]), rfl, rfl⟩
noncomputable def mVisit_r (I : gI) (F : gF) (a b c : Int32) : Int32 := (if (pI (mIn a 0 ((I 11 0 17) - 1))) = 0 then (-1) else (if (pI (mIn b 0 3)) = 0 then (-2) else (if (pI (mIn c 0 10)) = 0 then (-2) else (if 3 ≤ b then (if c = 0 then I 12 18 a.toNatClampNeg else (if c = 1 then I 12 19 a.toNatClampNeg else (if c = 2 then I 12 20 a.toNatClampNeg else (if c = 3 then I 12 21 a.toNatClampNeg else (if c = 4 then (if (I 12 22 a.toNatClampNeg) = 0 then 0 else 1) else (if c = 5 then I 12 23 a.toNatClampNeg else (if c = 6 then I 12 24 a.toNatClampNeg else (if c = 7 then I 12 25 a.toNatClampNeg else (if c = 8 then I 12 26 a.toNatClampNeg else (if c = 9 then I 12 27 a.toNatClampNeg else I 12 28 a.toNatClampNeg)))))))))) else (if (I 12 18 a.toNatClampNeg) = b then (if c = 0 then I 12 18 a.toNatClampNeg else (if c = 1 then I 12 19 a.toNatClampNeg else (if c = 2 then I 12 20 a.toNatClampNeg else (if c = 3 then I 12 21 a.toNatClampNeg else (if c = 4 then (if (I 12 22 a.toNatClampNeg) = 0 then 0 else 1) else (if c = 5 then I 12 23 a.toNatClampNeg else (if c = 6 then I 12 24 a.toNatClampNeg else (if c = 7 then I 12 25 a.toNatClampNeg else (if c = 8 then I 12 26 a.toNatClampNeg else (if c = 9 then I 12 27 a.toNatClampNeg else I 12 28 a.toNatClampNeg)))))))))) else (if b = 1 then (if (I 12 18 a.toNatClampNeg) = 2 then (if c = 0 then I 12 18 a.toNatClampNeg else (if c = 1 then I 12 19 a.toNatClampNeg else (if c = 2 then I 12 20 a.toNatClampNeg else (if c = 3 then I 12 21 a.toNatClampNeg else (if c = 4 then (if (I 12 22 a.toNatClampNeg) = 0 then 0 else 1) else (if c = 5 then I 12 23 a.toNatClampNeg else (if c = 6 then I 12 24 a.toNatClampNeg else (if c = 7 then I 12 25 a.toNatClampNeg else (if c = 8 then I 12 26 a.toNatClampNeg else (if c = 9 then I 12 27 a.toNatClampNeg else I 12 28 a.toNatClampNeg)))))))))) else (-13)) else (-13)))))))
set_option maxHeartbeats 4000000 in
set_option maxRecDepth 100000 in
theorem c_X6_visit (D : va_G) (E : gEc) (ad : gAd) (I : gI) (F : gF) (lc ln : Nat) (a b c : Int32) (ht : I 11 0 0 = 0) (nv : Nat) (hv : I 11 0 17 = nI nv) (v500 : nv ≤ 500) : gCon D E yX6_visit cX6_visit 4 (some .int) 1 0 0 [.ref (ad 11 0), .int a, .int b, .int c] ad (cX E ad I F lc ln) (gPd (some (.int (mVisit_r I F a b c))) ad (cX E ad I F lc ln)) := by
  refine gCon.of (by decide) (Nat.le_of_ble_eq_true rfl) ?_
  intro l A Rn h
  show Rn 0 [(0, .ref (ad 11 0)), (1, .int a), (2, .int b), (3, .int c)] [] ad (cX E ad I F lc ln) 0 0
  refine r_aload_n h.ok dX6_visit_0 0 rfl ?_
  refine r_iconst (v := 0) h.ok dX6_visit_1 (by decide) ?_
  refine r_put (ty := tyX6) h.ok 0 dX6_visit_2 (xo_11 _) rfl inX6 tyX6_ok nmX6 (by decide) wfl_X6_97 rfl rfl rfl (by simp) (cX_thr ht) ?_
  refine r_iload_n h.ok dX6_visit_5 1 rfl ?_
  refine r_i2l h.ok dX6_visit_6 ?_
  refine r_lconst (v := Int32.toInt64 0) h.ok dX6_visit_7 (by decide) ?_
  refine r_aload_n h.ok dX6_visit_8 0 rfl ?_
  refine r_get (v := .int (I 11 0 17)) h.ok 17 dX6_visit_9 (xo_11 _) rfl inX6 (by decide) wfl_X6_184 rfl ?_
  refine r_iconst (v := 1) h.ok dX6_visit_12 (by decide) ?_
  refine r_isub h.ok dX6_visit_13 ?_
  refine r_i2l h.ok dX6_visit_14 ?_
  refine r_callS h.ok [.long (Int32.toInt64 a), .long (Int32.toInt64 0), .long (Int32.toInt64 ((I 11 0 17) - 1))] [] dX6_visit_15 (c_X6_in D E ad I F lc ln a 0 ((I 11 0 17) - 1)) wml_X6_103 wst_X6_in win_X6 wco_X6_in yok_X6_in ⟨by decide, by decide, by simp [gRm], by simp [gRm]⟩ (Nat.le_of_ble_eq_true rfl) rfl ?_
  show Rn 18 [(0, .ref (ad 11 0)), (1, .int a), (2, .int b), (3, .int c)] [.int (pI (mIn a 0 ((I 11 0 17) - 1)))] ad (cX E ad I F lc ln) 0 0
  refine r_if_ne h.ok 23 dX6_visit_18 (by decide) (fun c_18 => ?_) (fun c_18 => ?_)
  · refine r_iload_n h.ok dX6_visit_23 2 rfl ?_
    refine r_i2l h.ok dX6_visit_24 ?_
    refine r_lconst (v := Int32.toInt64 0) h.ok dX6_visit_25 (by decide) ?_
    refine r_ldc2 (v' := Int32.toInt64 3) h.ok dX6_visit_26 wk_X6_163 (by decide) ?_
    refine r_callS h.ok [.long (Int32.toInt64 b), .long (Int32.toInt64 0), .long (Int32.toInt64 3)] [] dX6_visit_29 (c_X6_in D E ad I F lc ln b 0 3) wml_X6_103 wst_X6_in win_X6 wco_X6_in yok_X6_in ⟨by decide, by decide, by simp [gRm], by simp [gRm]⟩ (Nat.le_of_ble_eq_true rfl) rfl ?_
    show Rn 32 [(0, .ref (ad 11 0)), (1, .int a), (2, .int b), (3, .int c)] [.int (pI (mIn b 0 3))] ad (cX E ad I F lc ln) 0 0
    refine r_if_eq h.ok 47 dX6_visit_32 (by decide) (fun c_32 => ?_) (fun c_32 => ?_)
    · refine r_bipush (v := (-2)) h.ok dX6_visit_47 (by decide) ?_
      refine r_iret h dX6_visit_49 ⟨by decide, by decide⟩ ⟨(by unfold mVisit_r; simp only [if_neg c_18, if_pos c_32]), rfl, rfl⟩
    · refine r_iload_n h.ok dX6_visit_35 3 rfl ?_
      refine r_i2l h.ok dX6_visit_36 ?_
      refine r_lconst (v := Int32.toInt64 0) h.ok dX6_visit_37 (by decide) ?_
      refine r_ldc2 (v' := Int32.toInt64 10) h.ok dX6_visit_38 wk_X6_202 (by decide) ?_
      refine r_callS h.ok [.long (Int32.toInt64 c), .long (Int32.toInt64 0), .long (Int32.toInt64 10)] [] dX6_visit_41 (c_X6_in D E ad I F lc ln c 0 10) wml_X6_103 wst_X6_in win_X6 wco_X6_in yok_X6_in ⟨by decide, by decide, by simp [gRm], by simp [gRm]⟩ (Nat.le_of_ble_eq_true rfl) rfl ?_
      show Rn 44 [(0, .ref (ad 11 0)), (1, .int a), (2, .int b), (3, .int c)] [.int (pI (mIn c 0 10))] ad (cX E ad I F lc ln) 0 0
      refine r_if_ne h.ok 50 dX6_visit_44 (by decide) (fun c_44 => ?_) (fun c_44 => ?_)
      · refine r_iload_n h.ok dX6_visit_50 2 rfl ?_
        refine r_iconst (v := 3) h.ok dX6_visit_51 (by decide) ?_
        refine r_icmp_ge h.ok 83 dX6_visit_52 (by decide) (fun c_52 => ?_) (fun c_52 => ?_)
        · refine r_iload_n h.ok dX6_visit_83 3 rfl ?_
          by_cases s_0 : c = 0
          · refine r_tableIn (off := 56) h.ok 140 dX6_visit_84 (by rw [s_0]; decide) (by rw [s_0]; decide) (by rw [s_0]; rfl) (by decide) ?_
            refine r_aload_n h.ok dX6_visit_140 0 rfl ?_
            refine r_get h.ok 18 dX6_visit_141 (xo_11 _) rfl inX6 (by decide) wfl_X6_53 rfl ?_
            refine r_iload_n h.ok dX6_visit_144 1 rfl ?_
            refine x_ialp (v := I 12 18 a.toNatClampNeg) h.ok dX6_visit_145 rfl (vp_mono (mIn_in hv (by omega) (pI_n0.mp c_18)) v500) rfl ?_
            refine r_iret h dX6_visit_146 ⟨by decide, by decide⟩ ⟨(by unfold mVisit_r; simp only [if_neg c_18, if_neg c_32, if_neg c_44, if_pos c_52, if_pos s_0]), rfl, rfl⟩
          by_cases s_1 : c = 1
          · refine r_tableIn (off := 63) h.ok 147 dX6_visit_84 (by rw [s_1]; decide) (by rw [s_1]; decide) (by rw [s_1]; rfl) (by decide) ?_
            refine r_aload_n h.ok dX6_visit_147 0 rfl ?_
            refine r_get h.ok 19 dX6_visit_148 (xo_11 _) rfl inX6 (by decide) wfl_X6_56 rfl ?_
            refine r_iload_n h.ok dX6_visit_151 1 rfl ?_
            refine x_ialp (v := I 12 19 a.toNatClampNeg) h.ok dX6_visit_152 rfl (vp_mono (mIn_in hv (by omega) (pI_n0.mp c_18)) v500) rfl ?_
            refine r_iret h dX6_visit_153 ⟨by decide, by decide⟩ ⟨(by unfold mVisit_r; simp only [if_neg c_18, if_neg c_32, if_neg c_44, if_pos c_52, if_neg s_0, if_pos s_1]), rfl, rfl⟩
          by_cases s_2 : c = 2
          · refine r_tableIn (off := 70) h.ok 154 dX6_visit_84 (by rw [s_2]; decide) (by rw [s_2]; decide) (by rw [s_2]; rfl) (by decide) ?_
            refine r_aload_n h.ok dX6_visit_154 0 rfl ?_
            refine r_get h.ok 20 dX6_visit_155 (xo_11 _) rfl inX6 (by decide) wfl_X6_59 rfl ?_
            refine r_iload_n h.ok dX6_visit_158 1 rfl ?_
            refine x_ialp (v := I 12 20 a.toNatClampNeg) h.ok dX6_visit_159 rfl (vp_mono (mIn_in hv (by omega) (pI_n0.mp c_18)) v500) rfl ?_
            refine r_iret h dX6_visit_160 ⟨by decide, by decide⟩ ⟨(by unfold mVisit_r; simp only [if_neg c_18, if_neg c_32, if_neg c_44, if_pos c_52, if_neg s_0, if_neg s_1, if_pos s_2]), rfl, rfl⟩
          by_cases s_3 : c = 3
          · refine r_tableIn (off := 77) h.ok 161 dX6_visit_84 (by rw [s_3]; decide) (by rw [s_3]; decide) (by rw [s_3]; rfl) (by decide) ?_
            refine r_aload_n h.ok dX6_visit_161 0 rfl ?_
            refine r_get h.ok 21 dX6_visit_162 (xo_11 _) rfl inX6 (by decide) wfl_X6_62 rfl ?_
            refine r_iload_n h.ok dX6_visit_165 1 rfl ?_
            refine x_ialp (v := I 12 21 a.toNatClampNeg) h.ok dX6_visit_166 rfl (vp_mono (mIn_in hv (by omega) (pI_n0.mp c_18)) v500) rfl ?_
            refine r_iret h dX6_visit_167 ⟨by decide, by decide⟩ ⟨(by unfold mVisit_r; simp only [if_neg c_18, if_neg c_32, if_neg c_44, if_pos c_52, if_neg s_0, if_neg s_1, if_neg s_2, if_pos s_3]), rfl, rfl⟩
          by_cases s_4 : c = 4
          · refine r_tableIn (off := 84) h.ok 168 dX6_visit_84 (by rw [s_4]; decide) (by rw [s_4]; decide) (by rw [s_4]; rfl) (by decide) ?_
            refine r_aload_n h.ok dX6_visit_168 0 rfl ?_
            refine r_get h.ok 22 dX6_visit_169 (xo_11 _) rfl inX6 (by decide) wfl_X6_65 rfl ?_
            refine r_iload_n h.ok dX6_visit_172 1 rfl ?_
            refine x_zalp (v := I 12 22 a.toNatClampNeg) h.ok dX6_visit_173 rfl (vp_mono (mIn_in hv (by omega) (pI_n0.mp c_18)) v500) rfl ?_
            refine r_if_eq h.ok 181 dX6_visit_174 (by decide) (fun c_174 => ?_) (fun c_174 => ?_)
            · refine r_iconst (v := 0) h.ok dX6_visit_181 (by decide) ?_
              refine r_iret h dX6_visit_182 ⟨by decide, by decide⟩ ⟨(by unfold mVisit_r; simp only [if_neg c_18, if_neg c_32, if_neg c_44, if_pos c_52, if_neg s_0, if_neg s_1, if_neg s_2, if_neg s_3, if_pos s_4, if_pos c_174]), rfl, rfl⟩
            · refine r_iconst (v := 1) h.ok dX6_visit_177 (by decide) ?_
              refine r_goto h.ok 182 dX6_visit_178 (by decide) ?_
              refine r_iret h dX6_visit_182 ⟨by decide, by decide⟩ ⟨(by unfold mVisit_r; simp only [if_neg c_18, if_neg c_32, if_neg c_44, if_pos c_52, if_neg s_0, if_neg s_1, if_neg s_2, if_neg s_3, if_pos s_4, if_neg c_174]), rfl, rfl⟩
          by_cases s_5 : c = 5
          · refine r_tableIn (off := 99) h.ok 183 dX6_visit_84 (by rw [s_5]; decide) (by rw [s_5]; decide) (by rw [s_5]; rfl) (by decide) ?_
            refine r_aload_n h.ok dX6_visit_183 0 rfl ?_
            refine r_get h.ok 23 dX6_visit_184 (xo_11 _) rfl inX6 (by decide) wfl_X6_69 rfl ?_
            refine r_iload_n h.ok dX6_visit_187 1 rfl ?_
            refine x_ialp (v := I 12 23 a.toNatClampNeg) h.ok dX6_visit_188 rfl (vp_mono (mIn_in hv (by omega) (pI_n0.mp c_18)) v500) rfl ?_
            refine r_iret h dX6_visit_189 ⟨by decide, by decide⟩ ⟨(by unfold mVisit_r; simp only [if_neg c_18, if_neg c_32, if_neg c_44, if_pos c_52, if_neg s_0, if_neg s_1, if_neg s_2, if_neg s_3, if_neg s_4, if_pos s_5]), rfl, rfl⟩
          by_cases s_6 : c = 6
          · refine r_tableIn (off := 106) h.ok 190 dX6_visit_84 (by rw [s_6]; decide) (by rw [s_6]; decide) (by rw [s_6]; rfl) (by decide) ?_
            refine r_aload_n h.ok dX6_visit_190 0 rfl ?_
            refine r_get h.ok 24 dX6_visit_191 (xo_11 _) rfl inX6 (by decide) wfl_X6_72 rfl ?_
            refine r_iload_n h.ok dX6_visit_194 1 rfl ?_
            refine x_ialp (v := I 12 24 a.toNatClampNeg) h.ok dX6_visit_195 rfl (vp_mono (mIn_in hv (by omega) (pI_n0.mp c_18)) v500) rfl ?_
            refine r_iret h dX6_visit_196 ⟨by decide, by decide⟩ ⟨(by unfold mVisit_r; simp only [if_neg c_18, if_neg c_32, if_neg c_44, if_pos c_52, if_neg s_0, if_neg s_1, if_neg s_2, if_neg s_3, if_neg s_4, if_neg s_5, if_pos s_6]), rfl, rfl⟩
          by_cases s_7 : c = 7
          · refine r_tableIn (off := 113) h.ok 197 dX6_visit_84 (by rw [s_7]; decide) (by rw [s_7]; decide) (by rw [s_7]; rfl) (by decide) ?_
            refine r_aload_n h.ok dX6_visit_197 0 rfl ?_
            refine r_get h.ok 25 dX6_visit_198 (xo_11 _) rfl inX6 (by decide) wfl_X6_75 rfl ?_
            refine r_iload_n h.ok dX6_visit_201 1 rfl ?_
            refine x_ialp (v := I 12 25 a.toNatClampNeg) h.ok dX6_visit_202 rfl (vp_mono (mIn_in hv (by omega) (pI_n0.mp c_18)) v500) rfl ?_
            refine r_iret h dX6_visit_203 ⟨by decide, by decide⟩ ⟨(by unfold mVisit_r; simp only [if_neg c_18, if_neg c_32, if_neg c_44, if_pos c_52, if_neg s_0, if_neg s_1, if_neg s_2, if_neg s_3, if_neg s_4, if_neg s_5, if_neg s_6, if_pos s_7]), rfl, rfl⟩
          by_cases s_8 : c = 8
          · refine r_tableIn (off := 120) h.ok 204 dX6_visit_84 (by rw [s_8]; decide) (by rw [s_8]; decide) (by rw [s_8]; rfl) (by decide) ?_
            refine r_aload_n h.ok dX6_visit_204 0 rfl ?_
            refine r_get h.ok 26 dX6_visit_205 (xo_11 _) rfl inX6 (by decide) wfl_X6_78 rfl ?_
            refine r_iload_n h.ok dX6_visit_208 1 rfl ?_
            refine x_ialp (v := I 12 26 a.toNatClampNeg) h.ok dX6_visit_209 rfl (vp_mono (mIn_in hv (by omega) (pI_n0.mp c_18)) v500) rfl ?_
            refine r_iret h dX6_visit_210 ⟨by decide, by decide⟩ ⟨(by unfold mVisit_r; simp only [if_neg c_18, if_neg c_32, if_neg c_44, if_pos c_52, if_neg s_0, if_neg s_1, if_neg s_2, if_neg s_3, if_neg s_4, if_neg s_5, if_neg s_6, if_neg s_7, if_pos s_8]), rfl, rfl⟩
          by_cases s_9 : c = 9
          · refine r_tableIn (off := 127) h.ok 211 dX6_visit_84 (by rw [s_9]; decide) (by rw [s_9]; decide) (by rw [s_9]; rfl) (by decide) ?_
            refine r_aload_n h.ok dX6_visit_211 0 rfl ?_
            refine r_get h.ok 27 dX6_visit_212 (xo_11 _) rfl inX6 (by decide) wfl_X6_81 rfl ?_
            refine r_iload_n h.ok dX6_visit_215 1 rfl ?_
            refine x_ialp (v := I 12 27 a.toNatClampNeg) h.ok dX6_visit_216 rfl (vp_mono (mIn_in hv (by omega) (pI_n0.mp c_18)) v500) rfl ?_
            refine r_iret h dX6_visit_217 ⟨by decide, by decide⟩ ⟨(by unfold mVisit_r; simp only [if_neg c_18, if_neg c_32, if_neg c_44, if_pos c_52, if_neg s_0, if_neg s_1, if_neg s_2, if_neg s_3, if_neg s_4, if_neg s_5, if_neg s_6, if_neg s_7, if_neg s_8, if_pos s_9]), rfl, rfl⟩
          refine r_tableOut h.ok 218 dX6_visit_84 (gOut9 s_0 s_1 s_2 s_3 s_4 s_5 s_6 s_7 s_8 s_9) (by decide) ?_
          refine r_aload_n h.ok dX6_visit_218 0 rfl ?_
          refine r_get h.ok 28 dX6_visit_219 (xo_11 _) rfl inX6 (by decide) wfl_X6_84 rfl ?_
          refine r_iload_n h.ok dX6_visit_222 1 rfl ?_
          refine x_ialp (v := I 12 28 a.toNatClampNeg) h.ok dX6_visit_223 rfl (vp_mono (mIn_in hv (by omega) (pI_n0.mp c_18)) v500) rfl ?_
          refine r_iret h dX6_visit_224 ⟨by decide, by decide⟩ ⟨(by unfold mVisit_r; simp only [if_neg c_18, if_neg c_32, if_neg c_44, if_pos c_52, if_neg s_0, if_neg s_1, if_neg s_2, if_neg s_3, if_neg s_4, if_neg s_5, if_neg s_6, if_neg s_7, if_neg s_8, if_neg s_9]), rfl, rfl⟩
        · refine r_aload_n h.ok dX6_visit_55 0 rfl ?_
          refine r_get h.ok 18 dX6_visit_56 (xo_11 _) rfl inX6 (by decide) wfl_X6_53 rfl ?_
          refine r_iload_n h.ok dX6_visit_59 1 rfl ?_
          refine x_ialp (v := I 12 18 a.toNatClampNeg) h.ok dX6_visit_60 rfl (vp_mono (mIn_in hv (by omega) (pI_n0.mp c_18)) v500) rfl ?_
          refine r_iload_n h.ok dX6_visit_61 2 rfl ?_
          refine r_icmp_eq h.ok 83 dX6_visit_62 (by decide) (fun c_62 => ?_) (fun c_62 => ?_)
          · refine r_iload_n h.ok dX6_visit_83 3 rfl ?_
            by_cases s_0 : c = 0
            · refine r_tableIn (off := 56) h.ok 140 dX6_visit_84 (by rw [s_0]; decide) (by rw [s_0]; decide) (by rw [s_0]; rfl) (by decide) ?_
              refine r_aload_n h.ok dX6_visit_140 0 rfl ?_
              refine r_get h.ok 18 dX6_visit_141 (xo_11 _) rfl inX6 (by decide) wfl_X6_53 rfl ?_
              refine r_iload_n h.ok dX6_visit_144 1 rfl ?_
              refine x_ialp (v := I 12 18 a.toNatClampNeg) h.ok dX6_visit_145 rfl (vp_mono (mIn_in hv (by omega) (pI_n0.mp c_18)) v500) rfl ?_
              refine r_iret h dX6_visit_146 ⟨by decide, by decide⟩ ⟨(by unfold mVisit_r; simp only [if_neg c_18, if_neg c_32, if_neg c_44, if_neg c_52, if_pos c_62, if_pos s_0]), rfl, rfl⟩
            by_cases s_1 : c = 1
            · refine r_tableIn (off := 63) h.ok 147 dX6_visit_84 (by rw [s_1]; decide) (by rw [s_1]; decide) (by rw [s_1]; rfl) (by decide) ?_
              refine r_aload_n h.ok dX6_visit_147 0 rfl ?_
              refine r_get h.ok 19 dX6_visit_148 (xo_11 _) rfl inX6 (by decide) wfl_X6_56 rfl ?_
              refine r_iload_n h.ok dX6_visit_151 1 rfl ?_
              refine x_ialp (v := I 12 19 a.toNatClampNeg) h.ok dX6_visit_152 rfl (vp_mono (mIn_in hv (by omega) (pI_n0.mp c_18)) v500) rfl ?_
              refine r_iret h dX6_visit_153 ⟨by decide, by decide⟩ ⟨(by unfold mVisit_r; simp only [if_neg c_18, if_neg c_32, if_neg c_44, if_neg c_52, if_pos c_62, if_neg s_0, if_pos s_1]), rfl, rfl⟩
            by_cases s_2 : c = 2
            · refine r_tableIn (off := 70) h.ok 154 dX6_visit_84 (by rw [s_2]; decide) (by rw [s_2]; decide) (by rw [s_2]; rfl) (by decide) ?_
              refine r_aload_n h.ok dX6_visit_154 0 rfl ?_
              refine r_get h.ok 20 dX6_visit_155 (xo_11 _) rfl inX6 (by decide) wfl_X6_59 rfl ?_
              refine r_iload_n h.ok dX6_visit_158 1 rfl ?_
              refine x_ialp (v := I 12 20 a.toNatClampNeg) h.ok dX6_visit_159 rfl (vp_mono (mIn_in hv (by omega) (pI_n0.mp c_18)) v500) rfl ?_
              refine r_iret h dX6_visit_160 ⟨by decide, by decide⟩ ⟨(by unfold mVisit_r; simp only [if_neg c_18, if_neg c_32, if_neg c_44, if_neg c_52, if_pos c_62, if_neg s_0, if_neg s_1, if_pos s_2]), rfl, rfl⟩
            by_cases s_3 : c = 3
            · refine r_tableIn (off := 77) h.ok 161 dX6_visit_84 (by rw [s_3]; decide) (by rw [s_3]; decide) (by rw [s_3]; rfl) (by decide) ?_
              refine r_aload_n h.ok dX6_visit_161 0 rfl ?_
              refine r_get h.ok 21 dX6_visit_162 (xo_11 _) rfl inX6 (by decide) wfl_X6_62 rfl ?_
              refine r_iload_n h.ok dX6_visit_165 1 rfl ?_
              refine x_ialp (v := I 12 21 a.toNatClampNeg) h.ok dX6_visit_166 rfl (vp_mono (mIn_in hv (by omega) (pI_n0.mp c_18)) v500) rfl ?_
              refine r_iret h dX6_visit_167 ⟨by decide, by decide⟩ ⟨(by unfold mVisit_r; simp only [if_neg c_18, if_neg c_32, if_neg c_44, if_neg c_52, if_pos c_62, if_neg s_0, if_neg s_1, if_neg s_2, if_pos s_3]), rfl, rfl⟩
            by_cases s_4 : c = 4
            · refine r_tableIn (off := 84) h.ok 168 dX6_visit_84 (by rw [s_4]; decide) (by rw [s_4]; decide) (by rw [s_4]; rfl) (by decide) ?_
              refine r_aload_n h.ok dX6_visit_168 0 rfl ?_
              refine r_get h.ok 22 dX6_visit_169 (xo_11 _) rfl inX6 (by decide) wfl_X6_65 rfl ?_
              refine r_iload_n h.ok dX6_visit_172 1 rfl ?_
              refine x_zalp (v := I 12 22 a.toNatClampNeg) h.ok dX6_visit_173 rfl (vp_mono (mIn_in hv (by omega) (pI_n0.mp c_18)) v500) rfl ?_
              refine r_if_eq h.ok 181 dX6_visit_174 (by decide) (fun c_174 => ?_) (fun c_174 => ?_)
              · refine r_iconst (v := 0) h.ok dX6_visit_181 (by decide) ?_
                refine r_iret h dX6_visit_182 ⟨by decide, by decide⟩ ⟨(by unfold mVisit_r; simp only [if_neg c_18, if_neg c_32, if_neg c_44, if_neg c_52, if_pos c_62, if_neg s_0, if_neg s_1, if_neg s_2, if_neg s_3, if_pos s_4, if_pos c_174]), rfl, rfl⟩
              · refine r_iconst (v := 1) h.ok dX6_visit_177 (by decide) ?_
                refine r_goto h.ok 182 dX6_visit_178 (by decide) ?_
                refine r_iret h dX6_visit_182 ⟨by decide, by decide⟩ ⟨(by unfold mVisit_r; simp only [if_neg c_18, if_neg c_32, if_neg c_44, if_neg c_52, if_pos c_62, if_neg s_0, if_neg s_1, if_neg s_2, if_neg s_3, if_pos s_4, if_neg c_174]), rfl, rfl⟩
            by_cases s_5 : c = 5
            · refine r_tableIn (off := 99) h.ok 183 dX6_visit_84 (by rw [s_5]; decide) (by rw [s_5]; decide) (by rw [s_5]; rfl) (by decide) ?_
              refine r_aload_n h.ok dX6_visit_183 0 rfl ?_
              refine r_get h.ok 23 dX6_visit_184 (xo_11 _) rfl inX6 (by decide) wfl_X6_69 rfl ?_
              refine r_iload_n h.ok dX6_visit_187 1 rfl ?_
              refine x_ialp (v := I 12 23 a.toNatClampNeg) h.ok dX6_visit_188 rfl (vp_mono (mIn_in hv (by omega) (pI_n0.mp c_18)) v500) rfl ?_
              refine r_iret h dX6_visit_189 ⟨by decide, by decide⟩ ⟨(by unfold mVisit_r; simp only [if_neg c_18, if_neg c_32, if_neg c_44, if_neg c_52, if_pos c_62, if_neg s_0, if_neg s_1, if_neg s_2, if_neg s_3, if_neg s_4, if_pos s_5]), rfl, rfl⟩
            by_cases s_6 : c = 6
            · refine r_tableIn (off := 106) h.ok 190 dX6_visit_84 (by rw [s_6]; decide) (by rw [s_6]; decide) (by rw [s_6]; rfl) (by decide) ?_
              refine r_aload_n h.ok dX6_visit_190 0 rfl ?_
              refine r_get h.ok 24 dX6_visit_191 (xo_11 _) rfl inX6 (by decide) wfl_X6_72 rfl ?_
              refine r_iload_n h.ok dX6_visit_194 1 rfl ?_
              refine x_ialp (v := I 12 24 a.toNatClampNeg) h.ok dX6_visit_195 rfl (vp_mono (mIn_in hv (by omega) (pI_n0.mp c_18)) v500) rfl ?_
              refine r_iret h dX6_visit_196 ⟨by decide, by decide⟩ ⟨(by unfold mVisit_r; simp only [if_neg c_18, if_neg c_32, if_neg c_44, if_neg c_52, if_pos c_62, if_neg s_0, if_neg s_1, if_neg s_2, if_neg s_3, if_neg s_4, if_neg s_5, if_pos s_6]), rfl, rfl⟩
            by_cases s_7 : c = 7
            · refine r_tableIn (off := 113) h.ok 197 dX6_visit_84 (by rw [s_7]; decide) (by rw [s_7]; decide) (by rw [s_7]; rfl) (by decide) ?_
              refine r_aload_n h.ok dX6_visit_197 0 rfl ?_
              refine r_get h.ok 25 dX6_visit_198 (xo_11 _) rfl inX6 (by decide) wfl_X6_75 rfl ?_
              refine r_iload_n h.ok dX6_visit_201 1 rfl ?_
              refine x_ialp (v := I 12 25 a.toNatClampNeg) h.ok dX6_visit_202 rfl (vp_mono (mIn_in hv (by omega) (pI_n0.mp c_18)) v500) rfl ?_
              refine r_iret h dX6_visit_203 ⟨by decide, by decide⟩ ⟨(by unfold mVisit_r; simp only [if_neg c_18, if_neg c_32, if_neg c_44, if_neg c_52, if_pos c_62, if_neg s_0, if_neg s_1, if_neg s_2, if_neg s_3, if_neg s_4, if_neg s_5, if_neg s_6, if_pos s_7]), rfl, rfl⟩
            by_cases s_8 : c = 8
            · refine r_tableIn (off := 120) h.ok 204 dX6_visit_84 (by rw [s_8]; decide) (by rw [s_8]; decide) (by rw [s_8]; rfl) (by decide) ?_
              refine r_aload_n h.ok dX6_visit_204 0 rfl ?_
              refine r_get h.ok 26 dX6_visit_205 (xo_11 _) rfl inX6 (by decide) wfl_X6_78 rfl ?_
              refine r_iload_n h.ok dX6_visit_208 1 rfl ?_
              refine x_ialp (v := I 12 26 a.toNatClampNeg) h.ok dX6_visit_209 rfl (vp_mono (mIn_in hv (by omega) (pI_n0.mp c_18)) v500) rfl ?_
              refine r_iret h dX6_visit_210 ⟨by decide, by decide⟩ ⟨(by unfold mVisit_r; simp only [if_neg c_18, if_neg c_32, if_neg c_44, if_neg c_52, if_pos c_62, if_neg s_0, if_neg s_1, if_neg s_2, if_neg s_3, if_neg s_4, if_neg s_5, if_neg s_6, if_neg s_7, if_pos s_8]), rfl, rfl⟩
            by_cases s_9 : c = 9
            · refine r_tableIn (off := 127) h.ok 211 dX6_visit_84 (by rw [s_9]; decide) (by rw [s_9]; decide) (by rw [s_9]; rfl) (by decide) ?_
              refine r_aload_n h.ok dX6_visit_211 0 rfl ?_
              refine r_get h.ok 27 dX6_visit_212 (xo_11 _) rfl inX6 (by decide) wfl_X6_81 rfl ?_
              refine r_iload_n h.ok dX6_visit_215 1 rfl ?_
              refine x_ialp (v := I 12 27 a.toNatClampNeg) h.ok dX6_visit_216 rfl (vp_mono (mIn_in hv (by omega) (pI_n0.mp c_18)) v500) rfl ?_
              refine r_iret h dX6_visit_217 ⟨by decide, by decide⟩ ⟨(by unfold mVisit_r; simp only [if_neg c_18, if_neg c_32, if_neg c_44, if_neg c_52, if_pos c_62, if_neg s_0, if_neg s_1, if_neg s_2, if_neg s_3, if_neg s_4, if_neg s_5, if_neg s_6, if_neg s_7, if_neg s_8, if_pos s_9]), rfl, rfl⟩
            refine r_tableOut h.ok 218 dX6_visit_84 (gOut9 s_0 s_1 s_2 s_3 s_4 s_5 s_6 s_7 s_8 s_9) (by decide) ?_
            refine r_aload_n h.ok dX6_visit_218 0 rfl ?_
            refine r_get h.ok 28 dX6_visit_219 (xo_11 _) rfl inX6 (by decide) wfl_X6_84 rfl ?_
            refine r_iload_n h.ok dX6_visit_222 1 rfl ?_
            refine x_ialp (v := I 12 28 a.toNatClampNeg) h.ok dX6_visit_223 rfl (vp_mono (mIn_in hv (by omega) (pI_n0.mp c_18)) v500) rfl ?_
            refine r_iret h dX6_visit_224 ⟨by decide, by decide⟩ ⟨(by unfold mVisit_r; simp only [if_neg c_18, if_neg c_32, if_neg c_44, if_neg c_52, if_pos c_62, if_neg s_0, if_neg s_1, if_neg s_2, if_neg s_3, if_neg s_4, if_neg s_5, if_neg s_6, if_neg s_7, if_neg s_8, if_neg s_9]), rfl, rfl⟩
          · refine r_iload_n h.ok dX6_visit_65 2 rfl ?_
            refine r_iconst (v := 1) h.ok dX6_visit_66 (by decide) ?_
            refine r_icmp_ne h.ok 80 dX6_visit_67 (by decide) (fun c_67 => ?_) (fun c_67 => ?_)
            · refine r_bipush (v := (-13)) h.ok dX6_visit_80 (by decide) ?_
              refine r_iret h dX6_visit_82 ⟨by decide, by decide⟩ ⟨(by unfold mVisit_r; simp only [if_neg c_18, if_neg c_32, if_neg c_44, if_neg c_52, if_neg c_62, if_neg c_67]), rfl, rfl⟩
            · refine r_aload_n h.ok dX6_visit_70 0 rfl ?_
              refine r_get h.ok 18 dX6_visit_71 (xo_11 _) rfl inX6 (by decide) wfl_X6_53 rfl ?_
              refine r_iload_n h.ok dX6_visit_74 1 rfl ?_
              refine x_ialp (v := I 12 18 a.toNatClampNeg) h.ok dX6_visit_75 rfl (vp_mono (mIn_in hv (by omega) (pI_n0.mp c_18)) v500) rfl ?_
              refine r_iconst (v := 2) h.ok dX6_visit_76 (by decide) ?_
              refine r_icmp_eq h.ok 83 dX6_visit_77 (by decide) (fun c_77 => ?_) (fun c_77 => ?_)
              · refine r_iload_n h.ok dX6_visit_83 3 rfl ?_
                by_cases s_0 : c = 0
                · refine r_tableIn (off := 56) h.ok 140 dX6_visit_84 (by rw [s_0]; decide) (by rw [s_0]; decide) (by rw [s_0]; rfl) (by decide) ?_
                  refine r_aload_n h.ok dX6_visit_140 0 rfl ?_
                  refine r_get h.ok 18 dX6_visit_141 (xo_11 _) rfl inX6 (by decide) wfl_X6_53 rfl ?_
                  refine r_iload_n h.ok dX6_visit_144 1 rfl ?_
                  refine x_ialp (v := I 12 18 a.toNatClampNeg) h.ok dX6_visit_145 rfl (vp_mono (mIn_in hv (by omega) (pI_n0.mp c_18)) v500) rfl ?_
                  refine r_iret h dX6_visit_146 ⟨by decide, by decide⟩ ⟨(by unfold mVisit_r; simp only [if_neg c_18, if_neg c_32, if_neg c_44, if_neg c_52, if_neg c_62, if_pos c_67, if_pos c_77, if_pos s_0]), rfl, rfl⟩
                by_cases s_1 : c = 1
                · refine r_tableIn (off := 63) h.ok 147 dX6_visit_84 (by rw [s_1]; decide) (by rw [s_1]; decide) (by rw [s_1]; rfl) (by decide) ?_
                  refine r_aload_n h.ok dX6_visit_147 0 rfl ?_
                  refine r_get h.ok 19 dX6_visit_148 (xo_11 _) rfl inX6 (by decide) wfl_X6_56 rfl ?_
                  refine r_iload_n h.ok dX6_visit_151 1 rfl ?_
                  refine x_ialp (v := I 12 19 a.toNatClampNeg) h.ok dX6_visit_152 rfl (vp_mono (mIn_in hv (by omega) (pI_n0.mp c_18)) v500) rfl ?_
                  refine r_iret h dX6_visit_153 ⟨by decide, by decide⟩ ⟨(by unfold mVisit_r; simp only [if_neg c_18, if_neg c_32, if_neg c_44, if_neg c_52, if_neg c_62, if_pos c_67, if_pos c_77, if_neg s_0, if_pos s_1]), rfl, rfl⟩
                by_cases s_2 : c = 2
                · refine r_tableIn (off := 70) h.ok 154 dX6_visit_84 (by rw [s_2]; decide) (by rw [s_2]; decide) (by rw [s_2]; rfl) (by decide) ?_
                  refine r_aload_n h.ok dX6_visit_154 0 rfl ?_
                  refine r_get h.ok 20 dX6_visit_155 (xo_11 _) rfl inX6 (by decide) wfl_X6_59 rfl ?_
                  refine r_iload_n h.ok dX6_visit_158 1 rfl ?_
                  refine x_ialp (v := I 12 20 a.toNatClampNeg) h.ok dX6_visit_159 rfl (vp_mono (mIn_in hv (by omega) (pI_n0.mp c_18)) v500) rfl ?_
                  refine r_iret h dX6_visit_160 ⟨by decide, by decide⟩ ⟨(by unfold mVisit_r; simp only [if_neg c_18, if_neg c_32, if_neg c_44, if_neg c_52, if_neg c_62, if_pos c_67, if_pos c_77, if_neg s_0, if_neg s_1, if_pos s_2]), rfl, rfl⟩
                by_cases s_3 : c = 3
                · refine r_tableIn (off := 77) h.ok 161 dX6_visit_84 (by rw [s_3]; decide) (by rw [s_3]; decide) (by rw [s_3]; rfl) (by decide) ?_
                  refine r_aload_n h.ok dX6_visit_161 0 rfl ?_
                  refine r_get h.ok 21 dX6_visit_162 (xo_11 _) rfl inX6 (by decide) wfl_X6_62 rfl ?_
                  refine r_iload_n h.ok dX6_visit_165 1 rfl ?_
                  refine x_ialp (v := I 12 21 a.toNatClampNeg) h.ok dX6_visit_166 rfl (vp_mono (mIn_in hv (by omega) (pI_n0.mp c_18)) v500) rfl ?_
                  refine r_iret h dX6_visit_167 ⟨by decide, by decide⟩ ⟨(by unfold mVisit_r; simp only [if_neg c_18, if_neg c_32, if_neg c_44, if_neg c_52, if_neg c_62, if_pos c_67, if_pos c_77, if_neg s_0, if_neg s_1, if_neg s_2, if_pos s_3]), rfl, rfl⟩
                by_cases s_4 : c = 4
                · refine r_tableIn (off := 84) h.ok 168 dX6_visit_84 (by rw [s_4]; decide) (by rw [s_4]; decide) (by rw [s_4]; rfl) (by decide) ?_
                  refine r_aload_n h.ok dX6_visit_168 0 rfl ?_
                  refine r_get h.ok 22 dX6_visit_169 (xo_11 _) rfl inX6 (by decide) wfl_X6_65 rfl ?_
                  refine r_iload_n h.ok dX6_visit_172 1 rfl ?_
                  refine x_zalp (v := I 12 22 a.toNatClampNeg) h.ok dX6_visit_173 rfl (vp_mono (mIn_in hv (by omega) (pI_n0.mp c_18)) v500) rfl ?_
                  refine r_if_eq h.ok 181 dX6_visit_174 (by decide) (fun c_174 => ?_) (fun c_174 => ?_)
                  · refine r_iconst (v := 0) h.ok dX6_visit_181 (by decide) ?_
                    refine r_iret h dX6_visit_182 ⟨by decide, by decide⟩ ⟨(by unfold mVisit_r; simp only [if_neg c_18, if_neg c_32, if_neg c_44, if_neg c_52, if_neg c_62, if_pos c_67, if_pos c_77, if_neg s_0, if_neg s_1, if_neg s_2, if_neg s_3, if_pos s_4, if_pos c_174]), rfl, rfl⟩
                  · refine r_iconst (v := 1) h.ok dX6_visit_177 (by decide) ?_
                    refine r_goto h.ok 182 dX6_visit_178 (by decide) ?_
                    refine r_iret h dX6_visit_182 ⟨by decide, by decide⟩ ⟨(by unfold mVisit_r; simp only [if_neg c_18, if_neg c_32, if_neg c_44, if_neg c_52, if_neg c_62, if_pos c_67, if_pos c_77, if_neg s_0, if_neg s_1, if_neg s_2, if_neg s_3, if_pos s_4, if_neg c_174]), rfl, rfl⟩
                by_cases s_5 : c = 5
                · refine r_tableIn (off := 99) h.ok 183 dX6_visit_84 (by rw [s_5]; decide) (by rw [s_5]; decide) (by rw [s_5]; rfl) (by decide) ?_
                  refine r_aload_n h.ok dX6_visit_183 0 rfl ?_
                  refine r_get h.ok 23 dX6_visit_184 (xo_11 _) rfl inX6 (by decide) wfl_X6_69 rfl ?_
                  refine r_iload_n h.ok dX6_visit_187 1 rfl ?_
                  refine x_ialp (v := I 12 23 a.toNatClampNeg) h.ok dX6_visit_188 rfl (vp_mono (mIn_in hv (by omega) (pI_n0.mp c_18)) v500) rfl ?_
                  refine r_iret h dX6_visit_189 ⟨by decide, by decide⟩ ⟨(by unfold mVisit_r; simp only [if_neg c_18, if_neg c_32, if_neg c_44, if_neg c_52, if_neg c_62, if_pos c_67, if_pos c_77, if_neg s_0, if_neg s_1, if_neg s_2, if_neg s_3, if_neg s_4, if_pos s_5]), rfl, rfl⟩
                by_cases s_6 : c = 6
                · refine r_tableIn (off := 106) h.ok 190 dX6_visit_84 (by rw [s_6]; decide) (by rw [s_6]; decide) (by rw [s_6]; rfl) (by decide) ?_
                  refine r_aload_n h.ok dX6_visit_190 0 rfl ?_
                  refine r_get h.ok 24 dX6_visit_191 (xo_11 _) rfl inX6 (by decide) wfl_X6_72 rfl ?_
                  refine r_iload_n h.ok dX6_visit_194 1 rfl ?_
                  refine x_ialp (v := I 12 24 a.toNatClampNeg) h.ok dX6_visit_195 rfl (vp_mono (mIn_in hv (by omega) (pI_n0.mp c_18)) v500) rfl ?_
                  refine r_iret h dX6_visit_196 ⟨by decide, by decide⟩ ⟨(by unfold mVisit_r; simp only [if_neg c_18, if_neg c_32, if_neg c_44, if_neg c_52, if_neg c_62, if_pos c_67, if_pos c_77, if_neg s_0, if_neg s_1, if_neg s_2, if_neg s_3, if_neg s_4, if_neg s_5, if_pos s_6]), rfl, rfl⟩
                by_cases s_7 : c = 7
                · refine r_tableIn (off := 113) h.ok 197 dX6_visit_84 (by rw [s_7]; decide) (by rw [s_7]; decide) (by rw [s_7]; rfl) (by decide) ?_
                  refine r_aload_n h.ok dX6_visit_197 0 rfl ?_
                  refine r_get h.ok 25 dX6_visit_198 (xo_11 _) rfl inX6 (by decide) wfl_X6_75 rfl ?_
                  refine r_iload_n h.ok dX6_visit_201 1 rfl ?_
                  refine x_ialp (v := I 12 25 a.toNatClampNeg) h.ok dX6_visit_202 rfl (vp_mono (mIn_in hv (by omega) (pI_n0.mp c_18)) v500) rfl ?_
                  refine r_iret h dX6_visit_203 ⟨by decide, by decide⟩ ⟨(by unfold mVisit_r; simp only [if_neg c_18, if_neg c_32, if_neg c_44, if_neg c_52, if_neg c_62, if_pos c_67, if_pos c_77, if_neg s_0, if_neg s_1, if_neg s_2, if_neg s_3, if_neg s_4, if_neg s_5, if_neg s_6, if_pos s_7]), rfl, rfl⟩
                by_cases s_8 : c = 8
                · refine r_tableIn (off := 120) h.ok 204 dX6_visit_84 (by rw [s_8]; decide) (by rw [s_8]; decide) (by rw [s_8]; rfl) (by decide) ?_
                  refine r_aload_n h.ok dX6_visit_204 0 rfl ?_
                  refine r_get h.ok 26 dX6_visit_205 (xo_11 _) rfl inX6 (by decide) wfl_X6_78 rfl ?_
                  refine r_iload_n h.ok dX6_visit_208 1 rfl ?_
                  refine x_ialp (v := I 12 26 a.toNatClampNeg) h.ok dX6_visit_209 rfl (vp_mono (mIn_in hv (by omega) (pI_n0.mp c_18)) v500) rfl ?_
                  refine r_iret h dX6_visit_210 ⟨by decide, by decide⟩ ⟨(by unfold mVisit_r; simp only [if_neg c_18, if_neg c_32, if_neg c_44, if_neg c_52, if_neg c_62, if_pos c_67, if_pos c_77, if_neg s_0, if_neg s_1, if_neg s_2, if_neg s_3, if_neg s_4, if_neg s_5, if_neg s_6, if_neg s_7, if_pos s_8]), rfl, rfl⟩
                by_cases s_9 : c = 9
                · refine r_tableIn (off := 127) h.ok 211 dX6_visit_84 (by rw [s_9]; decide) (by rw [s_9]; decide) (by rw [s_9]; rfl) (by decide) ?_
                  refine r_aload_n h.ok dX6_visit_211 0 rfl ?_
                  refine r_get h.ok 27 dX6_visit_212 (xo_11 _) rfl inX6 (by decide) wfl_X6_81 rfl ?_
                  refine r_iload_n h.ok dX6_visit_215 1 rfl ?_
                  refine x_ialp (v := I 12 27 a.toNatClampNeg) h.ok dX6_visit_216 rfl (vp_mono (mIn_in hv (by omega) (pI_n0.mp c_18)) v500) rfl ?_
                  refine r_iret h dX6_visit_217 ⟨by decide, by decide⟩ ⟨(by unfold mVisit_r; simp only [if_neg c_18, if_neg c_32, if_neg c_44, if_neg c_52, if_neg c_62, if_pos c_67, if_pos c_77, if_neg s_0, if_neg s_1, if_neg s_2, if_neg s_3, if_neg s_4, if_neg s_5, if_neg s_6, if_neg s_7, if_neg s_8, if_pos s_9]), rfl, rfl⟩
                refine r_tableOut h.ok 218 dX6_visit_84 (gOut9 s_0 s_1 s_2 s_3 s_4 s_5 s_6 s_7 s_8 s_9) (by decide) ?_
                refine r_aload_n h.ok dX6_visit_218 0 rfl ?_
                refine r_get h.ok 28 dX6_visit_219 (xo_11 _) rfl inX6 (by decide) wfl_X6_84 rfl ?_
                refine r_iload_n h.ok dX6_visit_222 1 rfl ?_
                refine x_ialp (v := I 12 28 a.toNatClampNeg) h.ok dX6_visit_223 rfl (vp_mono (mIn_in hv (by omega) (pI_n0.mp c_18)) v500) rfl ?_
                refine r_iret h dX6_visit_224 ⟨by decide, by decide⟩ ⟨(by unfold mVisit_r; simp only [if_neg c_18, if_neg c_32, if_neg c_44, if_neg c_52, if_neg c_62, if_pos c_67, if_pos c_77, if_neg s_0, if_neg s_1, if_neg s_2, if_neg s_3, if_neg s_4, if_neg s_5, if_neg s_6, if_neg s_7, if_neg s_8, if_neg s_9]), rfl, rfl⟩
              · refine r_bipush (v := (-13)) h.ok dX6_visit_80 (by decide) ?_
                refine r_iret h dX6_visit_82 ⟨by decide, by decide⟩ ⟨(by unfold mVisit_r; simp only [if_neg c_18, if_neg c_32, if_neg c_44, if_neg c_52, if_neg c_62, if_pos c_67, if_neg c_77]), rfl, rfl⟩
      · refine r_bipush (v := (-2)) h.ok dX6_visit_47 (by decide) ?_
        refine r_iret h dX6_visit_49 ⟨by decide, by decide⟩ ⟨(by unfold mVisit_r; simp only [if_neg c_18, if_neg c_32, if_pos c_44]), rfl, rfl⟩
  · refine r_iconst (v := (-1)) h.ok dX6_visit_21 (by decide) ?_
    refine r_iret h dX6_visit_22 ⟨by decide, by decide⟩ ⟨(by unfold mVisit_r; simp only [if_pos c_18]), rfl, rfl⟩
/-- the first place with P, else -9 -/
noncomputable def gFind (P : Nat → Prop) : Nat → Nat → Int32
  | 0, _ => -9
  | n + 1, j => @ite Int32 (P j) (Classical.propDecidable _) (nI j) (gFind P n (j + 1))
theorem gFind_hit {P : Nat → Prop} {w j : Nat} (h : j < w) (hp : P j) : gFind P (w - j) j = nI j := by
  obtain ⟨n, hn⟩ : ∃ n, w - j = n + 1 := ⟨w - j - 1, by omega⟩
  rw [hn]
  exact if_pos hp
theorem gFind_miss {P : Nat → Prop} {w j : Nat} (h : j < w) (hp : ¬ P j) : gFind P (w - j) j = gFind P (w - (j + 1)) (j + 1) := by
  obtain ⟨n, hn⟩ : ∃ n, w - j = n + 1 := ⟨w - j - 1, by omega⟩
  rw [hn, show w - (j + 1) = n by omega]
  exact if_neg hp
theorem gFind_end {P : Nat → Prop} {w j : Nat} (h : w ≤ j) : gFind P (w - j) j = -9 := by
  rw [show w - j = 0 by omega]
  rfl
theorem ge_nI {x : Int32} {j w : Nat} (hx : x = nI j) (hw : w < 2 ^ 31) (hj : j ≤ w) (h : nI w ≤ x) : j = w := by
  rw [hx, nI_leI hw (by omega)] at h
  omega
theorem lt_nI {x : Int32} {j w : Nat} (hx : x = nI j) (hw : w < 2 ^ 31) (hj : j ≤ w) (h : ¬ nI w ≤ x) : j < w := by
  rw [hx, nI_leI hw (by omega)] at h
  omega
def mAt (I : gI) (c : Int32) (j : Nat) : Prop := I 12 19 (I 12 30 j).toNatClampNeg = c
noncomputable def mPlace (I : gI) (nw : Nat) (c : Int32) : Int32 := gFind (mAt I c) (nw - 0) 0
set_option maxHeartbeats 4000000 in
set_option maxRecDepth 100000 in
theorem c_X6_placeOf (D : va_G) (E : gEc) (ad : gAd) (I : gI) (F : gF) (lc ln : Nat) (c : Int32) (nv nw : Nat) (hw : I 11 0 29 = nI nw) (w12 : nw ≤ 12) (v500 : nv ≤ 500) (hq : ∀ j : Nat, j < nw → vp_in (I 12 30 j) nv) : gCon D E yX6_placeOf cX6_placeOf 3 (some .int) 0 0 0 [.ref (ad 11 0), .int c] ad (cX E ad I F lc ln) (gPd (some (.int (mPlace I nw c))) ad (cX E ad I F lc ln)) := by
  refine gCon.of (by decide) (Nat.le_of_ble_eq_true rfl) ?_
  intro l A Rn h
  show Rn 0 [(0, .ref (ad 11 0)), (1, .int c)] [] ad (cX E ad I F lc ln) 0 0
  refine r_iconst (v := 0) h.ok dX6_placeOf_0 (by decide) ?_
  refine r_istore_n (lv' := [(2, .int 0), (0, .ref (ad 11 0)), (1, .int c)]) h.ok dX6_placeOf_1 (by decide) rfl ?_
  have lp2 : ∀ (n : Nat) (j : Nat) (x : Int32), (j ≤ nw) → (nw + 1 ≤ j + n) → (x = nI j) → (mPlace I nw c = gFind (mAt I c) (nw - j) j) → Rn 2 [(2, .int x), (0, .ref (ad 11 0)), (1, .int c)] [] ad (cX E ad I F lc ln) 0 0 := by
    intro n
    induction n with
    | zero => intro j  x  hj hf hx hs; exfalso; omega
    | succ n ih2 =>
      intro j  x  hj hf hx hs
      refine r_iload_n h.ok dX6_placeOf_2 0 rfl ?_
      refine r_aload_n h.ok dX6_placeOf_3 1 rfl ?_
      refine r_get (v := .int (I 11 0 29)) h.ok 29 dX6_placeOf_4 (xo_11 _) rfl inX6 (by decide) wfl_X6_110 rfl ?_
      rw [hw]
      refine r_icmp_ge h.ok 33 dX6_placeOf_7 (by decide) (fun c_7 => ?_) (fun c_7 => ?_)
      · have jw : j = nw := ge_nI hx (by omega) hj c_7
        refine r_bipush (v := (-9)) h.ok dX6_placeOf_33 (by decide) ?_
        refine r_iret h dX6_placeOf_35 ⟨by decide, by decide⟩ ⟨by rw [hs, gFind_end (by omega)], rfl, rfl⟩
      · have jw : j < nw := lt_nI hx (by omega) hj c_7
        refine r_aload_n h.ok dX6_placeOf_10 1 rfl ?_
        refine r_get h.ok 19 dX6_placeOf_11 (xo_11 _) rfl inX6 (by decide) wfl_X6_56 rfl ?_
        refine r_aload_n h.ok dX6_placeOf_14 1 rfl ?_
        refine r_get h.ok 30 dX6_placeOf_15 (xo_11 _) rfl inX6 (by decide) wfl_X6_87 rfl ?_
        refine r_iload_n h.ok dX6_placeOf_18 0 rfl ?_
        refine x_iald (v := I 12 30 j) h.ok j dX6_placeOf_19 rfl hx (by omega) (by decide) rfl ?_
        refine x_ialp (v := I 12 19 ((I 12 30 j).toNatClampNeg)) h.ok dX6_placeOf_20 rfl (vp_mono (hq j jw) v500) rfl ?_
        refine r_iload_n h.ok dX6_placeOf_21 2 rfl ?_
        refine r_icmp_ne h.ok 27 dX6_placeOf_22 (by decide) (fun c_22 => ?_) (fun c_22 => ?_)
        · refine r_iinc (v := x + 1) (lv' := [(2, .int (x + 1)), (0, .ref (ad 11 0)), (1, .int c)]) h.ok dX6_placeOf_27 0 rfl rfl (by decide) rfl ?_
          refine r_goto h.ok 2 dX6_placeOf_30 (by decide) ?_
          exact ih2 (j + 1) _ (by omega) (by omega) (by rw [hx]; exact nI_1 j) (by rw [hs]; exact gFind_miss jw (show ¬ mAt I c j from c_22))
        · refine r_iload_n h.ok dX6_placeOf_25 0 rfl ?_
          refine r_iret h dX6_placeOf_26 ⟨by decide, by decide⟩ ⟨by rw [hs, gFind_hit jw (show mAt I c j from c_22), hx], rfl, rfl⟩
  exact lp2 (nw + 1) 0 0 (Nat.zero_le _) (by omega) rfl rfl
noncomputable def mAbout_r (I : gI) (F : gF) (nw : Nat) (c a : Int32) : Int32 := (if (pI (mNo I c)) = 0 then (if a = 0 then mHas I c else (if a = 1 then I 12 10 c.toNatClampNeg else (if a = 2 then (if (pI (mRight I c)) = 0 then 0 else 1) else (if a = 3 then mFed I c else (if a = 4 then mPlace I nw c else (if a = 5 then I 12 15 c.toNatClampNeg else (if a = 6 then I 12 16 c.toNatClampNeg else (-2)))))))) else (-1))
set_option maxHeartbeats 4000000 in
set_option maxRecDepth 100000 in
theorem c_X6_about (D : va_G) (E : gEc) (ad : gAd) (I : gI) (F : gF) (lc ln : Nat) (c a : Int32) (ht : I 11 0 0 = 0) (nc : Nat) (hn : I 11 0 3 = nI nc) (h12 : nc ≤ 12) (nv nw : Nat) (hw : I 11 0 29 = nI nw) (w12 : nw ≤ 12) (v500 : nv ≤ 500) (hq : ∀ j : Nat, j < nw → vp_in (I 12 30 j) nv) : gCon D E yX6_about cX6_about 3 (some .int) 2 0 0 [.ref (ad 11 0), .int c, .int a] ad (cX E ad I F lc ln) (gPd (some (.int (mAbout_r I F nw c a))) ad (cX E ad I F lc ln)) := by
  refine gCon.of (by decide) (Nat.le_of_ble_eq_true rfl) ?_
  intro l A Rn h
  show Rn 0 [(0, .ref (ad 11 0)), (1, .int c), (2, .int a)] [] ad (cX E ad I F lc ln) 0 0
  refine r_aload_n h.ok dX6_about_0 0 rfl ?_
  refine r_iconst (v := 0) h.ok dX6_about_1 (by decide) ?_
  refine r_put (ty := tyX6) h.ok 0 dX6_about_2 (xo_11 _) rfl inX6 tyX6_ok nmX6 (by decide) wfl_X6_97 rfl rfl rfl (by simp) (cX_thr ht) ?_
  refine r_aload_n h.ok dX6_about_5 0 rfl ?_
  refine r_iload_n h.ok dX6_about_6 1 rfl ?_
  refine r_callV h.ok [.int c] [] dX6_about_7 (c_X6_noCow D E ad I F lc ln c) wml_X6_159 wim_X6_noCow wse_X6_noCow win_X6 wco_X6_noCow yok_X6_noCow (xo_11 _) rfl rfl ⟨by decide, by decide, by simp [gRm], by simp [gRm]⟩ (Nat.le_of_ble_eq_true rfl) rfl ?_
  show Rn 10 [(0, .ref (ad 11 0)), (1, .int c), (2, .int a)] [.int (pI (mNo I c))] ad (cX E ad I F lc ln) 0 0
  refine r_if_eq h.ok 15 dX6_about_10 (by decide) (fun c_10 => ?_) (fun c_10 => ?_)
  · refine r_iload_n h.ok dX6_about_15 2 rfl ?_
    by_cases s_0 : a = 0
    · refine r_tableIn (off := 44) h.ok 60 dX6_about_16 (by rw [s_0]; decide) (by rw [s_0]; decide) (by rw [s_0]; rfl) (by decide) ?_
      refine r_aload_n h.ok dX6_about_60 0 rfl ?_
      refine r_iload_n h.ok dX6_about_61 1 rfl ?_
      refine r_callV h.ok [.int c] [] dX6_about_62 (c_X6_has D E ad I F lc ln c (vp_mono (mNo_in hn h12 (pI_0.mp c_10)) h12)) wml_X6_117 wim_X6_has wse_X6_has win_X6 wco_X6_has yok_X6_has (xo_11 _) rfl rfl ⟨by decide, by decide, by simp [gRm], by simp [gRm]⟩ (Nat.le_of_ble_eq_true rfl) rfl ?_
      show Rn 65 [(0, .ref (ad 11 0)), (1, .int c), (2, .int a)] [.int (mHas I c)] ad (cX E ad I F lc ln) 0 0
      refine r_iret h dX6_about_65 ⟨by decide, by decide⟩ ⟨(by unfold mAbout_r; simp only [if_pos c_10, if_pos s_0]), rfl, rfl⟩
    by_cases s_1 : a = 1
    · refine r_tableIn (off := 50) h.ok 66 dX6_about_16 (by rw [s_1]; decide) (by rw [s_1]; decide) (by rw [s_1]; rfl) (by decide) ?_
      refine r_aload_n h.ok dX6_about_66 0 rfl ?_
      refine r_get h.ok 10 dX6_about_67 (xo_11 _) rfl inX6 (by decide) wfl_X6_32 rfl ?_
      refine r_iload_n h.ok dX6_about_70 1 rfl ?_
      refine x_ialp (v := I 12 10 c.toNatClampNeg) h.ok dX6_about_71 rfl (vp_mono (mNo_in hn h12 (pI_0.mp c_10)) h12) rfl ?_
      refine r_iret h dX6_about_72 ⟨by decide, by decide⟩ ⟨(by unfold mAbout_r; simp only [if_pos c_10, if_neg s_0, if_pos s_1]), rfl, rfl⟩
    by_cases s_2 : a = 2
    · refine r_tableIn (off := 57) h.ok 73 dX6_about_16 (by rw [s_2]; decide) (by rw [s_2]; decide) (by rw [s_2]; rfl) (by decide) ?_
      refine r_aload_n h.ok dX6_about_73 0 rfl ?_
      refine r_iload_n h.ok dX6_about_74 1 rfl ?_
      refine r_callV h.ok [.int c] [] dX6_about_75 (c_X6_hasRight D E ad I F lc ln c (vp_mono (mNo_in hn h12 (pI_0.mp c_10)) h12)) wml_X6_169 wim_X6_hasRight wse_X6_hasRight win_X6 wco_X6_hasRight yok_X6_hasRight (xo_11 _) rfl rfl ⟨by decide, by decide, by simp [gRm], by simp [gRm]⟩ (Nat.le_of_ble_eq_true rfl) rfl ?_
      show Rn 78 [(0, .ref (ad 11 0)), (1, .int c), (2, .int a)] [.int (pI (mRight I c))] ad (cX E ad I F lc ln) 0 0
      refine r_if_eq h.ok 85 dX6_about_78 (by decide) (fun c_78 => ?_) (fun c_78 => ?_)
      · refine r_iconst (v := 0) h.ok dX6_about_85 (by decide) ?_
        refine r_iret h dX6_about_86 ⟨by decide, by decide⟩ ⟨(by unfold mAbout_r; simp only [if_pos c_10, if_neg s_0, if_neg s_1, if_pos s_2, if_pos c_78]), rfl, rfl⟩
      · refine r_iconst (v := 1) h.ok dX6_about_81 (by decide) ?_
        refine r_goto h.ok 86 dX6_about_82 (by decide) ?_
        refine r_iret h dX6_about_86 ⟨by decide, by decide⟩ ⟨(by unfold mAbout_r; simp only [if_pos c_10, if_neg s_0, if_neg s_1, if_pos s_2, if_neg c_78]), rfl, rfl⟩
    by_cases s_3 : a = 3
    · refine r_tableIn (off := 71) h.ok 87 dX6_about_16 (by rw [s_3]; decide) (by rw [s_3]; decide) (by rw [s_3]; rfl) (by decide) ?_
      refine r_aload_n h.ok dX6_about_87 0 rfl ?_
      refine r_iload_n h.ok dX6_about_88 1 rfl ?_
      refine r_callV h.ok [.int c] [] dX6_about_89 (c_X6_fedToday D E ad I F lc ln c (vp_mono (mNo_in hn h12 (pI_0.mp c_10)) h12)) wml_X6_142 wim_X6_fedToday wse_X6_fedToday win_X6 wco_X6_fedToday yok_X6_fedToday (xo_11 _) rfl rfl ⟨by decide, by decide, by simp [gRm], by simp [gRm]⟩ (Nat.le_of_ble_eq_true rfl) rfl ?_
      show Rn 92 [(0, .ref (ad 11 0)), (1, .int c), (2, .int a)] [.int (mFed I c)] ad (cX E ad I F lc ln) 0 0
      refine r_iret h dX6_about_92 ⟨by decide, by decide⟩ ⟨(by unfold mAbout_r; simp only [if_pos c_10, if_neg s_0, if_neg s_1, if_neg s_2, if_pos s_3]), rfl, rfl⟩
    by_cases s_4 : a = 4
    · refine r_tableIn (off := 77) h.ok 93 dX6_about_16 (by rw [s_4]; decide) (by rw [s_4]; decide) (by rw [s_4]; rfl) (by decide) ?_
      refine r_aload_n h.ok dX6_about_93 0 rfl ?_
      refine r_iload_n h.ok dX6_about_94 1 rfl ?_
      refine r_callV h.ok [.int c] [] dX6_about_95 (c_X6_placeOf D E ad I F lc ln c nv nw hw w12 v500 hq) wml_X6_172 wim_X6_placeOf wse_X6_placeOf win_X6 wco_X6_placeOf yok_X6_placeOf (xo_11 _) rfl rfl ⟨by decide, by decide, by simp [gRm], by simp [gRm]⟩ (Nat.le_of_ble_eq_true rfl) rfl ?_
      show Rn 98 [(0, .ref (ad 11 0)), (1, .int c), (2, .int a)] [.int (mPlace I nw c)] ad (cX E ad I F lc ln) 0 0
      refine r_iret h dX6_about_98 ⟨by decide, by decide⟩ ⟨(by unfold mAbout_r; simp only [if_pos c_10, if_neg s_0, if_neg s_1, if_neg s_2, if_neg s_3, if_pos s_4]), rfl, rfl⟩
    by_cases s_5 : a = 5
    · refine r_tableIn (off := 83) h.ok 99 dX6_about_16 (by rw [s_5]; decide) (by rw [s_5]; decide) (by rw [s_5]; rfl) (by decide) ?_
      refine r_aload_n h.ok dX6_about_99 0 rfl ?_
      refine r_get h.ok 15 dX6_about_100 (xo_11 _) rfl inX6 (by decide) wfl_X6_47 rfl ?_
      refine r_iload_n h.ok dX6_about_103 1 rfl ?_
      refine x_ialp (v := I 12 15 c.toNatClampNeg) h.ok dX6_about_104 rfl (vp_mono (mNo_in hn h12 (pI_0.mp c_10)) h12) rfl ?_
      refine r_iret h dX6_about_105 ⟨by decide, by decide⟩ ⟨(by unfold mAbout_r; simp only [if_pos c_10, if_neg s_0, if_neg s_1, if_neg s_2, if_neg s_3, if_neg s_4, if_pos s_5]), rfl, rfl⟩
    by_cases s_6 : a = 6
    · refine r_tableIn (off := 90) h.ok 106 dX6_about_16 (by rw [s_6]; decide) (by rw [s_6]; decide) (by rw [s_6]; rfl) (by decide) ?_
      refine r_aload_n h.ok dX6_about_106 0 rfl ?_
      refine r_get h.ok 16 dX6_about_107 (xo_11 _) rfl inX6 (by decide) wfl_X6_50 rfl ?_
      refine r_iload_n h.ok dX6_about_110 1 rfl ?_
      refine x_ialp (v := I 12 16 c.toNatClampNeg) h.ok dX6_about_111 rfl (vp_mono (mNo_in hn h12 (pI_0.mp c_10)) h12) rfl ?_
      refine r_iret h dX6_about_112 ⟨by decide, by decide⟩ ⟨(by unfold mAbout_r; simp only [if_pos c_10, if_neg s_0, if_neg s_1, if_neg s_2, if_neg s_3, if_neg s_4, if_neg s_5, if_pos s_6]), rfl, rfl⟩
    refine r_tableOut h.ok 113 dX6_about_16 (gOut6 s_0 s_1 s_2 s_3 s_4 s_5 s_6) (by decide) ?_
    refine r_bipush (v := (-2)) h.ok dX6_about_113 (by decide) ?_
    refine r_iret h dX6_about_115 ⟨by decide, by decide⟩ ⟨(by unfold mAbout_r; simp only [if_pos c_10, if_neg s_0, if_neg s_1, if_neg s_2, if_neg s_3, if_neg s_4, if_neg s_5, if_neg s_6]), rfl, rfl⟩
  · refine r_iconst (v := (-1)) h.ok dX6_about_13 (by decide) ?_
    refine r_iret h dX6_about_14 ⟨by decide, by decide⟩ ⟨(by unfold mAbout_r; simp only [if_neg c_10]), rfl, rfl⟩
end
section
def gSum (f : Nat → Int32) : Nat → Int32
  | 0 => 0
  | n + 1 => gSum f n + f n
def gMax (f : Nat → Int32) : Nat → Int32
  | 0 => 0
  | n + 1 => if f n ≤ gMax f n then gMax f n else f n
noncomputable def gNth (P : Nat → Prop) (i : Int32) : Nat → Nat → Int32 → Int32
  | 0, _, _ => -9
  | n + 1, v, s => @ite Int32 (P v) (Classical.propDecidable _) (if s = i then nI v else gNth P i n (v + 1) (s + 1)) (gNth P i n (v + 1) s)
theorem gNth_hit {P : Nat → Prop} {i s : Int32} {w j : Nat} (h : j < w) (hp : P j) (hs : s = i) : gNth P i (w - j) j s = nI j := by
  obtain ⟨n, hn⟩ : ∃ n, w - j = n + 1 := ⟨w - j - 1, by omega⟩
  rw [hn]
  exact (if_pos hp).trans (if_pos hs)
theorem gNth_next {P : Nat → Prop} {i s : Int32} {w j : Nat} (h : j < w) (hp : P j) (hs : ¬ s = i) : gNth P i (w - j) j s = gNth P i (w - (j + 1)) (j + 1) (s + 1) := by
  obtain ⟨n, hn⟩ : ∃ n, w - j = n + 1 := ⟨w - j - 1, by omega⟩
  rw [hn, show w - (j + 1) = n by omega]
  exact (if_pos hp).trans (if_neg hs)
theorem gNth_miss {P : Nat → Prop} {i s : Int32} {w j : Nat} (h : j < w) (hp : ¬ P j) : gNth P i (w - j) j s = gNth P i (w - (j + 1)) (j + 1) s := by
  obtain ⟨n, hn⟩ : ∃ n, w - j = n + 1 := ⟨w - j - 1, by omega⟩
  rw [hn, show w - (j + 1) = n by omega]
  exact if_neg hp
theorem gNth_end {P : Nat → Prop} {i s : Int32} {w j : Nat} (h : w ≤ j) : gNth P i (w - j) j s = -9 := by
  rw [show w - j = 0 by omega]
  rfl
def mAl (I : gI) (j : Nat) : Int32 := if I 12 22 j = 0 then 0 else 1
def mRf (I : gI) (j : Nat) : Int32 := if I 12 18 j = 0 then 1 else 0
def mGv (I : gI) (c d : Int32) (j : Nat) : Int32 := if I 12 19 j = c then (if I 12 24 j = -9 then 0 else if I 12 24 j / 1440 = d then I 12 25 j else 0) else 0
def mWt (I : gI) (j : Nat) : Int32 := if I 12 23 j = -9 then 0 else I 12 23 j - I 12 20 j
def mFo (I : gI) (c d : Nat) : Int32 := if I 12 15 c < I 12 15 d then 1 else if I 12 15 d = I 12 15 c then (if nI c ≤ nI d then 0 else 1) else 0
noncomputable def mTotal (I : gI) (nv : Nat) (a : Int32) : Int32 := if a = 0 then I 11 0 36 else if a = 1 then I 11 0 38 else if a = 2 then I 11 0 39 else if a = 3 then I 11 0 40 else if a = 4 then I 11 0 41 else if a = 5 then I 11 0 42 else if a = 6 then I 11 0 1 else if a = 7 then I 11 0 3 else if a = 8 then I 11 0 17 else if a = 9 then I 11 0 29 else if a = 10 then gSum (mAl I) nv else if a = 11 then (if I 11 0 2 = 0 then 0 else 1) else if a = 12 then gSum (mRf I) nv else -2
noncomputable def mVisitOf (I : gI) (nv : Nat) (c i : Int32) : Int32 := if pI (mNo I c) = 0 then gNth (fun v => I 12 19 v = c) i (nv - 0) 0 0 else -1
noncomputable def mGave (I : gI) (nv : Nat) (c d : Int32) : Int32 := if pI (mNo I c) = 0 then (if 0 ≤ d then gSum (mGv I c d) nv else -2) else -1
def mLongest (I : gI) (nv : Nat) : Int32 := gMax (mWt I) nv
noncomputable def mRank (I : gI) (nc : Nat) (i : Int32) : Int32 := gFind (fun c => gSum (mFo I c) nc = i) (nc - 0) 0
set_option maxHeartbeats 4000000 in
set_option maxRecDepth 100000 in
theorem c_X6_total (D : va_G) (E : gEc) (ad : gAd) (I : gI) (F : gF) (lc ln : Nat) (a : Int32) (ht : I 11 0 0 = 0) (nv : Nat) (hv : I 11 0 17 = nI nv) (v500 : nv ≤ 500) : gCon D E yX6_total cX6_total 4 (some .int) 0 0 0 [.ref (ad 11 0), .int a] ad (cX E ad I F lc ln) (gPd (some (.int (mTotal I nv a))) ad (cX E ad I F lc ln)) := by
  refine gCon.of (by decide) (Nat.le_of_ble_eq_true rfl) ?_
  intro l A Rn h
  show Rn 0 [(0, .ref (ad 11 0)), (1, .int a)] [] ad (cX E ad I F lc ln) 0 0
  refine r_aload_n h.ok dX6_total_0 0 rfl ?_
  refine r_iconst (v := 0) h.ok dX6_total_1 (by decide) ?_
  refine r_put (ty := tyX6) h.ok 0 dX6_total_2 (xo_11 _) rfl inX6 tyX6_ok nmX6 (by decide) wfl_X6_97 rfl rfl rfl (by simp) (cX_thr ht) ?_
  refine r_iconst (v := 0) h.ok dX6_total_5 (by decide) ?_
  refine r_istore_n (lv' := [(2, .int 0), (0, .ref (ad 11 0)), (1, .int a)]) h.ok dX6_total_6 (by decide) rfl ?_
  refine r_iload_n h.ok dX6_total_7 2 rfl ?_
  by_cases s_0 : a = 0
  · refine r_tableIn (off := 68) h.ok 76 dX6_total_8 (by rw [s_0]; decide) (by rw [s_0]; decide) (by rw [s_0]; rfl) (by decide) ?_
    refine r_aload_n h.ok dX6_total_76 1 rfl ?_
    refine r_get (v := .int (I 11 0 36)) h.ok 36 dX6_total_77 (xo_11 _) rfl inX6 (by decide) wfl_X6_133 rfl ?_
    refine r_iret h dX6_total_80 ⟨by decide, by decide⟩ ⟨(by unfold mTotal; simp only [if_pos s_0]), rfl, rfl⟩
  by_cases s_1 : a = 1
  · refine r_tableIn (off := 73) h.ok 81 dX6_total_8 (by rw [s_1]; decide) (by rw [s_1]; decide) (by rw [s_1]; rfl) (by decide) ?_
    refine r_aload_n h.ok dX6_total_81 1 rfl ?_
    refine r_get (v := .int (I 11 0 38)) h.ok 38 dX6_total_82 (xo_11 _) rfl inX6 (by decide) wfl_X6_136 rfl ?_
    refine r_iret h dX6_total_85 ⟨by decide, by decide⟩ ⟨(by unfold mTotal; simp only [if_neg s_0, if_pos s_1]), rfl, rfl⟩
  by_cases s_2 : a = 2
  · refine r_tableIn (off := 78) h.ok 86 dX6_total_8 (by rw [s_2]; decide) (by rw [s_2]; decide) (by rw [s_2]; rfl) (by decide) ?_
    refine r_aload_n h.ok dX6_total_86 1 rfl ?_
    refine r_get (v := .int (I 11 0 39)) h.ok 39 dX6_total_87 (xo_11 _) rfl inX6 (by decide) wfl_X6_139 rfl ?_
    refine r_iret h dX6_total_90 ⟨by decide, by decide⟩ ⟨(by unfold mTotal; simp only [if_neg s_0, if_neg s_1, if_pos s_2]), rfl, rfl⟩
  by_cases s_3 : a = 3
  · refine r_tableIn (off := 83) h.ok 91 dX6_total_8 (by rw [s_3]; decide) (by rw [s_3]; decide) (by rw [s_3]; rfl) (by decide) ?_
    refine r_aload_n h.ok dX6_total_91 1 rfl ?_
    refine r_get (v := .int (I 11 0 40)) h.ok 40 dX6_total_92 (xo_11 _) rfl inX6 (by decide) wfl_X6_199 rfl ?_
    refine r_iret h dX6_total_95 ⟨by decide, by decide⟩ ⟨(by unfold mTotal; simp only [if_neg s_0, if_neg s_1, if_neg s_2, if_pos s_3]), rfl, rfl⟩
  by_cases s_4 : a = 4
  · refine r_tableIn (off := 88) h.ok 96 dX6_total_8 (by rw [s_4]; decide) (by rw [s_4]; decide) (by rw [s_4]; rfl) (by decide) ?_
    refine r_aload_n h.ok dX6_total_96 1 rfl ?_
    refine r_get (v := .int (I 11 0 41)) h.ok 41 dX6_total_97 (xo_11 _) rfl inX6 (by decide) wfl_X6_148 rfl ?_
    refine r_iret h dX6_total_100 ⟨by decide, by decide⟩ ⟨(by unfold mTotal; simp only [if_neg s_0, if_neg s_1, if_neg s_2, if_neg s_3, if_pos s_4]), rfl, rfl⟩
  by_cases s_5 : a = 5
  · refine r_tableIn (off := 93) h.ok 101 dX6_total_8 (by rw [s_5]; decide) (by rw [s_5]; decide) (by rw [s_5]; rfl) (by decide) ?_
    refine r_aload_n h.ok dX6_total_101 1 rfl ?_
    refine r_get (v := .int (I 11 0 42)) h.ok 42 dX6_total_102 (xo_11 _) rfl inX6 (by decide) wfl_X6_145 rfl ?_
    refine r_iret h dX6_total_105 ⟨by decide, by decide⟩ ⟨(by unfold mTotal; simp only [if_neg s_0, if_neg s_1, if_neg s_2, if_neg s_3, if_neg s_4, if_pos s_5]), rfl, rfl⟩
  by_cases s_6 : a = 6
  · refine r_tableIn (off := 98) h.ok 106 dX6_total_8 (by rw [s_6]; decide) (by rw [s_6]; decide) (by rw [s_6]; rfl) (by decide) ?_
    refine r_aload_n h.ok dX6_total_106 1 rfl ?_
    refine r_get (v := .int (I 11 0 1)) h.ok 1 dX6_total_107 (xo_11 _) rfl inX6 (by decide) wfl_X6_107 rfl ?_
    refine r_iret h dX6_total_110 ⟨by decide, by decide⟩ ⟨(by unfold mTotal; simp only [if_neg s_0, if_neg s_1, if_neg s_2, if_neg s_3, if_neg s_4, if_neg s_5, if_pos s_6]), rfl, rfl⟩
  by_cases s_7 : a = 7
  · refine r_tableIn (off := 103) h.ok 111 dX6_total_8 (by rw [s_7]; decide) (by rw [s_7]; decide) (by rw [s_7]; rfl) (by decide) ?_
    refine r_aload_n h.ok dX6_total_111 1 rfl ?_
    refine r_get (v := .int (I 11 0 3)) h.ok 3 dX6_total_112 (xo_11 _) rfl inX6 (by decide) wfl_X6_100 rfl ?_
    refine r_iret h dX6_total_115 ⟨by decide, by decide⟩ ⟨(by unfold mTotal; simp only [if_neg s_0, if_neg s_1, if_neg s_2, if_neg s_3, if_neg s_4, if_neg s_5, if_neg s_6, if_pos s_7]), rfl, rfl⟩
  by_cases s_8 : a = 8
  · refine r_tableIn (off := 108) h.ok 116 dX6_total_8 (by rw [s_8]; decide) (by rw [s_8]; decide) (by rw [s_8]; rfl) (by decide) ?_
    refine r_aload_n h.ok dX6_total_116 1 rfl ?_
    refine r_get (v := .int (I 11 0 17)) h.ok 17 dX6_total_117 (xo_11 _) rfl inX6 (by decide) wfl_X6_184 rfl ?_
    refine r_iret h dX6_total_120 ⟨by decide, by decide⟩ ⟨(by unfold mTotal; simp only [if_neg s_0, if_neg s_1, if_neg s_2, if_neg s_3, if_neg s_4, if_neg s_5, if_neg s_6, if_neg s_7, if_pos s_8]), rfl, rfl⟩
  by_cases s_9 : a = 9
  · refine r_tableIn (off := 113) h.ok 121 dX6_total_8 (by rw [s_9]; decide) (by rw [s_9]; decide) (by rw [s_9]; rfl) (by decide) ?_
    refine r_aload_n h.ok dX6_total_121 1 rfl ?_
    refine r_get (v := .int (I 11 0 29)) h.ok 29 dX6_total_122 (xo_11 _) rfl inX6 (by decide) wfl_X6_110 rfl ?_
    refine r_iret h dX6_total_125 ⟨by decide, by decide⟩ ⟨(by unfold mTotal; simp only [if_neg s_0, if_neg s_1, if_neg s_2, if_neg s_3, if_neg s_4, if_neg s_5, if_neg s_6, if_neg s_7, if_neg s_8, if_pos s_9]), rfl, rfl⟩
  by_cases s_10 : a = 10
  · refine r_tableIn (off := 118) h.ok 126 dX6_total_8 (by rw [s_10]; decide) (by rw [s_10]; decide) (by rw [s_10]; rfl) (by decide) ?_
    refine r_iconst (v := 0) h.ok dX6_total_126 (by decide) ?_
    refine r_istore_n (lv' := [(3, .int 0), (2, .int 0), (0, .ref (ad 11 0)), (1, .int a)]) h.ok dX6_total_127 (by decide) rfl ?_
    have lp128 : ∀ (n : Nat) (j : Nat) (x y : Int32), (j ≤ nv) → (nv + 1 ≤ j + n) → (x = nI j) → (y = gSum (mAl I) j) → Rn 128 [(3, .int x), (2, .int y), (0, .ref (ad 11 0)), (1, .int a)] [] ad (cX E ad I F lc ln) 0 0 := by
      intro n
      induction n with
      | zero => intro j  x y  hj hf hx hy; exfalso; omega
      | succ n ih128 =>
        intro j  x y  hj hf hx hy
        refine r_iload_n h.ok dX6_total_128 0 rfl ?_
        refine r_aload_n h.ok dX6_total_129 2 rfl ?_
        refine r_get (v := .int (I 11 0 17)) h.ok 17 dX6_total_130 (xo_11 _) rfl inX6 (by decide) wfl_X6_184 rfl ?_
        rw [hv]
        refine r_icmp_ge h.ok 159 dX6_total_133 (by decide) (fun c_133 => ?_) (fun c_133 => ?_)
        · have jw : j = nv := ge_nI hx (by omega) hj c_133
          refine r_iload_n h.ok dX6_total_159 1 rfl ?_
          refine r_iret h dX6_total_160 ⟨by decide, by decide⟩ ⟨(by unfold mTotal; simp only [if_neg s_0, if_neg s_1, if_neg s_2, if_neg s_3, if_neg s_4, if_neg s_5, if_neg s_6, if_neg s_7, if_neg s_8, if_neg s_9, if_pos s_10]; rw [hy, jw]), rfl, rfl⟩
        · have jw : j < nv := lt_nI hx (by omega) hj c_133
          refine r_iload_n h.ok dX6_total_136 1 rfl ?_
          refine r_aload_n h.ok dX6_total_137 2 rfl ?_
          refine r_get h.ok 22 dX6_total_138 (xo_11 _) rfl inX6 (by decide) wfl_X6_65 rfl ?_
          refine r_iload_n h.ok dX6_total_141 0 rfl ?_
          refine x_zald (v := I 12 22 j) h.ok j dX6_total_142 rfl hx (by omega) (by decide) rfl ?_
          have K_143 : ∀ t : Int32, t = (mAl I j) → Rn 151 [(3, .int x), (2, .int y), (0, .ref (ad 11 0)), (1, .int a)] [.int t, .int y] ad (cX E ad I F lc ln) 0 0 := by
            intro t e_t
            refine r_iadd h.ok dX6_total_151 ?_
            refine r_istore_n (lv' := [(2, .int (y + t)), (3, .int x), (0, .ref (ad 11 0)), (1, .int a)]) h.ok dX6_total_152 (by decide) rfl ?_
            refine r_iinc (v := x + 1) (lv' := [(3, .int (x + 1)), (2, .int (y + t)), (0, .ref (ad 11 0)), (1, .int a)]) h.ok dX6_total_153 1 rfl rfl (by decide) rfl ?_
            refine r_goto h.ok 128 dX6_total_156 (by decide) ?_
            exact ih128 (j + 1) _ _ (by omega) (by omega) (by rw [hx]; exact nI_1 j) (by rw [hy, e_t]; rfl)
          refine r_if_eq h.ok 150 dX6_total_143 (by decide) (fun c_143 => ?_) (fun c_143 => ?_)
          · refine r_iconst (v := 0) h.ok dX6_total_150 (by decide) ?_
            exact K_143 _ (by simp [mAl, c_143])
          · refine r_iconst (v := 1) h.ok dX6_total_146 (by decide) ?_
            refine r_goto h.ok 151 dX6_total_147 (by decide) ?_
            exact K_143 _ (by simp [mAl, c_143])
    exact lp128 (nv + 1) 0 0 0 (Nat.zero_le _) (by omega) rfl rfl
  by_cases s_11 : a = 11
  · refine r_tableIn (off := 153) h.ok 161 dX6_total_8 (by rw [s_11]; decide) (by rw [s_11]; decide) (by rw [s_11]; rfl) (by decide) ?_
    refine r_aload_n h.ok dX6_total_161 1 rfl ?_
    refine r_get (v := .int (I 11 0 2)) h.ok 2 dX6_total_162 (xo_11 _) rfl inX6 (by decide) wfl_X6_7 rfl ?_
    refine r_if_eq h.ok 172 dX6_total_165 (by decide) (fun c_165 => ?_) (fun c_165 => ?_)
    · refine r_iconst (v := 0) h.ok dX6_total_172 (by decide) ?_
      refine r_iret h dX6_total_173 ⟨by decide, by decide⟩ ⟨(by unfold mTotal; simp only [if_neg s_0, if_neg s_1, if_neg s_2, if_neg s_3, if_neg s_4, if_neg s_5, if_neg s_6, if_neg s_7, if_neg s_8, if_neg s_9, if_neg s_10, if_pos s_11, if_pos c_165]), rfl, rfl⟩
    · refine r_iconst (v := 1) h.ok dX6_total_168 (by decide) ?_
      refine r_goto h.ok 173 dX6_total_169 (by decide) ?_
      refine r_iret h dX6_total_173 ⟨by decide, by decide⟩ ⟨(by unfold mTotal; simp only [if_neg s_0, if_neg s_1, if_neg s_2, if_neg s_3, if_neg s_4, if_neg s_5, if_neg s_6, if_neg s_7, if_neg s_8, if_neg s_9, if_neg s_10, if_pos s_11, if_neg c_165]), rfl, rfl⟩
  by_cases s_12 : a = 12
  · refine r_tableIn (off := 166) h.ok 174 dX6_total_8 (by rw [s_12]; decide) (by rw [s_12]; decide) (by rw [s_12]; rfl) (by decide) ?_
    refine r_iconst (v := 0) h.ok dX6_total_174 (by decide) ?_
    refine r_istore_n (lv' := [(3, .int 0), (2, .int 0), (0, .ref (ad 11 0)), (1, .int a)]) h.ok dX6_total_175 (by decide) rfl ?_
    have lp176 : ∀ (n : Nat) (j : Nat) (x y : Int32), (j ≤ nv) → (nv + 1 ≤ j + n) → (x = nI j) → (y = gSum (mRf I) j) → Rn 176 [(3, .int x), (2, .int y), (0, .ref (ad 11 0)), (1, .int a)] [] ad (cX E ad I F lc ln) 0 0 := by
      intro n
      induction n with
      | zero => intro j  x y  hj hf hx hy; exfalso; omega
      | succ n ih176 =>
        intro j  x y  hj hf hx hy
        refine r_iload_n h.ok dX6_total_176 0 rfl ?_
        refine r_aload_n h.ok dX6_total_177 2 rfl ?_
        refine r_get (v := .int (I 11 0 17)) h.ok 17 dX6_total_178 (xo_11 _) rfl inX6 (by decide) wfl_X6_184 rfl ?_
        rw [hv]
        refine r_icmp_ge h.ok 207 dX6_total_181 (by decide) (fun c_181 => ?_) (fun c_181 => ?_)
        · have jw : j = nv := ge_nI hx (by omega) hj c_181
          refine r_iload_n h.ok dX6_total_207 1 rfl ?_
          refine r_iret h dX6_total_208 ⟨by decide, by decide⟩ ⟨(by unfold mTotal; simp only [if_neg s_0, if_neg s_1, if_neg s_2, if_neg s_3, if_neg s_4, if_neg s_5, if_neg s_6, if_neg s_7, if_neg s_8, if_neg s_9, if_neg s_10, if_neg s_11, if_pos s_12]; rw [hy, jw]), rfl, rfl⟩
        · have jw : j < nv := lt_nI hx (by omega) hj c_181
          refine r_iload_n h.ok dX6_total_184 1 rfl ?_
          refine r_aload_n h.ok dX6_total_185 2 rfl ?_
          refine r_get h.ok 18 dX6_total_186 (xo_11 _) rfl inX6 (by decide) wfl_X6_53 rfl ?_
          refine r_iload_n h.ok dX6_total_189 0 rfl ?_
          refine x_iald (v := I 12 18 j) h.ok j dX6_total_190 rfl hx (by omega) (by decide) rfl ?_
          have K_191 : ∀ t : Int32, t = (mRf I j) → Rn 199 [(3, .int x), (2, .int y), (0, .ref (ad 11 0)), (1, .int a)] [.int t, .int y] ad (cX E ad I F lc ln) 0 0 := by
            intro t e_t
            refine r_iadd h.ok dX6_total_199 ?_
            refine r_istore_n (lv' := [(2, .int (y + t)), (3, .int x), (0, .ref (ad 11 0)), (1, .int a)]) h.ok dX6_total_200 (by decide) rfl ?_
            refine r_iinc (v := x + 1) (lv' := [(3, .int (x + 1)), (2, .int (y + t)), (0, .ref (ad 11 0)), (1, .int a)]) h.ok dX6_total_201 1 rfl rfl (by decide) rfl ?_
            refine r_goto h.ok 176 dX6_total_204 (by decide) ?_
            exact ih176 (j + 1) _ _ (by omega) (by omega) (by rw [hx]; exact nI_1 j) (by rw [hy, e_t]; rfl)
          refine r_if_ne h.ok 198 dX6_total_191 (by decide) (fun c_191 => ?_) (fun c_191 => ?_)
          · refine r_iconst (v := 0) h.ok dX6_total_198 (by decide) ?_
            exact K_191 _ (by simp [mRf, c_191])
          · refine r_iconst (v := 1) h.ok dX6_total_194 (by decide) ?_
            refine r_goto h.ok 199 dX6_total_195 (by decide) ?_
            exact K_191 _ (by simp [mRf, c_191])
    exact lp176 (nv + 1) 0 0 0 (Nat.zero_le _) (by omega) rfl rfl
  refine r_tableOut h.ok 209 dX6_total_8 (gOut12 s_0 s_1 s_2 s_3 s_4 s_5 s_6 s_7 s_8 s_9 s_10 s_11 s_12) (by decide) ?_
  refine r_bipush (v := (-2)) h.ok dX6_total_209 (by decide) ?_
  refine r_iret h dX6_total_211 ⟨by decide, by decide⟩ ⟨(by unfold mTotal; simp only [if_neg s_0, if_neg s_1, if_neg s_2, if_neg s_3, if_neg s_4, if_neg s_5, if_neg s_6, if_neg s_7, if_neg s_8, if_neg s_9, if_neg s_10, if_neg s_11, if_neg s_12]), rfl, rfl⟩
set_option maxHeartbeats 4000000 in
set_option maxRecDepth 100000 in
theorem c_X6_visitOf (D : va_G) (E : gEc) (ad : gAd) (I : gI) (F : gF) (lc ln : Nat) (c i : Int32) (ht : I 11 0 0 = 0) (nc : Nat) (hn : I 11 0 3 = nI nc) (h12 : nc ≤ 12) (nv : Nat) (hv : I 11 0 17 = nI nv) (v500 : nv ≤ 500) : gCon D E yX6_visitOf cX6_visitOf 5 (some .int) 2 0 0 [.ref (ad 11 0), .int c, .int i] ad (cX E ad I F lc ln) (gPd (some (.int (mVisitOf I nv c i))) ad (cX E ad I F lc ln)) := by
  refine gCon.of (by decide) (Nat.le_of_ble_eq_true rfl) ?_
  intro l A Rn h
  show Rn 0 [(0, .ref (ad 11 0)), (1, .int c), (2, .int i)] [] ad (cX E ad I F lc ln) 0 0
  refine r_aload_n h.ok dX6_visitOf_0 0 rfl ?_
  refine r_iconst (v := 0) h.ok dX6_visitOf_1 (by decide) ?_
  refine r_put (ty := tyX6) h.ok 0 dX6_visitOf_2 (xo_11 _) rfl inX6 tyX6_ok nmX6 (by decide) wfl_X6_97 rfl rfl rfl (by simp) (cX_thr ht) ?_
  refine r_aload_n h.ok dX6_visitOf_5 0 rfl ?_
  refine r_iload_n h.ok dX6_visitOf_6 1 rfl ?_
  refine r_callV h.ok [.int c] [] dX6_visitOf_7 (c_X6_noCow D E ad I F lc ln c) wml_X6_159 wim_X6_noCow wse_X6_noCow win_X6 wco_X6_noCow yok_X6_noCow (xo_11 _) rfl rfl ⟨by decide, by decide, by simp [gRm], by simp [gRm]⟩ (Nat.le_of_ble_eq_true rfl) rfl ?_
  show Rn 10 [(0, .ref (ad 11 0)), (1, .int c), (2, .int i)] [.int (pI (mNo I c))] ad (cX E ad I F lc ln) 0 0
  refine r_if_eq h.ok 15 dX6_visitOf_10 (by decide) (fun c_10 => ?_) (fun c_10 => ?_)
  · refine r_iconst (v := 0) h.ok dX6_visitOf_15 (by decide) ?_
    refine r_istore_n (lv' := [(3, .int 0), (0, .ref (ad 11 0)), (1, .int c), (2, .int i)]) h.ok dX6_visitOf_16 (by decide) rfl ?_
    refine r_iconst (v := 0) h.ok dX6_visitOf_17 (by decide) ?_
    refine r_istore (lv' := [(4, .int 0), (3, .int 0), (0, .ref (ad 11 0)), (1, .int c), (2, .int i)]) h.ok dX6_visitOf_18 (by decide) rfl ?_
    have lp20 : ∀ (n : Nat) (j : Nat) (x y : Int32), (j ≤ nv) → (nv + 1 ≤ j + n) → (x = nI j) → (gNth (fun v => I 12 19 v = c) i (nv - 0) 0 0 = gNth (fun v => I 12 19 v = c) i (nv - j) j y) → Rn 20 [(4, .int x), (3, .int y), (0, .ref (ad 11 0)), (1, .int c), (2, .int i)] [] ad (cX E ad I F lc ln) 0 0 := by
      intro n
      induction n with
      | zero => intro j  x y  hj hf hx hs; exfalso; omega
      | succ n ih20 =>
        intro j  x y  hj hf hx hs
        refine r_iload h.ok dX6_visitOf_20 0 rfl ?_
        refine r_aload_n h.ok dX6_visitOf_22 2 rfl ?_
        refine r_get (v := .int (I 11 0 17)) h.ok 17 dX6_visitOf_23 (xo_11 _) rfl inX6 (by decide) wfl_X6_184 rfl ?_
        rw [hv]
        refine r_icmp_ge h.ok 57 dX6_visitOf_26 (by decide) (fun c_26 => ?_) (fun c_26 => ?_)
        · have jw : j = nv := ge_nI hx (by omega) hj c_26
          refine r_bipush (v := (-9)) h.ok dX6_visitOf_57 (by decide) ?_
          refine r_iret h dX6_visitOf_59 ⟨by decide, by decide⟩ ⟨(by unfold mVisitOf; rw [if_pos c_10]; rw [hs, gNth_end (by omega)]), rfl, rfl⟩
        · have jw : j < nv := lt_nI hx (by omega) hj c_26
          refine r_aload_n h.ok dX6_visitOf_29 2 rfl ?_
          refine r_get h.ok 19 dX6_visitOf_30 (xo_11 _) rfl inX6 (by decide) wfl_X6_56 rfl ?_
          refine r_iload h.ok dX6_visitOf_33 0 rfl ?_
          refine x_iald (v := I 12 19 j) h.ok j dX6_visitOf_35 rfl hx (by omega) (by decide) rfl ?_
          refine r_iload_n h.ok dX6_visitOf_36 3 rfl ?_
          refine r_icmp_ne h.ok 51 dX6_visitOf_37 (by decide) (fun c_37 => ?_) (fun c_37 => ?_)
          · refine r_iinc (v := x + 1) (lv' := [(4, .int (x + 1)), (3, .int y), (0, .ref (ad 11 0)), (1, .int c), (2, .int i)]) h.ok dX6_visitOf_51 0 rfl rfl (by decide) rfl ?_
            refine r_goto h.ok 20 dX6_visitOf_54 (by decide) ?_
            exact ih20 (j + 1) _ _ (by omega) (by omega) (by rw [hx]; exact nI_1 j) (by rw [hs]; exact gNth_miss jw c_37)
          · refine r_iload_n h.ok dX6_visitOf_40 1 rfl ?_
            refine r_iload_n h.ok dX6_visitOf_41 4 rfl ?_
            refine r_icmp_ne h.ok 48 dX6_visitOf_42 (by decide) (fun c_42 => ?_) (fun c_42 => ?_)
            · refine r_iinc (v := y + 1) (lv' := [(3, .int (y + 1)), (4, .int x), (0, .ref (ad 11 0)), (1, .int c), (2, .int i)]) h.ok dX6_visitOf_48 1 rfl rfl (by decide) rfl ?_
              refine r_iinc (v := x + 1) (lv' := [(4, .int (x + 1)), (3, .int (y + 1)), (0, .ref (ad 11 0)), (1, .int c), (2, .int i)]) h.ok dX6_visitOf_51 1 rfl rfl (by decide) rfl ?_
              refine r_goto h.ok 20 dX6_visitOf_54 (by decide) ?_
              exact ih20 (j + 1) _ _ (by omega) (by omega) (by rw [hx]; exact nI_1 j) (by rw [hs]; exact gNth_next jw c_37 c_42)
            · refine r_iload h.ok dX6_visitOf_45 0 rfl ?_
              refine r_iret h dX6_visitOf_47 ⟨by decide, by decide⟩ ⟨(by unfold mVisitOf; rw [if_pos c_10]; rw [hs, gNth_hit jw c_37 c_42, hx]), rfl, rfl⟩
    exact lp20 (nv + 1) 0 0 0 (Nat.zero_le _) (by omega) rfl rfl
  · refine r_iconst (v := (-1)) h.ok dX6_visitOf_13 (by decide) ?_
    refine r_iret h dX6_visitOf_14 ⟨by decide, by decide⟩ ⟨(by unfold mVisitOf; rw [if_neg c_10]), rfl, rfl⟩
set_option maxHeartbeats 4000000 in
set_option maxRecDepth 100000 in
theorem c_X6_gave (D : va_G) (E : gEc) (ad : gAd) (I : gI) (F : gF) (lc ln : Nat) (c i : Int32) (ht : I 11 0 0 = 0) (nc : Nat) (hn : I 11 0 3 = nI nc) (h12 : nc ≤ 12) (nv : Nat) (hv : I 11 0 17 = nI nv) (v500 : nv ≤ 500) : gCon D E yX6_gave cX6_gave 5 (some .int) 2 0 0 [.ref (ad 11 0), .int c, .int i] ad (cX E ad I F lc ln) (gPd (some (.int (mGave I nv c i))) ad (cX E ad I F lc ln)) := by
  refine gCon.of (by decide) (Nat.le_of_ble_eq_true rfl) ?_
  intro l A Rn h
  show Rn 0 [(0, .ref (ad 11 0)), (1, .int c), (2, .int i)] [] ad (cX E ad I F lc ln) 0 0
  refine r_aload_n h.ok dX6_gave_0 0 rfl ?_
  refine r_iconst (v := 0) h.ok dX6_gave_1 (by decide) ?_
  refine r_put (ty := tyX6) h.ok 0 dX6_gave_2 (xo_11 _) rfl inX6 tyX6_ok nmX6 (by decide) wfl_X6_97 rfl rfl rfl (by simp) (cX_thr ht) ?_
  refine r_aload_n h.ok dX6_gave_5 0 rfl ?_
  refine r_iload_n h.ok dX6_gave_6 1 rfl ?_
  refine r_callV h.ok [.int c] [] dX6_gave_7 (c_X6_noCow D E ad I F lc ln c) wml_X6_159 wim_X6_noCow wse_X6_noCow win_X6 wco_X6_noCow yok_X6_noCow (xo_11 _) rfl rfl ⟨by decide, by decide, by simp [gRm], by simp [gRm]⟩ (Nat.le_of_ble_eq_true rfl) rfl ?_
  show Rn 10 [(0, .ref (ad 11 0)), (1, .int c), (2, .int i)] [.int (pI (mNo I c))] ad (cX E ad I F lc ln) 0 0
  refine r_if_eq h.ok 15 dX6_gave_10 (by decide) (fun c_10 => ?_) (fun c_10 => ?_)
  · refine r_iload_n h.ok dX6_gave_15 2 rfl ?_
    refine r_if_ge h.ok 22 dX6_gave_16 (by decide) (fun c_16 => ?_) (fun c_16 => ?_)
    · refine r_iconst (v := 0) h.ok dX6_gave_22 (by decide) ?_
      refine r_istore_n (lv' := [(3, .int 0), (0, .ref (ad 11 0)), (1, .int c), (2, .int i)]) h.ok dX6_gave_23 (by decide) rfl ?_
      refine r_iconst (v := 0) h.ok dX6_gave_24 (by decide) ?_
      refine r_istore (lv' := [(4, .int 0), (3, .int 0), (0, .ref (ad 11 0)), (1, .int c), (2, .int i)]) h.ok dX6_gave_25 (by decide) rfl ?_
      have lp27 : ∀ (n : Nat) (j : Nat) (x y : Int32), (j ≤ nv) → (nv + 1 ≤ j + n) → (x = nI j) → (y = gSum (mGv I c i) j) → Rn 27 [(4, .int x), (3, .int y), (0, .ref (ad 11 0)), (1, .int c), (2, .int i)] [] ad (cX E ad I F lc ln) 0 0 := by
        intro n
        induction n with
        | zero => intro j  x y  hj hf hx hy; exfalso; omega
        | succ n ih27 =>
          intro j  x y  hj hf hx hy
          refine r_iload h.ok dX6_gave_27 0 rfl ?_
          refine r_aload_n h.ok dX6_gave_29 2 rfl ?_
          refine r_get (v := .int (I 11 0 17)) h.ok 17 dX6_gave_30 (xo_11 _) rfl inX6 (by decide) wfl_X6_184 rfl ?_
          rw [hv]
          refine r_icmp_ge h.ok 94 dX6_gave_33 (by decide) (fun c_33 => ?_) (fun c_33 => ?_)
          · have jw : j = nv := ge_nI hx (by omega) hj c_33
            refine r_iload_n h.ok dX6_gave_94 1 rfl ?_
            refine r_iret h dX6_gave_95 ⟨by decide, by decide⟩ ⟨(by unfold mGave; simp only [if_pos c_10, if_pos c_16]; rw [hy, jw]), rfl, rfl⟩
          · have jw : j < nv := lt_nI hx (by omega) hj c_33
            refine r_iload_n h.ok dX6_gave_36 1 rfl ?_
            refine r_aload_n h.ok dX6_gave_37 2 rfl ?_
            refine r_get h.ok 19 dX6_gave_38 (xo_11 _) rfl inX6 (by decide) wfl_X6_56 rfl ?_
            refine r_iload h.ok dX6_gave_41 0 rfl ?_
            refine x_iald (v := I 12 19 j) h.ok j dX6_gave_43 rfl hx (by omega) (by decide) rfl ?_
            refine r_iload_n h.ok dX6_gave_44 3 rfl ?_
            have K_45 : ∀ t : Int32, t = (mGv I c i j) → Rn 86 [(4, .int x), (3, .int y), (0, .ref (ad 11 0)), (1, .int c), (2, .int i)] [.int t, .int y] ad (cX E ad I F lc ln) 0 0 := by
              intro t e_t
              refine r_iadd h.ok dX6_gave_86 ?_
              refine r_istore_n (lv' := [(3, .int (y + t)), (4, .int x), (0, .ref (ad 11 0)), (1, .int c), (2, .int i)]) h.ok dX6_gave_87 (by decide) rfl ?_
              refine r_iinc (v := x + 1) (lv' := [(4, .int (x + 1)), (3, .int (y + t)), (0, .ref (ad 11 0)), (1, .int c), (2, .int i)]) h.ok dX6_gave_88 1 rfl rfl (by decide) rfl ?_
              refine r_goto h.ok 27 dX6_gave_91 (by decide) ?_
              exact ih27 (j + 1) _ _ (by omega) (by omega) (by rw [hx]; exact nI_1 j) (by rw [hy, e_t]; rfl)
            refine r_icmp_ne h.ok 85 dX6_gave_45 (by decide) (fun c_45 => ?_) (fun c_45 => ?_)
            · refine r_iconst (v := 0) h.ok dX6_gave_85 (by decide) ?_
              exact K_45 _ (by simp [mGv, c_45])
            · refine r_aload_n h.ok dX6_gave_48 2 rfl ?_
              refine r_get h.ok 24 dX6_gave_49 (xo_11 _) rfl inX6 (by decide) wfl_X6_72 rfl ?_
              refine r_iload h.ok dX6_gave_52 0 rfl ?_
              refine x_iald (v := I 12 24 j) h.ok j dX6_gave_54 rfl hx (by omega) (by decide) rfl ?_
              refine r_bipush (v := (-9)) h.ok dX6_gave_55 (by decide) ?_
              refine r_icmp_eq h.ok 85 dX6_gave_57 (by decide) (fun c_57 => ?_) (fun c_57 => ?_)
              · refine r_iconst (v := 0) h.ok dX6_gave_85 (by decide) ?_
                exact K_45 _ (by simp [mGv, c_45, c_57])
              · refine r_aload_n h.ok dX6_gave_60 2 rfl ?_
                refine r_get h.ok 24 dX6_gave_61 (xo_11 _) rfl inX6 (by decide) wfl_X6_72 rfl ?_
                refine r_iload h.ok dX6_gave_64 0 rfl ?_
                refine x_iald (v := I 12 24 j) h.ok j dX6_gave_66 rfl hx (by omega) (by decide) rfl ?_
                refine r_sipush (v := 1440) h.ok dX6_gave_67 (by decide) ?_
                refine r_idiv h.ok dX6_gave_70 (by decide) ?_
                refine r_iload_n h.ok dX6_gave_71 4 rfl ?_
                refine r_icmp_ne h.ok 85 dX6_gave_72 (by decide) (fun c_72 => ?_) (fun c_72 => ?_)
                · refine r_iconst (v := 0) h.ok dX6_gave_85 (by decide) ?_
                  exact K_45 _ (by simp [mGv, c_45, c_57, c_72])
                · refine r_aload_n h.ok dX6_gave_75 2 rfl ?_
                  refine r_get h.ok 25 dX6_gave_76 (xo_11 _) rfl inX6 (by decide) wfl_X6_75 rfl ?_
                  refine r_iload h.ok dX6_gave_79 0 rfl ?_
                  refine x_iald (v := I 12 25 j) h.ok j dX6_gave_81 rfl hx (by omega) (by decide) rfl ?_
                  refine r_goto h.ok 86 dX6_gave_82 (by decide) ?_
                  exact K_45 _ (by simp [mGv, c_45, c_57, c_72])
      exact lp27 (nv + 1) 0 0 0 (Nat.zero_le _) (by omega) rfl rfl
    · refine r_bipush (v := (-2)) h.ok dX6_gave_19 (by decide) ?_
      refine r_iret h dX6_gave_21 ⟨by decide, by decide⟩ ⟨(by unfold mGave; simp only [if_pos c_10, if_neg c_16]), rfl, rfl⟩
  · refine r_iconst (v := (-1)) h.ok dX6_gave_13 (by decide) ?_
    refine r_iret h dX6_gave_14 ⟨by decide, by decide⟩ ⟨(by unfold mGave; simp only [if_neg c_10]), rfl, rfl⟩
set_option maxHeartbeats 4000000 in
set_option maxRecDepth 100000 in
theorem c_X6_longest (D : va_G) (E : gEc) (ad : gAd) (I : gI) (F : gF) (lc ln : Nat) (ht : I 11 0 0 = 0) (nv : Nat) (hv : I 11 0 17 = nI nv) (v500 : nv ≤ 500) : gCon D E yX6_longest cX6_longest 4 (some .int) 0 0 0 [.ref (ad 11 0)] ad (cX E ad I F lc ln) (gPd (some (.int (mLongest I nv))) ad (cX E ad I F lc ln)) := by
  refine gCon.of (by decide) (Nat.le_of_ble_eq_true rfl) ?_
  intro l A Rn h
  show Rn 0 [(0, .ref (ad 11 0))] [] ad (cX E ad I F lc ln) 0 0
  refine r_aload_n h.ok dX6_longest_0 0 rfl ?_
  refine r_iconst (v := 0) h.ok dX6_longest_1 (by decide) ?_
  refine r_put (ty := tyX6) h.ok 0 dX6_longest_2 (xo_11 _) rfl inX6 tyX6_ok nmX6 (by decide) wfl_X6_97 rfl rfl rfl (by simp) (cX_thr ht) ?_
  refine r_iconst (v := 0) h.ok dX6_longest_5 (by decide) ?_
  refine r_istore_n (lv' := [(1, .int 0), (0, .ref (ad 11 0))]) h.ok dX6_longest_6 (by decide) rfl ?_
  refine r_iconst (v := 0) h.ok dX6_longest_7 (by decide) ?_
  refine r_istore_n (lv' := [(2, .int 0), (1, .int 0), (0, .ref (ad 11 0))]) h.ok dX6_longest_8 (by decide) rfl ?_
  have lp9 : ∀ (n : Nat) (j : Nat) (x y : Int32), (j ≤ nv) → (nv + 1 ≤ j + n) → (x = nI j) → (y = gMax (mWt I) j) → Rn 9 [(2, .int x), (1, .int y), (0, .ref (ad 11 0))] [] ad (cX E ad I F lc ln) 0 0 := by
    intro n
    induction n with
    | zero => intro j  x y  hj hf hx hy; exfalso; omega
    | succ n ih9 =>
      intro j  x y  hj hf hx hy
      refine r_iload_n h.ok dX6_longest_9 0 rfl ?_
      refine r_aload_n h.ok dX6_longest_10 2 rfl ?_
      refine r_get (v := .int (I 11 0 17)) h.ok 17 dX6_longest_11 (xo_11 _) rfl inX6 (by decide) wfl_X6_184 rfl ?_
      rw [hv]
      refine r_icmp_ge h.ok 63 dX6_longest_14 (by decide) (fun c_14 => ?_) (fun c_14 => ?_)
      · have jw : j = nv := ge_nI hx (by omega) hj c_14
        refine r_iload_n h.ok dX6_longest_63 1 rfl ?_
        refine r_iret h dX6_longest_64 ⟨by decide, by decide⟩ ⟨(by rw [hy, jw]; rfl), rfl, rfl⟩
      · have jw : j < nv := lt_nI hx (by omega) hj c_14
        refine r_aload_n h.ok dX6_longest_17 2 rfl ?_
        refine r_get h.ok 23 dX6_longest_18 (xo_11 _) rfl inX6 (by decide) wfl_X6_69 rfl ?_
        refine r_iload_n h.ok dX6_longest_21 0 rfl ?_
        refine x_iald (v := I 12 23 j) h.ok j dX6_longest_22 rfl hx (by omega) (by decide) rfl ?_
        refine r_bipush (v := (-9)) h.ok dX6_longest_23 (by decide) ?_
        have K_25 : ∀ t : Int32, t = (mWt I j) → Rn 45 [(2, .int x), (1, .int y), (0, .ref (ad 11 0))] [.int t] ad (cX E ad I F lc ln) 0 0 := by
          intro t e_t
          refine r_istore_n (lv' := [(3, .int t), (2, .int x), (1, .int y), (0, .ref (ad 11 0))]) h.ok dX6_longest_45 (by decide) rfl ?_
          refine r_iload_n h.ok dX6_longest_46 0 rfl ?_
          refine r_iload_n h.ok dX6_longest_47 2 rfl ?_
          have K_48 : ∀ u : Int32, u = (if t ≤ y then y else t) → Rn 56 [(3, .int t), (2, .int x), (1, .int y), (0, .ref (ad 11 0))] [.int u] ad (cX E ad I F lc ln) 0 0 := by
            intro u e_u
            refine r_istore_n (lv' := [(1, .int u), (3, .int t), (2, .int x), (0, .ref (ad 11 0))]) h.ok dX6_longest_56 (by decide) rfl ?_
            refine r_iinc (v := x + 1) (lv' := [(2, .int (x + 1)), (1, .int u), (3, .int t), (0, .ref (ad 11 0))]) h.ok dX6_longest_57 2 rfl rfl (by decide) rfl ?_
            refine r_goto h.ok 9 dX6_longest_60 (by decide) ?_
            refine r_lv (lv' := [(2, .int (x + 1)), (1, .int u), (0, .ref (ad 11 0))]) h.ok [0, 1, 3] rfl ?_
            exact ih9 (j + 1) _ _ (by omega) (by omega) (by rw [hx]; exact nI_1 j) (by rw [e_u, e_t, hy]; rfl)
          refine r_icmp_le h.ok 55 dX6_longest_48 (by decide) (fun c_48 => ?_) (fun c_48 => ?_)
          · refine r_iload_n h.ok dX6_longest_55 2 rfl ?_
            exact K_48 _ (by simp [c_48])
          · refine r_iload_n h.ok dX6_longest_51 0 rfl ?_
            refine r_goto h.ok 56 dX6_longest_52 (by decide) ?_
            exact K_48 _ (by simp [c_48])
        refine r_icmp_ne h.ok 32 dX6_longest_25 (by decide) (fun c_25 => ?_) (fun c_25 => ?_)
        · refine r_aload_n h.ok dX6_longest_32 2 rfl ?_
          refine r_get h.ok 23 dX6_longest_33 (xo_11 _) rfl inX6 (by decide) wfl_X6_69 rfl ?_
          refine r_iload_n h.ok dX6_longest_36 0 rfl ?_
          refine x_iald (v := I 12 23 j) h.ok j dX6_longest_37 rfl hx (by omega) (by decide) rfl ?_
          refine r_aload_n h.ok dX6_longest_38 2 rfl ?_
          refine r_get h.ok 20 dX6_longest_39 (xo_11 _) rfl inX6 (by decide) wfl_X6_59 rfl ?_
          refine r_iload_n h.ok dX6_longest_42 0 rfl ?_
          refine x_iald (v := I 12 20 j) h.ok j dX6_longest_43 rfl hx (by omega) (by decide) rfl ?_
          refine r_isub h.ok dX6_longest_44 ?_
          exact K_25 _ (by simp [mWt, c_25])
        · refine r_iconst (v := 0) h.ok dX6_longest_28 (by decide) ?_
          refine r_goto h.ok 45 dX6_longest_29 (by decide) ?_
          exact K_25 _ (by simp [mWt, c_25])
  exact lp9 (nv + 1) 0 0 0 (Nat.zero_le _) (by omega) rfl rfl
set_option maxHeartbeats 4000000 in
set_option maxRecDepth 100000 in
theorem c_X6_rank (D : va_G) (E : gEc) (ad : gAd) (I : gI) (F : gF) (lc ln : Nat) (i : Int32) (ht : I 11 0 0 = 0) (nc : Nat) (hn : I 11 0 3 = nI nc) (h12 : nc ≤ 12) : gCon D E yX6_rank cX6_rank 5 (some .int) 0 0 0 [.ref (ad 11 0), .int i] ad (cX E ad I F lc ln) (gPd (some (.int (mRank I nc i))) ad (cX E ad I F lc ln)) := by
  refine gCon.of (by decide) (Nat.le_of_ble_eq_true rfl) ?_
  intro l A Rn h
  show Rn 0 [(0, .ref (ad 11 0)), (1, .int i)] [] ad (cX E ad I F lc ln) 0 0
  refine r_aload_n h.ok dX6_rank_0 0 rfl ?_
  refine r_iconst (v := 0) h.ok dX6_rank_1 (by decide) ?_
  refine r_put (ty := tyX6) h.ok 0 dX6_rank_2 (xo_11 _) rfl inX6 tyX6_ok nmX6 (by decide) wfl_X6_97 rfl rfl rfl (by simp) (cX_thr ht) ?_
  refine r_iconst (v := 0) h.ok dX6_rank_5 (by decide) ?_
  refine r_istore_n (lv' := [(2, .int 0), (0, .ref (ad 11 0)), (1, .int i)]) h.ok dX6_rank_6 (by decide) rfl ?_
  have lp7 : ∀ (n : Nat) (c : Nat) (x2 : Int32), (c ≤ nc) → (nc + 1 ≤ c + n) → (x2 = nI c) → (mRank I nc i = gFind (fun c => gSum (mFo I c) nc = i) (nc - c) c) → Rn 7 [(2, .int x2), (0, .ref (ad 11 0)), (1, .int i)] [] ad (cX E ad I F lc ln) 0 0 := by
    intro n
    induction n with
    | zero => intro c  x2  hc hfc hx2 hs; exfalso; omega
    | succ n ih7 =>
      intro c  x2  hc hfc hx2 hs
      refine r_iload_n h.ok dX6_rank_7 0 rfl ?_
      refine r_aload_n h.ok dX6_rank_8 1 rfl ?_
      refine r_get (v := .int (I 11 0 3)) h.ok 3 dX6_rank_9 (xo_11 _) rfl inX6 (by decide) wfl_X6_100 rfl ?_
      rw [hn]
      refine r_icmp_ge h.ok 94 dX6_rank_12 (by decide) (fun c_12 => ?_) (fun c_12 => ?_)
      · have cw : c = nc := ge_nI hx2 (by omega) hc c_12
        refine r_bipush (v := (-9)) h.ok dX6_rank_94 (by decide) ?_
        refine r_iret h dX6_rank_96 ⟨by decide, by decide⟩ ⟨(by rw [hs, gFind_end (by omega)]), rfl, rfl⟩
      · have cw : c < nc := lt_nI hx2 (by omega) hc c_12
        refine r_iconst (v := 0) h.ok dX6_rank_15 (by decide) ?_
        refine r_istore_n (lv' := [(3, .int 0), (2, .int x2), (0, .ref (ad 11 0)), (1, .int i)]) h.ok dX6_rank_16 (by decide) rfl ?_
        refine r_iconst (v := 0) h.ok dX6_rank_17 (by decide) ?_
        refine r_istore (lv' := [(4, .int 0), (3, .int 0), (2, .int x2), (0, .ref (ad 11 0)), (1, .int i)]) h.ok dX6_rank_18 (by decide) rfl ?_
        have lp20 : ∀ (n : Nat) (j : Nat) (x y : Int32), (j ≤ nc) → (nc + 1 ≤ j + n) → (x = nI j) → (y = gSum (mFo I c) j) → Rn 20 [(4, .int x), (3, .int y), (2, .int x2), (0, .ref (ad 11 0)), (1, .int i)] [] ad (cX E ad I F lc ln) 0 0 := by
          intro n
          induction n with
          | zero => intro j  x y  hj hf hx hy; exfalso; omega
          | succ n ih20 =>
            intro j  x y  hj hf hx hy
            refine r_iload h.ok dX6_rank_20 0 rfl ?_
            refine r_aload_n h.ok dX6_rank_22 3 rfl ?_
            refine r_get (v := .int (I 11 0 3)) h.ok 3 dX6_rank_23 (xo_11 _) rfl inX6 (by decide) wfl_X6_100 rfl ?_
            rw [hn]
            refine r_icmp_ge h.ok 81 dX6_rank_26 (by decide) (fun c_26 => ?_) (fun c_26 => ?_)
            · have jw : j = nc := ge_nI hx (by omega) hj c_26
              refine r_iload_n h.ok dX6_rank_81 1 rfl ?_
              refine r_iload_n h.ok dX6_rank_82 4 rfl ?_
              refine r_icmp_ne h.ok 88 dX6_rank_83 (by decide) (fun c_83 => ?_) (fun c_83 => ?_)
              · refine r_iinc (v := x2 + 1) (lv' := [(2, .int (x2 + 1)), (4, .int x), (3, .int y), (0, .ref (ad 11 0)), (1, .int i)]) h.ok dX6_rank_88 2 rfl rfl (by decide) rfl ?_
                refine r_goto h.ok 7 dX6_rank_91 (by decide) ?_
                refine r_lv (lv' := [(2, .int (x2 + 1)), (0, .ref (ad 11 0)), (1, .int i)]) h.ok [0, 3, 4] rfl ?_
                exact ih7 (c + 1) _ (by omega) (by omega) (by rw [hx2]; exact nI_1 c) (by rw [hs]; exact gFind_miss cw (show ¬ gSum (mFo I c) nc = i by rw [← jw, ← hy]; exact c_83))
              · refine r_iload_n h.ok dX6_rank_86 2 rfl ?_
                refine r_iret h dX6_rank_87 ⟨by decide, by decide⟩ ⟨(by rw [hs, gFind_hit cw (show gSum (mFo I c) nc = i by rw [← jw, ← hy]; exact c_83), hx2]), rfl, rfl⟩
            · have jw : j < nc := lt_nI hx (by omega) hj c_26
              refine r_iload_n h.ok dX6_rank_29 1 rfl ?_
              refine r_aload_n h.ok dX6_rank_30 3 rfl ?_
              refine r_get h.ok 15 dX6_rank_31 (xo_11 _) rfl inX6 (by decide) wfl_X6_47 rfl ?_
              refine r_iload h.ok dX6_rank_34 0 rfl ?_
              refine x_iald (v := I 12 15 j) h.ok j dX6_rank_36 rfl hx (by omega) (by decide) rfl ?_
              refine r_aload_n h.ok dX6_rank_37 3 rfl ?_
              refine r_get h.ok 15 dX6_rank_38 (xo_11 _) rfl inX6 (by decide) wfl_X6_47 rfl ?_
              refine r_iload_n h.ok dX6_rank_41 2 rfl ?_
              refine x_iald (v := I 12 15 c) h.ok c dX6_rank_42 rfl hx2 (by omega) (by decide) rfl ?_
              have K_43 : ∀ t : Int32, t = (mFo I c j) → Rn 73 [(4, .int x), (3, .int y), (2, .int x2), (0, .ref (ad 11 0)), (1, .int i)] [.int t, .int y] ad (cX E ad I F lc ln) 0 0 := by
                intro t e_t
                refine r_iadd h.ok dX6_rank_73 ?_
                refine r_istore_n (lv' := [(3, .int (y + t)), (4, .int x), (2, .int x2), (0, .ref (ad 11 0)), (1, .int i)]) h.ok dX6_rank_74 (by decide) rfl ?_
                refine r_iinc (v := x + 1) (lv' := [(4, .int (x + 1)), (3, .int (y + t)), (2, .int x2), (0, .ref (ad 11 0)), (1, .int i)]) h.ok dX6_rank_75 1 rfl rfl (by decide) rfl ?_
                refine r_goto h.ok 20 dX6_rank_78 (by decide) ?_
                exact ih20 (j + 1) _ _ (by omega) (by omega) (by rw [hx]; exact nI_1 j) (by rw [hy, e_t]; rfl)
              refine r_icmp_gt h.ok 68 dX6_rank_43 (by decide) (fun c_43 => ?_) (fun c_43 => ?_)
              · refine r_iconst (v := 1) h.ok dX6_rank_68 (by decide) ?_
                refine r_goto h.ok 73 dX6_rank_69 (by decide) ?_
                exact K_43 _ (by unfold mFo; rw [if_pos c_43])
              · refine r_aload_n h.ok dX6_rank_46 3 rfl ?_
                refine r_get h.ok 15 dX6_rank_47 (xo_11 _) rfl inX6 (by decide) wfl_X6_47 rfl ?_
                refine r_iload h.ok dX6_rank_50 0 rfl ?_
                refine x_iald (v := I 12 15 j) h.ok j dX6_rank_52 rfl hx (by omega) (by decide) rfl ?_
                refine r_aload_n h.ok dX6_rank_53 3 rfl ?_
                refine r_get h.ok 15 dX6_rank_54 (xo_11 _) rfl inX6 (by decide) wfl_X6_47 rfl ?_
                refine r_iload_n h.ok dX6_rank_57 2 rfl ?_
                refine x_iald (v := I 12 15 c) h.ok c dX6_rank_58 rfl hx2 (by omega) (by decide) rfl ?_
                refine r_icmp_ne h.ok 72 dX6_rank_59 (by decide) (fun c_59 => ?_) (fun c_59 => ?_)
                · refine r_iconst (v := 0) h.ok dX6_rank_72 (by decide) ?_
                  exact K_43 _ (by unfold mFo; rw [if_neg c_43, if_neg c_59])
                · refine r_iload h.ok dX6_rank_62 0 rfl ?_
                  refine r_iload_n h.ok dX6_rank_64 2 rfl ?_
                  refine r_icmp_ge h.ok 72 dX6_rank_65 (by decide) (fun c_65 => ?_) (fun c_65 => ?_)
                  · refine r_iconst (v := 0) h.ok dX6_rank_72 (by decide) ?_
                    exact K_43 _ (by unfold mFo; rw [if_neg c_43, if_pos c_59, if_pos (show nI c ≤ nI j by rw [← hx, ← hx2]; exact c_65)])
                  · refine r_iconst (v := 1) h.ok dX6_rank_68 (by decide) ?_
                    refine r_goto h.ok 73 dX6_rank_69 (by decide) ?_
                    exact K_43 _ (by unfold mFo; rw [if_neg c_43, if_pos c_59, if_neg (show ¬ nI c ≤ nI j by rw [← hx, ← hx2]; exact c_65)])
        exact lp20 (nc + 1) 0 0 0 (Nat.zero_le _) (by omega) rfl rfl
  exact lp7 (nc + 1) 0 0 (Nat.zero_le _) (by omega) rfl rfl
end
section
theorem teat_ix {c t : Int32} {n : Nat} (hc : vp_in c 12) (ht : t = nI n) (hn : n < 4) : 4 * c + t = nI (4 * c.toNatClampNeg + n) := by
  have a1 := vp_lt hc
  rw [vp_eq hc, ht, nI_clamp (by omega)]
  rw [show (4 : Int32) = nI 4 by decide, pk_mul, nI_add]
theorem teat_lt {c : Int32} {n : Nat} (hc : vp_in c 12) (hn : n < 4) : 4 * c.toNatClampNeg + n < 48 := by
  have a1 := vp_lt hc
  omega
def mWh (I : gI) (c m : Int32) : Int32 := if I 12 4 c.toNatClampNeg = 2 then 1 else if I 12 11 c.toNatClampNeg ≤ I 11 0 1 then (if I 11 0 37 < I 11 0 36 + m then 2 else 0) else 1
noncomputable def mBegin_I (I : gI) (F : gF) (v c : Int32) : gI := gs (gs (gs (gs (gs (gs (gs (gs (gs (gs (gs (gs (gs (gs (gs (gs (gs (gs (gs (gs (gs (gs I 11 0 31 v) 11 0 32 (mHas I c)) 11 0 33 0) 11 0 34 2) 11 0 34 (2 + (if (I 12 12 (4 * c.toNatClampNeg + 0)) ≤ 3 then (I 12 12 (4 * c.toNatClampNeg + 0)) else 3))) 11 0 33 (0 + (if (I 12 12 (4 * c.toNatClampNeg + 0)) ≤ 3 then (mHas I c) - (3 * ((mHas I c) / 4)) else 0))) 12 12 (4 * c.toNatClampNeg + 0) 0) 11 0 34 ((2 + (if (I 12 12 (4 * c.toNatClampNeg + 0)) ≤ 3 then (I 12 12 (4 * c.toNatClampNeg + 0)) else 3)) + (if (I 12 12 (4 * c.toNatClampNeg + 1)) ≤ 3 then (I 12 12 (4 * c.toNatClampNeg + 1)) else 3))) 11 0 33 ((0 + (if (I 12 12 (4 * c.toNatClampNeg + 0)) ≤ 3 then (mHas I c) - (3 * ((mHas I c) / 4)) else 0)) + (if (I 12 12 (4 * c.toNatClampNeg + 1)) ≤ 3 then (mHas I c) / 4 else 0))) 12 12 (4 * c.toNatClampNeg + 1) 0) 11 0 34 (((2 + (if (I 12 12 (4 * c.toNatClampNeg + 0)) ≤ 3 then (I 12 12 (4 * c.toNatClampNeg + 0)) else 3)) + (if (I 12 12 (4 * c.toNatClampNeg + 1)) ≤ 3 then (I 12 12 (4 * c.toNatClampNeg + 1)) else 3)) + (if (I 12 12 (4 * c.toNatClampNeg + 2)) ≤ 3 then (I 12 12 (4 * c.toNatClampNeg + 2)) else 3))) 11 0 33 (((0 + (if (I 12 12 (4 * c.toNatClampNeg + 0)) ≤ 3 then (mHas I c) - (3 * ((mHas I c) / 4)) else 0)) + (if (I 12 12 (4 * c.toNatClampNeg + 1)) ≤ 3 then (mHas I c) / 4 else 0)) + (if (I 12 12 (4 * c.toNatClampNeg + 2)) ≤ 3 then (mHas I c) / 4 else 0))) 12 12 (4 * c.toNatClampNeg + 2) 0) 11 0 34 ((((2 + (if (I 12 12 (4 * c.toNatClampNeg + 0)) ≤ 3 then (I 12 12 (4 * c.toNatClampNeg + 0)) else 3)) + (if (I 12 12 (4 * c.toNatClampNeg + 1)) ≤ 3 then (I 12 12 (4 * c.toNatClampNeg + 1)) else 3)) + (if (I 12 12 (4 * c.toNatClampNeg + 2)) ≤ 3 then (I 12 12 (4 * c.toNatClampNeg + 2)) else 3)) + (if (I 12 12 (4 * c.toNatClampNeg + 3)) ≤ 3 then (I 12 12 (4 * c.toNatClampNeg + 3)) else 3))) 11 0 33 ((((0 + (if (I 12 12 (4 * c.toNatClampNeg + 0)) ≤ 3 then (mHas I c) - (3 * ((mHas I c) / 4)) else 0)) + (if (I 12 12 (4 * c.toNatClampNeg + 1)) ≤ 3 then (mHas I c) / 4 else 0)) + (if (I 12 12 (4 * c.toNatClampNeg + 2)) ≤ 3 then (mHas I c) / 4 else 0)) + (if (I 12 12 (4 * c.toNatClampNeg + 3)) ≤ 3 then (mHas I c) / 4 else 0))) 12 12 (4 * c.toNatClampNeg + 3) 0) 11 0 35 (((I 11 0 1) + ((((2 + (if (I 12 12 (4 * c.toNatClampNeg + 0)) ≤ 3 then (I 12 12 (4 * c.toNatClampNeg + 0)) else 3)) + (if (I 12 12 (4 * c.toNatClampNeg + 1)) ≤ 3 then (I 12 12 (4 * c.toNatClampNeg + 1)) else 3)) + (if (I 12 12 (4 * c.toNatClampNeg + 2)) ≤ 3 then (I 12 12 (4 * c.toNatClampNeg + 2)) else 3)) + (if (I 12 12 (4 * c.toNatClampNeg + 3)) ≤ 3 then (I 12 12 (4 * c.toNatClampNeg + 3)) else 3))) + ((((((0 + (if (I 12 12 (4 * c.toNatClampNeg + 0)) ≤ 3 then (mHas I c) - (3 * ((mHas I c) / 4)) else 0)) + (if (I 12 12 (4 * c.toNatClampNeg + 1)) ≤ 3 then (mHas I c) / 4 else 0)) + (if (I 12 12 (4 * c.toNatClampNeg + 2)) ≤ 3 then (mHas I c) / 4 else 0)) + (if (I 12 12 (4 * c.toNatClampNeg + 3)) ≤ 3 then (mHas I c) / 4 else 0)) + 19) / 20))) 12 23 v.toNatClampNeg (I 11 0 1)) 12 27 v.toNatClampNeg ((((0 + (if (I 12 12 (4 * c.toNatClampNeg + 0)) ≤ 3 then 0 else 1)) + (if (I 12 12 (4 * c.toNatClampNeg + 1)) ≤ 3 then 0 else 1)) + (if (I 12 12 (4 * c.toNatClampNeg + 2)) ≤ 3 then 0 else 1)) + (if (I 12 12 (4 * c.toNatClampNeg + 3)) ≤ 3 then 0 else 1))) 12 10 c.toNatClampNeg (I 11 0 1)) 12 8 c.toNatClampNeg (I 11 0 1)) 12 9 c.toNatClampNeg 0
set_option maxHeartbeats 4000000 in
set_option maxRecDepth 100000 in
theorem c_X6_begin (D : va_G) (E : gEc) (ad : gAd) (I : gI) (F : gF) (lc ln : Nat) (v c : Int32) (hc : I 12 19 v.toNatClampNeg = c) (iv : vp_in v 500) (ic : vp_in c 12) : gCon D E yX6_begin cX6_begin 7 none 1 0 0 [.ref (ad 11 0), .int v] ad (cX E ad I F lc ln) (gPd none ad (cX E ad (mBegin_I I F v c) F lc ln)) := by
  refine gCon.of (by decide) (Nat.le_of_ble_eq_true rfl) ?_
  intro l A Rn h
  show Rn 0 [(0, .ref (ad 11 0)), (1, .int v)] [] ad (cX E ad I F lc ln) 0 0
  refine r_aload_n h.ok dX6_begin_0 0 rfl ?_
  refine r_get h.ok 19 dX6_begin_1 (xo_11 _) rfl inX6 (by decide) wfl_X6_56 rfl ?_
  refine r_iload_n h.ok dX6_begin_4 1 rfl ?_
  refine x_ialp (v := c) h.ok dX6_begin_5 rfl iv hc ?_
  refine r_istore_n (lv' := [(2, .int c), (0, .ref (ad 11 0)), (1, .int v)]) h.ok dX6_begin_6 (by decide) rfl ?_
  refine r_aload_n h.ok dX6_begin_7 1 rfl ?_
  refine r_iload_n h.ok dX6_begin_8 2 rfl ?_
  refine r_put (ty := tyX6) h.ok 31 dX6_begin_9 (xo_11 _) rfl inX6 tyX6_ok nmX6 (by decide) wfl_X6_90 rfl rfl rfl (by simp) (cX_put (r' := upd (I 11 0) 31 v) (xo_11 _)) ?_
  refine r_aload_n h.ok dX6_begin_12 1 rfl ?_
  refine r_aload_n h.ok dX6_begin_13 1 rfl ?_
  refine r_iload_n h.ok dX6_begin_14 0 rfl ?_
  refine r_callV h.ok [.int c] [.ref (ad 11 0)] dX6_begin_15 (c_X6_has D E ad (gs I 11 0 31 v) F lc ln c ic) wml_X6_117 wim_X6_has wse_X6_has win_X6 wco_X6_has yok_X6_has (xo_11 _) rfl rfl ⟨by decide, by decide, by simp [gRm], by simp [gRm]⟩ (Nat.le_of_ble_eq_true rfl) rfl ?_
  show Rn 18 [(2, .int c), (0, .ref (ad 11 0)), (1, .int v)] [.int (mHas (gs I 11 0 31 v) c), .ref (ad 11 0)] ad (cX E ad (gs I 11 0 31 v) F lc ln) 0 0
  rw [show mHas (gs I 11 0 31 v) c = mHas I c from by simp [mHas, gr, upd]]
  refine r_put (ty := tyX6) h.ok 32 dX6_begin_18 (xo_11 _) rfl inX6 tyX6_ok nmX6 (by decide) wfl_X6_121 rfl rfl rfl (by simp) (cX_put (r' := upd ((gs I 11 0 31 v) 11 0) 32 (mHas I c)) (xo_11 _)) ?_
  refine r_aload_n h.ok dX6_begin_21 1 rfl ?_
  refine r_iconst (v := 0) h.ok dX6_begin_22 (by decide) ?_
  refine r_put (ty := tyX6) h.ok 33 dX6_begin_23 (xo_11 _) rfl inX6 tyX6_ok nmX6 (by decide) wfl_X6_124 rfl rfl rfl (by simp) (cX_put (r' := upd ((gs (gs I 11 0 31 v) 11 0 32 (mHas I c)) 11 0) 33 0) (xo_11 _)) ?_
  refine r_aload_n h.ok dX6_begin_26 1 rfl ?_
  refine r_iconst (v := 2) h.ok dX6_begin_27 (by decide) ?_
  refine r_put (ty := tyX6) h.ok 34 dX6_begin_28 (xo_11 _) rfl inX6 tyX6_ok nmX6 (by decide) wfl_X6_127 rfl rfl rfl (by simp) (cX_put (r' := upd ((gs (gs (gs I 11 0 31 v) 11 0 32 (mHas I c)) 11 0 33 0) 11 0) 34 2) (xo_11 _)) ?_
  refine r_iconst (v := 0) h.ok dX6_begin_31 (by decide) ?_
  refine r_istore_n (lv' := [(3, .int 0), (2, .int c), (0, .ref (ad 11 0)), (1, .int v)]) h.ok dX6_begin_32 (by decide) rfl ?_
  refine r_iconst (v := 0) h.ok dX6_begin_33 (by decide) ?_
  refine r_istore (lv' := [(4, .int 0), (3, .int 0), (2, .int c), (0, .ref (ad 11 0)), (1, .int v)]) h.ok dX6_begin_34 (by decide) rfl ?_
  refine r_iload h.ok dX6_begin_36 0 rfl ?_
  refine r_iconst (v := 4) h.ok dX6_begin_38 (by decide) ?_
  refine r_icmp_ge h.ok 158 dX6_begin_39 (by decide) (fun q => absurd q (by decide)) (fun _ => ?_)
  refine r_iload h.ok dX6_begin_42 0 rfl ?_
  refine r_if_ne h.ok 63 dX6_begin_44 (by decide) (fun q => absurd q (by decide)) (fun _ => ?_)
  refine r_aload_n h.ok dX6_begin_47 3 rfl ?_
  refine r_get (v := .int (mHas I c)) h.ok 32 dX6_begin_48 (xo_11 _) rfl inX6 (by decide) wfl_X6_121 (congrArg (fun z => some (Value.int z)) (by simp [gr, upd] : (gs (gs (gs (gs I 11 0 31 v) 11 0 32 (mHas I c)) 11 0 33 0) 11 0 34 2) 11 0 32 = mHas I c)) ?_
  refine r_iconst (v := 3) h.ok dX6_begin_51 (by decide) ?_
  refine r_aload_n h.ok dX6_begin_52 3 rfl ?_
  refine r_get (v := .int (mHas I c)) h.ok 32 dX6_begin_53 (xo_11 _) rfl inX6 (by decide) wfl_X6_121 (congrArg (fun z => some (Value.int z)) (by simp [gr, upd] : (gs (gs (gs (gs I 11 0 31 v) 11 0 32 (mHas I c)) 11 0 33 0) 11 0 34 2) 11 0 32 = mHas I c)) ?_
  refine r_iconst (v := 4) h.ok dX6_begin_56 (by decide) ?_
  refine r_idiv h.ok dX6_begin_57 (by decide) ?_
  refine r_imul h.ok dX6_begin_58 ?_
  refine r_isub h.ok dX6_begin_59 ?_
  refine r_goto h.ok 69 dX6_begin_60 (by decide) ?_
  refine r_istore (lv' := [(5, .int ((mHas I c) - (3 * ((mHas I c) / 4)))), (4, .int 0), (3, .int 0), (2, .int c), (0, .ref (ad 11 0)), (1, .int v)]) h.ok dX6_begin_69 (by decide) rfl ?_
  refine r_aload_n h.ok dX6_begin_71 4 rfl ?_
  refine r_get h.ok 12 dX6_begin_72 (xo_11 _) rfl inX6 (by decide) wfl_X6_38 rfl ?_
  refine r_iconst (v := 4) h.ok dX6_begin_75 (by decide) ?_
  refine r_iload_n h.ok dX6_begin_76 3 rfl ?_
  refine r_imul h.ok dX6_begin_77 ?_
  refine r_iload h.ok dX6_begin_78 1 rfl ?_
  refine r_iadd h.ok dX6_begin_80 ?_
  refine x_iald (v := I 12 12 (4 * c.toNatClampNeg + 0)) h.ok (4 * c.toNatClampNeg + 0) dX6_begin_81 rfl (teat_ix ic (n := 0) (by decide) (by decide)) (teat_lt ic (by decide)) (by decide) (by simp [gr, upd]) ?_
  refine r_topi (fun n_0 e_n_0 => ?_)
  refine r_istore (lv' := [(6, .int n_0), (5, .int ((mHas I c) - (3 * ((mHas I c) / 4)))), (4, .int 0), (3, .int 0), (2, .int c), (0, .ref (ad 11 0)), (1, .int v)]) h.ok dX6_begin_82 (by decide) rfl ?_
  refine r_aload_n h.ok dX6_begin_84 5 rfl ?_
  refine r_dup h.ok dX6_begin_85 rfl ?_
  refine r_get (v := .int 2) h.ok 34 dX6_begin_86 (xo_11 _) rfl inX6 (by decide) wfl_X6_127 (congrArg (fun z => some (Value.int z)) (by simp [gr, upd] : (gs (gs (gs (gs I 11 0 31 v) 11 0 32 (mHas I c)) 11 0 33 0) 11 0 34 2) 11 0 34 = 2)) ?_
  refine r_iload h.ok dX6_begin_89 0 rfl ?_
  refine r_iconst (v := 3) h.ok dX6_begin_91 (by decide) ?_
  have K_92_0 : ∀ p_0 : Int32, p_0 = (if n_0 ≤ 3 then n_0 else 3) → Rn 101 [(6, .int n_0), (5, .int ((mHas I c) - (3 * ((mHas I c) / 4)))), (4, .int 0), (3, .int 0), (2, .int c), (0, .ref (ad 11 0)), (1, .int v)] [.int p_0, .int 2, .ref (ad 11 0)] ad (cX E ad (gs (gs (gs (gs I 11 0 31 v) 11 0 32 (mHas I c)) 11 0 33 0) 11 0 34 2) F lc ln) 0 0 := by
    intro p_0 e_p_0
    refine r_iadd h.ok dX6_begin_101 ?_
    refine r_put (ty := tyX6) h.ok 34 dX6_begin_102 (xo_11 _) rfl inX6 tyX6_ok nmX6 (by decide) wfl_X6_127 rfl rfl rfl (by simp) (cX_put (r' := upd ((gs (gs (gs (gs I 11 0 31 v) 11 0 32 (mHas I c)) 11 0 33 0) 11 0 34 2) 11 0) 34 (2 + p_0)) (xo_11 _)) ?_
    refine r_iload_n h.ok dX6_begin_105 3 rfl ?_
    refine r_iload h.ok dX6_begin_106 0 rfl ?_
    refine r_iconst (v := 3) h.ok dX6_begin_108 (by decide) ?_
    have K_109_0 : ∀ q_0 : Int32, q_0 = (if n_0 ≤ 3 then 0 else 1) → Rn 117 [(6, .int n_0), (5, .int ((mHas I c) - (3 * ((mHas I c) / 4)))), (4, .int 0), (3, .int 0), (2, .int c), (0, .ref (ad 11 0)), (1, .int v)] [.int q_0, .int 0] ad (cX E ad (gs (gs (gs (gs (gs I 11 0 31 v) 11 0 32 (mHas I c)) 11 0 33 0) 11 0 34 2) 11 0 34 (2 + p_0)) F lc ln) 0 0 := by
      intro q_0 e_q_0
      refine r_iadd h.ok dX6_begin_117 ?_
      refine r_istore_n (lv' := [(3, .int (0 + q_0)), (6, .int n_0), (5, .int ((mHas I c) - (3 * ((mHas I c) / 4)))), (4, .int 0), (2, .int c), (0, .ref (ad 11 0)), (1, .int v)]) h.ok dX6_begin_118 (by decide) rfl ?_
      refine r_aload_n h.ok dX6_begin_119 5 rfl ?_
      refine r_dup h.ok dX6_begin_120 rfl ?_
      refine r_get (v := .int 0) h.ok 33 dX6_begin_121 (xo_11 _) rfl inX6 (by decide) wfl_X6_124 (congrArg (fun z => some (Value.int z)) (by simp [gr, upd] : (gs (gs (gs (gs (gs I 11 0 31 v) 11 0 32 (mHas I c)) 11 0 33 0) 11 0 34 2) 11 0 34 (2 + p_0)) 11 0 33 = 0)) ?_
      refine r_iload h.ok dX6_begin_124 1 rfl ?_
      refine r_iconst (v := 3) h.ok dX6_begin_126 (by decide) ?_
      have K_127_0 : ∀ r_0 : Int32, r_0 = (if n_0 ≤ 3 then (mHas I c) - (3 * ((mHas I c) / 4)) else 0) → Rn 136 [(3, .int (0 + q_0)), (6, .int n_0), (5, .int ((mHas I c) - (3 * ((mHas I c) / 4)))), (4, .int 0), (2, .int c), (0, .ref (ad 11 0)), (1, .int v)] [.int r_0, .int 0, .ref (ad 11 0)] ad (cX E ad (gs (gs (gs (gs (gs I 11 0 31 v) 11 0 32 (mHas I c)) 11 0 33 0) 11 0 34 2) 11 0 34 (2 + p_0)) F lc ln) 0 0 := by
        intro r_0 e_r_0
        refine r_iadd h.ok dX6_begin_136 ?_
        refine r_put (ty := tyX6) h.ok 33 dX6_begin_137 (xo_11 _) rfl inX6 tyX6_ok nmX6 (by decide) wfl_X6_124 rfl rfl rfl (by simp) (cX_put (r' := upd ((gs (gs (gs (gs (gs I 11 0 31 v) 11 0 32 (mHas I c)) 11 0 33 0) 11 0 34 2) 11 0 34 (2 + p_0)) 11 0) 33 (0 + r_0)) (xo_11 _)) ?_
        refine r_aload_n h.ok dX6_begin_140 5 rfl ?_
        refine r_get h.ok 12 dX6_begin_141 (xo_11 _) rfl inX6 (by decide) wfl_X6_38 rfl ?_
        refine r_iconst (v := 4) h.ok dX6_begin_144 (by decide) ?_
        refine r_iload_n h.ok dX6_begin_145 4 rfl ?_
        refine r_imul h.ok dX6_begin_146 ?_
        refine r_iload h.ok dX6_begin_147 3 rfl ?_
        refine r_iadd h.ok dX6_begin_149 ?_
        refine r_iconst (v := 0) h.ok dX6_begin_150 (by decide) ?_
        refine x_iast h.ok (4 * c.toNatClampNeg + 0) dX6_begin_151 (fun _ => rfl) (teat_ix ic (n := 0) (by decide) (by decide)) (teat_lt ic (by decide)) (by decide) ?_
        refine r_iinc (v := 1) (lv' := [(4, .int 1), (3, .int (0 + q_0)), (6, .int n_0), (5, .int ((mHas I c) - (3 * ((mHas I c) / 4)))), (2, .int c), (0, .ref (ad 11 0)), (1, .int v)]) h.ok dX6_begin_152 3 rfl (by decide) (by decide) rfl ?_
        refine r_goto h.ok 36 dX6_begin_155 (by decide) ?_
        refine r_iload h.ok dX6_begin_36 0 rfl ?_
        refine r_iconst (v := 4) h.ok dX6_begin_38 (by decide) ?_
        refine r_icmp_ge h.ok 158 dX6_begin_39 (by decide) (fun q => absurd q (by decide)) (fun _ => ?_)
        refine r_iload h.ok dX6_begin_42 0 rfl ?_
        refine r_if_ne h.ok 63 dX6_begin_44 (by decide) (fun _ => ?_) (fun q => absurd q (by decide))
        refine r_aload_n h.ok dX6_begin_63 5 rfl ?_
        refine r_get (v := .int (mHas I c)) h.ok 32 dX6_begin_64 (xo_11 _) rfl inX6 (by decide) wfl_X6_121 (congrArg (fun z => some (Value.int z)) (by simp [gr, upd] : (gs (gs (gs (gs (gs (gs (gs I 11 0 31 v) 11 0 32 (mHas I c)) 11 0 33 0) 11 0 34 2) 11 0 34 (2 + p_0)) 11 0 33 (0 + r_0)) 12 12 (4 * c.toNatClampNeg + 0) 0) 11 0 32 = mHas I c)) ?_
        refine r_iconst (v := 4) h.ok dX6_begin_67 (by decide) ?_
        refine r_idiv h.ok dX6_begin_68 (by decide) ?_
        refine r_istore (lv' := [(5, .int ((mHas I c) / 4)), (4, .int 1), (3, .int (0 + q_0)), (6, .int n_0), (2, .int c), (0, .ref (ad 11 0)), (1, .int v)]) h.ok dX6_begin_69 (by decide) rfl ?_
        refine r_aload_n h.ok dX6_begin_71 5 rfl ?_
        refine r_get h.ok 12 dX6_begin_72 (xo_11 _) rfl inX6 (by decide) wfl_X6_38 rfl ?_
        refine r_iconst (v := 4) h.ok dX6_begin_75 (by decide) ?_
        refine r_iload_n h.ok dX6_begin_76 4 rfl ?_
        refine r_imul h.ok dX6_begin_77 ?_
        refine r_iload h.ok dX6_begin_78 1 rfl ?_
        refine r_iadd h.ok dX6_begin_80 ?_
        refine x_iald (v := I 12 12 (4 * c.toNatClampNeg + 1)) h.ok (4 * c.toNatClampNeg + 1) dX6_begin_81 rfl (teat_ix ic (n := 1) (by decide) (by decide)) (teat_lt ic (by decide)) (by decide) (by simp [gr, upd]) ?_
        refine r_topi (fun n_1 e_n_1 => ?_)
        refine r_istore (lv' := [(6, .int n_1), (5, .int ((mHas I c) / 4)), (4, .int 1), (3, .int (0 + q_0)), (2, .int c), (0, .ref (ad 11 0)), (1, .int v)]) h.ok dX6_begin_82 (by decide) rfl ?_
        refine r_aload_n h.ok dX6_begin_84 5 rfl ?_
        refine r_dup h.ok dX6_begin_85 rfl ?_
        refine r_get (v := .int (2 + p_0)) h.ok 34 dX6_begin_86 (xo_11 _) rfl inX6 (by decide) wfl_X6_127 (congrArg (fun z => some (Value.int z)) (by simp [gr, upd] : (gs (gs (gs (gs (gs (gs (gs I 11 0 31 v) 11 0 32 (mHas I c)) 11 0 33 0) 11 0 34 2) 11 0 34 (2 + p_0)) 11 0 33 (0 + r_0)) 12 12 (4 * c.toNatClampNeg + 0) 0) 11 0 34 = 2 + p_0)) ?_
        refine r_iload h.ok dX6_begin_89 0 rfl ?_
        refine r_iconst (v := 3) h.ok dX6_begin_91 (by decide) ?_
        have K_92_1 : ∀ p_1 : Int32, p_1 = (if n_1 ≤ 3 then n_1 else 3) → Rn 101 [(6, .int n_1), (5, .int ((mHas I c) / 4)), (4, .int 1), (3, .int (0 + q_0)), (2, .int c), (0, .ref (ad 11 0)), (1, .int v)] [.int p_1, .int (2 + p_0), .ref (ad 11 0)] ad (cX E ad (gs (gs (gs (gs (gs (gs (gs I 11 0 31 v) 11 0 32 (mHas I c)) 11 0 33 0) 11 0 34 2) 11 0 34 (2 + p_0)) 11 0 33 (0 + r_0)) 12 12 (4 * c.toNatClampNeg + 0) 0) F lc ln) 0 0 := by
          intro p_1 e_p_1
          refine r_iadd h.ok dX6_begin_101 ?_
          refine r_put (ty := tyX6) h.ok 34 dX6_begin_102 (xo_11 _) rfl inX6 tyX6_ok nmX6 (by decide) wfl_X6_127 rfl rfl rfl (by simp) (cX_put (r' := upd ((gs (gs (gs (gs (gs (gs (gs I 11 0 31 v) 11 0 32 (mHas I c)) 11 0 33 0) 11 0 34 2) 11 0 34 (2 + p_0)) 11 0 33 (0 + r_0)) 12 12 (4 * c.toNatClampNeg + 0) 0) 11 0) 34 ((2 + p_0) + p_1)) (xo_11 _)) ?_
          refine r_iload_n h.ok dX6_begin_105 3 rfl ?_
          refine r_iload h.ok dX6_begin_106 0 rfl ?_
          refine r_iconst (v := 3) h.ok dX6_begin_108 (by decide) ?_
          have K_109_1 : ∀ q_1 : Int32, q_1 = (if n_1 ≤ 3 then 0 else 1) → Rn 117 [(6, .int n_1), (5, .int ((mHas I c) / 4)), (4, .int 1), (3, .int (0 + q_0)), (2, .int c), (0, .ref (ad 11 0)), (1, .int v)] [.int q_1, .int (0 + q_0)] ad (cX E ad (gs (gs (gs (gs (gs (gs (gs (gs I 11 0 31 v) 11 0 32 (mHas I c)) 11 0 33 0) 11 0 34 2) 11 0 34 (2 + p_0)) 11 0 33 (0 + r_0)) 12 12 (4 * c.toNatClampNeg + 0) 0) 11 0 34 ((2 + p_0) + p_1)) F lc ln) 0 0 := by
            intro q_1 e_q_1
            refine r_iadd h.ok dX6_begin_117 ?_
            refine r_istore_n (lv' := [(3, .int ((0 + q_0) + q_1)), (6, .int n_1), (5, .int ((mHas I c) / 4)), (4, .int 1), (2, .int c), (0, .ref (ad 11 0)), (1, .int v)]) h.ok dX6_begin_118 (by decide) rfl ?_
            refine r_aload_n h.ok dX6_begin_119 5 rfl ?_
            refine r_dup h.ok dX6_begin_120 rfl ?_
            refine r_get (v := .int (0 + r_0)) h.ok 33 dX6_begin_121 (xo_11 _) rfl inX6 (by decide) wfl_X6_124 (congrArg (fun z => some (Value.int z)) (by simp [gr, upd] : (gs (gs (gs (gs (gs (gs (gs (gs I 11 0 31 v) 11 0 32 (mHas I c)) 11 0 33 0) 11 0 34 2) 11 0 34 (2 + p_0)) 11 0 33 (0 + r_0)) 12 12 (4 * c.toNatClampNeg + 0) 0) 11 0 34 ((2 + p_0) + p_1)) 11 0 33 = 0 + r_0)) ?_
            refine r_iload h.ok dX6_begin_124 1 rfl ?_
            refine r_iconst (v := 3) h.ok dX6_begin_126 (by decide) ?_
            have K_127_1 : ∀ r_1 : Int32, r_1 = (if n_1 ≤ 3 then (mHas I c) / 4 else 0) → Rn 136 [(3, .int ((0 + q_0) + q_1)), (6, .int n_1), (5, .int ((mHas I c) / 4)), (4, .int 1), (2, .int c), (0, .ref (ad 11 0)), (1, .int v)] [.int r_1, .int (0 + r_0), .ref (ad 11 0)] ad (cX E ad (gs (gs (gs (gs (gs (gs (gs (gs I 11 0 31 v) 11 0 32 (mHas I c)) 11 0 33 0) 11 0 34 2) 11 0 34 (2 + p_0)) 11 0 33 (0 + r_0)) 12 12 (4 * c.toNatClampNeg + 0) 0) 11 0 34 ((2 + p_0) + p_1)) F lc ln) 0 0 := by
              intro r_1 e_r_1
              refine r_iadd h.ok dX6_begin_136 ?_
              refine r_put (ty := tyX6) h.ok 33 dX6_begin_137 (xo_11 _) rfl inX6 tyX6_ok nmX6 (by decide) wfl_X6_124 rfl rfl rfl (by simp) (cX_put (r' := upd ((gs (gs (gs (gs (gs (gs (gs (gs I 11 0 31 v) 11 0 32 (mHas I c)) 11 0 33 0) 11 0 34 2) 11 0 34 (2 + p_0)) 11 0 33 (0 + r_0)) 12 12 (4 * c.toNatClampNeg + 0) 0) 11 0 34 ((2 + p_0) + p_1)) 11 0) 33 ((0 + r_0) + r_1)) (xo_11 _)) ?_
              refine r_aload_n h.ok dX6_begin_140 5 rfl ?_
              refine r_get h.ok 12 dX6_begin_141 (xo_11 _) rfl inX6 (by decide) wfl_X6_38 rfl ?_
              refine r_iconst (v := 4) h.ok dX6_begin_144 (by decide) ?_
              refine r_iload_n h.ok dX6_begin_145 4 rfl ?_
              refine r_imul h.ok dX6_begin_146 ?_
              refine r_iload h.ok dX6_begin_147 3 rfl ?_
              refine r_iadd h.ok dX6_begin_149 ?_
              refine r_iconst (v := 0) h.ok dX6_begin_150 (by decide) ?_
              refine x_iast h.ok (4 * c.toNatClampNeg + 1) dX6_begin_151 (fun _ => rfl) (teat_ix ic (n := 1) (by decide) (by decide)) (teat_lt ic (by decide)) (by decide) ?_
              refine r_iinc (v := 2) (lv' := [(4, .int 2), (3, .int ((0 + q_0) + q_1)), (6, .int n_1), (5, .int ((mHas I c) / 4)), (2, .int c), (0, .ref (ad 11 0)), (1, .int v)]) h.ok dX6_begin_152 3 rfl (by decide) (by decide) rfl ?_
              refine r_goto h.ok 36 dX6_begin_155 (by decide) ?_
              refine r_iload h.ok dX6_begin_36 0 rfl ?_
              refine r_iconst (v := 4) h.ok dX6_begin_38 (by decide) ?_
              refine r_icmp_ge h.ok 158 dX6_begin_39 (by decide) (fun q => absurd q (by decide)) (fun _ => ?_)
              refine r_iload h.ok dX6_begin_42 0 rfl ?_
              refine r_if_ne h.ok 63 dX6_begin_44 (by decide) (fun _ => ?_) (fun q => absurd q (by decide))
              refine r_aload_n h.ok dX6_begin_63 5 rfl ?_
              refine r_get (v := .int (mHas I c)) h.ok 32 dX6_begin_64 (xo_11 _) rfl inX6 (by decide) wfl_X6_121 (congrArg (fun z => some (Value.int z)) (by simp [gr, upd] : (gs (gs (gs (gs (gs (gs (gs (gs (gs (gs I 11 0 31 v) 11 0 32 (mHas I c)) 11 0 33 0) 11 0 34 2) 11 0 34 (2 + p_0)) 11 0 33 (0 + r_0)) 12 12 (4 * c.toNatClampNeg + 0) 0) 11 0 34 ((2 + p_0) + p_1)) 11 0 33 ((0 + r_0) + r_1)) 12 12 (4 * c.toNatClampNeg + 1) 0) 11 0 32 = mHas I c)) ?_
              refine r_iconst (v := 4) h.ok dX6_begin_67 (by decide) ?_
              refine r_idiv h.ok dX6_begin_68 (by decide) ?_
              refine r_istore (lv' := [(5, .int ((mHas I c) / 4)), (4, .int 2), (3, .int ((0 + q_0) + q_1)), (6, .int n_1), (2, .int c), (0, .ref (ad 11 0)), (1, .int v)]) h.ok dX6_begin_69 (by decide) rfl ?_
              refine r_aload_n h.ok dX6_begin_71 5 rfl ?_
              refine r_get h.ok 12 dX6_begin_72 (xo_11 _) rfl inX6 (by decide) wfl_X6_38 rfl ?_
              refine r_iconst (v := 4) h.ok dX6_begin_75 (by decide) ?_
              refine r_iload_n h.ok dX6_begin_76 4 rfl ?_
              refine r_imul h.ok dX6_begin_77 ?_
              refine r_iload h.ok dX6_begin_78 1 rfl ?_
              refine r_iadd h.ok dX6_begin_80 ?_
              refine x_iald (v := I 12 12 (4 * c.toNatClampNeg + 2)) h.ok (4 * c.toNatClampNeg + 2) dX6_begin_81 rfl (teat_ix ic (n := 2) (by decide) (by decide)) (teat_lt ic (by decide)) (by decide) (by simp [gr, upd]) ?_
              refine r_topi (fun n_2 e_n_2 => ?_)
              refine r_istore (lv' := [(6, .int n_2), (5, .int ((mHas I c) / 4)), (4, .int 2), (3, .int ((0 + q_0) + q_1)), (2, .int c), (0, .ref (ad 11 0)), (1, .int v)]) h.ok dX6_begin_82 (by decide) rfl ?_
              refine r_aload_n h.ok dX6_begin_84 5 rfl ?_
              refine r_dup h.ok dX6_begin_85 rfl ?_
              refine r_get (v := .int ((2 + p_0) + p_1)) h.ok 34 dX6_begin_86 (xo_11 _) rfl inX6 (by decide) wfl_X6_127 (congrArg (fun z => some (Value.int z)) (by simp [gr, upd] : (gs (gs (gs (gs (gs (gs (gs (gs (gs (gs I 11 0 31 v) 11 0 32 (mHas I c)) 11 0 33 0) 11 0 34 2) 11 0 34 (2 + p_0)) 11 0 33 (0 + r_0)) 12 12 (4 * c.toNatClampNeg + 0) 0) 11 0 34 ((2 + p_0) + p_1)) 11 0 33 ((0 + r_0) + r_1)) 12 12 (4 * c.toNatClampNeg + 1) 0) 11 0 34 = (2 + p_0) + p_1)) ?_
              refine r_iload h.ok dX6_begin_89 0 rfl ?_
              refine r_iconst (v := 3) h.ok dX6_begin_91 (by decide) ?_
              have K_92_2 : ∀ p_2 : Int32, p_2 = (if n_2 ≤ 3 then n_2 else 3) → Rn 101 [(6, .int n_2), (5, .int ((mHas I c) / 4)), (4, .int 2), (3, .int ((0 + q_0) + q_1)), (2, .int c), (0, .ref (ad 11 0)), (1, .int v)] [.int p_2, .int ((2 + p_0) + p_1), .ref (ad 11 0)] ad (cX E ad (gs (gs (gs (gs (gs (gs (gs (gs (gs (gs I 11 0 31 v) 11 0 32 (mHas I c)) 11 0 33 0) 11 0 34 2) 11 0 34 (2 + p_0)) 11 0 33 (0 + r_0)) 12 12 (4 * c.toNatClampNeg + 0) 0) 11 0 34 ((2 + p_0) + p_1)) 11 0 33 ((0 + r_0) + r_1)) 12 12 (4 * c.toNatClampNeg + 1) 0) F lc ln) 0 0 := by
                intro p_2 e_p_2
                refine r_iadd h.ok dX6_begin_101 ?_
                refine r_put (ty := tyX6) h.ok 34 dX6_begin_102 (xo_11 _) rfl inX6 tyX6_ok nmX6 (by decide) wfl_X6_127 rfl rfl rfl (by simp) (cX_put (r' := upd ((gs (gs (gs (gs (gs (gs (gs (gs (gs (gs I 11 0 31 v) 11 0 32 (mHas I c)) 11 0 33 0) 11 0 34 2) 11 0 34 (2 + p_0)) 11 0 33 (0 + r_0)) 12 12 (4 * c.toNatClampNeg + 0) 0) 11 0 34 ((2 + p_0) + p_1)) 11 0 33 ((0 + r_0) + r_1)) 12 12 (4 * c.toNatClampNeg + 1) 0) 11 0) 34 (((2 + p_0) + p_1) + p_2)) (xo_11 _)) ?_
                refine r_iload_n h.ok dX6_begin_105 3 rfl ?_
                refine r_iload h.ok dX6_begin_106 0 rfl ?_
                refine r_iconst (v := 3) h.ok dX6_begin_108 (by decide) ?_
                have K_109_2 : ∀ q_2 : Int32, q_2 = (if n_2 ≤ 3 then 0 else 1) → Rn 117 [(6, .int n_2), (5, .int ((mHas I c) / 4)), (4, .int 2), (3, .int ((0 + q_0) + q_1)), (2, .int c), (0, .ref (ad 11 0)), (1, .int v)] [.int q_2, .int ((0 + q_0) + q_1)] ad (cX E ad (gs (gs (gs (gs (gs (gs (gs (gs (gs (gs (gs I 11 0 31 v) 11 0 32 (mHas I c)) 11 0 33 0) 11 0 34 2) 11 0 34 (2 + p_0)) 11 0 33 (0 + r_0)) 12 12 (4 * c.toNatClampNeg + 0) 0) 11 0 34 ((2 + p_0) + p_1)) 11 0 33 ((0 + r_0) + r_1)) 12 12 (4 * c.toNatClampNeg + 1) 0) 11 0 34 (((2 + p_0) + p_1) + p_2)) F lc ln) 0 0 := by
                  intro q_2 e_q_2
                  refine r_iadd h.ok dX6_begin_117 ?_
                  refine r_istore_n (lv' := [(3, .int (((0 + q_0) + q_1) + q_2)), (6, .int n_2), (5, .int ((mHas I c) / 4)), (4, .int 2), (2, .int c), (0, .ref (ad 11 0)), (1, .int v)]) h.ok dX6_begin_118 (by decide) rfl ?_
                  refine r_aload_n h.ok dX6_begin_119 5 rfl ?_
                  refine r_dup h.ok dX6_begin_120 rfl ?_
                  refine r_get (v := .int ((0 + r_0) + r_1)) h.ok 33 dX6_begin_121 (xo_11 _) rfl inX6 (by decide) wfl_X6_124 (congrArg (fun z => some (Value.int z)) (by simp [gr, upd] : (gs (gs (gs (gs (gs (gs (gs (gs (gs (gs (gs I 11 0 31 v) 11 0 32 (mHas I c)) 11 0 33 0) 11 0 34 2) 11 0 34 (2 + p_0)) 11 0 33 (0 + r_0)) 12 12 (4 * c.toNatClampNeg + 0) 0) 11 0 34 ((2 + p_0) + p_1)) 11 0 33 ((0 + r_0) + r_1)) 12 12 (4 * c.toNatClampNeg + 1) 0) 11 0 34 (((2 + p_0) + p_1) + p_2)) 11 0 33 = (0 + r_0) + r_1)) ?_
                  refine r_iload h.ok dX6_begin_124 1 rfl ?_
                  refine r_iconst (v := 3) h.ok dX6_begin_126 (by decide) ?_
                  have K_127_2 : ∀ r_2 : Int32, r_2 = (if n_2 ≤ 3 then (mHas I c) / 4 else 0) → Rn 136 [(3, .int (((0 + q_0) + q_1) + q_2)), (6, .int n_2), (5, .int ((mHas I c) / 4)), (4, .int 2), (2, .int c), (0, .ref (ad 11 0)), (1, .int v)] [.int r_2, .int ((0 + r_0) + r_1), .ref (ad 11 0)] ad (cX E ad (gs (gs (gs (gs (gs (gs (gs (gs (gs (gs (gs I 11 0 31 v) 11 0 32 (mHas I c)) 11 0 33 0) 11 0 34 2) 11 0 34 (2 + p_0)) 11 0 33 (0 + r_0)) 12 12 (4 * c.toNatClampNeg + 0) 0) 11 0 34 ((2 + p_0) + p_1)) 11 0 33 ((0 + r_0) + r_1)) 12 12 (4 * c.toNatClampNeg + 1) 0) 11 0 34 (((2 + p_0) + p_1) + p_2)) F lc ln) 0 0 := by
                    intro r_2 e_r_2
                    refine r_iadd h.ok dX6_begin_136 ?_
                    refine r_put (ty := tyX6) h.ok 33 dX6_begin_137 (xo_11 _) rfl inX6 tyX6_ok nmX6 (by decide) wfl_X6_124 rfl rfl rfl (by simp) (cX_put (r' := upd ((gs (gs (gs (gs (gs (gs (gs (gs (gs (gs (gs I 11 0 31 v) 11 0 32 (mHas I c)) 11 0 33 0) 11 0 34 2) 11 0 34 (2 + p_0)) 11 0 33 (0 + r_0)) 12 12 (4 * c.toNatClampNeg + 0) 0) 11 0 34 ((2 + p_0) + p_1)) 11 0 33 ((0 + r_0) + r_1)) 12 12 (4 * c.toNatClampNeg + 1) 0) 11 0 34 (((2 + p_0) + p_1) + p_2)) 11 0) 33 (((0 + r_0) + r_1) + r_2)) (xo_11 _)) ?_
                    refine r_aload_n h.ok dX6_begin_140 5 rfl ?_
                    refine r_get h.ok 12 dX6_begin_141 (xo_11 _) rfl inX6 (by decide) wfl_X6_38 rfl ?_
                    refine r_iconst (v := 4) h.ok dX6_begin_144 (by decide) ?_
                    refine r_iload_n h.ok dX6_begin_145 4 rfl ?_
                    refine r_imul h.ok dX6_begin_146 ?_
                    refine r_iload h.ok dX6_begin_147 3 rfl ?_
                    refine r_iadd h.ok dX6_begin_149 ?_
                    refine r_iconst (v := 0) h.ok dX6_begin_150 (by decide) ?_
                    refine x_iast h.ok (4 * c.toNatClampNeg + 2) dX6_begin_151 (fun _ => rfl) (teat_ix ic (n := 2) (by decide) (by decide)) (teat_lt ic (by decide)) (by decide) ?_
                    refine r_iinc (v := 3) (lv' := [(4, .int 3), (3, .int (((0 + q_0) + q_1) + q_2)), (6, .int n_2), (5, .int ((mHas I c) / 4)), (2, .int c), (0, .ref (ad 11 0)), (1, .int v)]) h.ok dX6_begin_152 3 rfl (by decide) (by decide) rfl ?_
                    refine r_goto h.ok 36 dX6_begin_155 (by decide) ?_
                    refine r_iload h.ok dX6_begin_36 0 rfl ?_
                    refine r_iconst (v := 4) h.ok dX6_begin_38 (by decide) ?_
                    refine r_icmp_ge h.ok 158 dX6_begin_39 (by decide) (fun q => absurd q (by decide)) (fun _ => ?_)
                    refine r_iload h.ok dX6_begin_42 0 rfl ?_
                    refine r_if_ne h.ok 63 dX6_begin_44 (by decide) (fun _ => ?_) (fun q => absurd q (by decide))
                    refine r_aload_n h.ok dX6_begin_63 5 rfl ?_
                    refine r_get (v := .int (mHas I c)) h.ok 32 dX6_begin_64 (xo_11 _) rfl inX6 (by decide) wfl_X6_121 (congrArg (fun z => some (Value.int z)) (by simp [gr, upd] : (gs (gs (gs (gs (gs (gs (gs (gs (gs (gs (gs (gs (gs I 11 0 31 v) 11 0 32 (mHas I c)) 11 0 33 0) 11 0 34 2) 11 0 34 (2 + p_0)) 11 0 33 (0 + r_0)) 12 12 (4 * c.toNatClampNeg + 0) 0) 11 0 34 ((2 + p_0) + p_1)) 11 0 33 ((0 + r_0) + r_1)) 12 12 (4 * c.toNatClampNeg + 1) 0) 11 0 34 (((2 + p_0) + p_1) + p_2)) 11 0 33 (((0 + r_0) + r_1) + r_2)) 12 12 (4 * c.toNatClampNeg + 2) 0) 11 0 32 = mHas I c)) ?_
                    refine r_iconst (v := 4) h.ok dX6_begin_67 (by decide) ?_
                    refine r_idiv h.ok dX6_begin_68 (by decide) ?_
                    refine r_istore (lv' := [(5, .int ((mHas I c) / 4)), (4, .int 3), (3, .int (((0 + q_0) + q_1) + q_2)), (6, .int n_2), (2, .int c), (0, .ref (ad 11 0)), (1, .int v)]) h.ok dX6_begin_69 (by decide) rfl ?_
                    refine r_aload_n h.ok dX6_begin_71 5 rfl ?_
                    refine r_get h.ok 12 dX6_begin_72 (xo_11 _) rfl inX6 (by decide) wfl_X6_38 rfl ?_
                    refine r_iconst (v := 4) h.ok dX6_begin_75 (by decide) ?_
                    refine r_iload_n h.ok dX6_begin_76 4 rfl ?_
                    refine r_imul h.ok dX6_begin_77 ?_
                    refine r_iload h.ok dX6_begin_78 1 rfl ?_
                    refine r_iadd h.ok dX6_begin_80 ?_
                    refine x_iald (v := I 12 12 (4 * c.toNatClampNeg + 3)) h.ok (4 * c.toNatClampNeg + 3) dX6_begin_81 rfl (teat_ix ic (n := 3) (by decide) (by decide)) (teat_lt ic (by decide)) (by decide) (by simp [gr, upd]) ?_
                    refine r_topi (fun n_3 e_n_3 => ?_)
                    refine r_istore (lv' := [(6, .int n_3), (5, .int ((mHas I c) / 4)), (4, .int 3), (3, .int (((0 + q_0) + q_1) + q_2)), (2, .int c), (0, .ref (ad 11 0)), (1, .int v)]) h.ok dX6_begin_82 (by decide) rfl ?_
                    refine r_aload_n h.ok dX6_begin_84 5 rfl ?_
                    refine r_dup h.ok dX6_begin_85 rfl ?_
                    refine r_get (v := .int (((2 + p_0) + p_1) + p_2)) h.ok 34 dX6_begin_86 (xo_11 _) rfl inX6 (by decide) wfl_X6_127 (congrArg (fun z => some (Value.int z)) (by simp [gr, upd] : (gs (gs (gs (gs (gs (gs (gs (gs (gs (gs (gs (gs (gs I 11 0 31 v) 11 0 32 (mHas I c)) 11 0 33 0) 11 0 34 2) 11 0 34 (2 + p_0)) 11 0 33 (0 + r_0)) 12 12 (4 * c.toNatClampNeg + 0) 0) 11 0 34 ((2 + p_0) + p_1)) 11 0 33 ((0 + r_0) + r_1)) 12 12 (4 * c.toNatClampNeg + 1) 0) 11 0 34 (((2 + p_0) + p_1) + p_2)) 11 0 33 (((0 + r_0) + r_1) + r_2)) 12 12 (4 * c.toNatClampNeg + 2) 0) 11 0 34 = ((2 + p_0) + p_1) + p_2)) ?_
                    refine r_iload h.ok dX6_begin_89 0 rfl ?_
                    refine r_iconst (v := 3) h.ok dX6_begin_91 (by decide) ?_
                    have K_92_3 : ∀ p_3 : Int32, p_3 = (if n_3 ≤ 3 then n_3 else 3) → Rn 101 [(6, .int n_3), (5, .int ((mHas I c) / 4)), (4, .int 3), (3, .int (((0 + q_0) + q_1) + q_2)), (2, .int c), (0, .ref (ad 11 0)), (1, .int v)] [.int p_3, .int (((2 + p_0) + p_1) + p_2), .ref (ad 11 0)] ad (cX E ad (gs (gs (gs (gs (gs (gs (gs (gs (gs (gs (gs (gs (gs I 11 0 31 v) 11 0 32 (mHas I c)) 11 0 33 0) 11 0 34 2) 11 0 34 (2 + p_0)) 11 0 33 (0 + r_0)) 12 12 (4 * c.toNatClampNeg + 0) 0) 11 0 34 ((2 + p_0) + p_1)) 11 0 33 ((0 + r_0) + r_1)) 12 12 (4 * c.toNatClampNeg + 1) 0) 11 0 34 (((2 + p_0) + p_1) + p_2)) 11 0 33 (((0 + r_0) + r_1) + r_2)) 12 12 (4 * c.toNatClampNeg + 2) 0) F lc ln) 0 0 := by
                      intro p_3 e_p_3
                      refine r_iadd h.ok dX6_begin_101 ?_
                      refine r_put (ty := tyX6) h.ok 34 dX6_begin_102 (xo_11 _) rfl inX6 tyX6_ok nmX6 (by decide) wfl_X6_127 rfl rfl rfl (by simp) (cX_put (r' := upd ((gs (gs (gs (gs (gs (gs (gs (gs (gs (gs (gs (gs (gs I 11 0 31 v) 11 0 32 (mHas I c)) 11 0 33 0) 11 0 34 2) 11 0 34 (2 + p_0)) 11 0 33 (0 + r_0)) 12 12 (4 * c.toNatClampNeg + 0) 0) 11 0 34 ((2 + p_0) + p_1)) 11 0 33 ((0 + r_0) + r_1)) 12 12 (4 * c.toNatClampNeg + 1) 0) 11 0 34 (((2 + p_0) + p_1) + p_2)) 11 0 33 (((0 + r_0) + r_1) + r_2)) 12 12 (4 * c.toNatClampNeg + 2) 0) 11 0) 34 ((((2 + p_0) + p_1) + p_2) + p_3)) (xo_11 _)) ?_
                      refine r_iload_n h.ok dX6_begin_105 3 rfl ?_
                      refine r_iload h.ok dX6_begin_106 0 rfl ?_
                      refine r_iconst (v := 3) h.ok dX6_begin_108 (by decide) ?_
                      have K_109_3 : ∀ q_3 : Int32, q_3 = (if n_3 ≤ 3 then 0 else 1) → Rn 117 [(6, .int n_3), (5, .int ((mHas I c) / 4)), (4, .int 3), (3, .int (((0 + q_0) + q_1) + q_2)), (2, .int c), (0, .ref (ad 11 0)), (1, .int v)] [.int q_3, .int (((0 + q_0) + q_1) + q_2)] ad (cX E ad (gs (gs (gs (gs (gs (gs (gs (gs (gs (gs (gs (gs (gs (gs I 11 0 31 v) 11 0 32 (mHas I c)) 11 0 33 0) 11 0 34 2) 11 0 34 (2 + p_0)) 11 0 33 (0 + r_0)) 12 12 (4 * c.toNatClampNeg + 0) 0) 11 0 34 ((2 + p_0) + p_1)) 11 0 33 ((0 + r_0) + r_1)) 12 12 (4 * c.toNatClampNeg + 1) 0) 11 0 34 (((2 + p_0) + p_1) + p_2)) 11 0 33 (((0 + r_0) + r_1) + r_2)) 12 12 (4 * c.toNatClampNeg + 2) 0) 11 0 34 ((((2 + p_0) + p_1) + p_2) + p_3)) F lc ln) 0 0 := by
                        intro q_3 e_q_3
                        refine r_iadd h.ok dX6_begin_117 ?_
                        refine r_istore_n (lv' := [(3, .int ((((0 + q_0) + q_1) + q_2) + q_3)), (6, .int n_3), (5, .int ((mHas I c) / 4)), (4, .int 3), (2, .int c), (0, .ref (ad 11 0)), (1, .int v)]) h.ok dX6_begin_118 (by decide) rfl ?_
                        refine r_aload_n h.ok dX6_begin_119 5 rfl ?_
                        refine r_dup h.ok dX6_begin_120 rfl ?_
                        refine r_get (v := .int (((0 + r_0) + r_1) + r_2)) h.ok 33 dX6_begin_121 (xo_11 _) rfl inX6 (by decide) wfl_X6_124 (congrArg (fun z => some (Value.int z)) (by simp [gr, upd] : (gs (gs (gs (gs (gs (gs (gs (gs (gs (gs (gs (gs (gs (gs I 11 0 31 v) 11 0 32 (mHas I c)) 11 0 33 0) 11 0 34 2) 11 0 34 (2 + p_0)) 11 0 33 (0 + r_0)) 12 12 (4 * c.toNatClampNeg + 0) 0) 11 0 34 ((2 + p_0) + p_1)) 11 0 33 ((0 + r_0) + r_1)) 12 12 (4 * c.toNatClampNeg + 1) 0) 11 0 34 (((2 + p_0) + p_1) + p_2)) 11 0 33 (((0 + r_0) + r_1) + r_2)) 12 12 (4 * c.toNatClampNeg + 2) 0) 11 0 34 ((((2 + p_0) + p_1) + p_2) + p_3)) 11 0 33 = ((0 + r_0) + r_1) + r_2)) ?_
                        refine r_iload h.ok dX6_begin_124 1 rfl ?_
                        refine r_iconst (v := 3) h.ok dX6_begin_126 (by decide) ?_
                        have K_127_3 : ∀ r_3 : Int32, r_3 = (if n_3 ≤ 3 then (mHas I c) / 4 else 0) → Rn 136 [(3, .int ((((0 + q_0) + q_1) + q_2) + q_3)), (6, .int n_3), (5, .int ((mHas I c) / 4)), (4, .int 3), (2, .int c), (0, .ref (ad 11 0)), (1, .int v)] [.int r_3, .int (((0 + r_0) + r_1) + r_2), .ref (ad 11 0)] ad (cX E ad (gs (gs (gs (gs (gs (gs (gs (gs (gs (gs (gs (gs (gs (gs I 11 0 31 v) 11 0 32 (mHas I c)) 11 0 33 0) 11 0 34 2) 11 0 34 (2 + p_0)) 11 0 33 (0 + r_0)) 12 12 (4 * c.toNatClampNeg + 0) 0) 11 0 34 ((2 + p_0) + p_1)) 11 0 33 ((0 + r_0) + r_1)) 12 12 (4 * c.toNatClampNeg + 1) 0) 11 0 34 (((2 + p_0) + p_1) + p_2)) 11 0 33 (((0 + r_0) + r_1) + r_2)) 12 12 (4 * c.toNatClampNeg + 2) 0) 11 0 34 ((((2 + p_0) + p_1) + p_2) + p_3)) F lc ln) 0 0 := by
                          intro r_3 e_r_3
                          refine r_iadd h.ok dX6_begin_136 ?_
                          refine r_put (ty := tyX6) h.ok 33 dX6_begin_137 (xo_11 _) rfl inX6 tyX6_ok nmX6 (by decide) wfl_X6_124 rfl rfl rfl (by simp) (cX_put (r' := upd ((gs (gs (gs (gs (gs (gs (gs (gs (gs (gs (gs (gs (gs (gs I 11 0 31 v) 11 0 32 (mHas I c)) 11 0 33 0) 11 0 34 2) 11 0 34 (2 + p_0)) 11 0 33 (0 + r_0)) 12 12 (4 * c.toNatClampNeg + 0) 0) 11 0 34 ((2 + p_0) + p_1)) 11 0 33 ((0 + r_0) + r_1)) 12 12 (4 * c.toNatClampNeg + 1) 0) 11 0 34 (((2 + p_0) + p_1) + p_2)) 11 0 33 (((0 + r_0) + r_1) + r_2)) 12 12 (4 * c.toNatClampNeg + 2) 0) 11 0 34 ((((2 + p_0) + p_1) + p_2) + p_3)) 11 0) 33 ((((0 + r_0) + r_1) + r_2) + r_3)) (xo_11 _)) ?_
                          refine r_aload_n h.ok dX6_begin_140 5 rfl ?_
                          refine r_get h.ok 12 dX6_begin_141 (xo_11 _) rfl inX6 (by decide) wfl_X6_38 rfl ?_
                          refine r_iconst (v := 4) h.ok dX6_begin_144 (by decide) ?_
                          refine r_iload_n h.ok dX6_begin_145 4 rfl ?_
                          refine r_imul h.ok dX6_begin_146 ?_
                          refine r_iload h.ok dX6_begin_147 3 rfl ?_
                          refine r_iadd h.ok dX6_begin_149 ?_
                          refine r_iconst (v := 0) h.ok dX6_begin_150 (by decide) ?_
                          refine x_iast h.ok (4 * c.toNatClampNeg + 3) dX6_begin_151 (fun _ => rfl) (teat_ix ic (n := 3) (by decide) (by decide)) (teat_lt ic (by decide)) (by decide) ?_
                          refine r_iinc (v := 4) (lv' := [(4, .int 4), (3, .int ((((0 + q_0) + q_1) + q_2) + q_3)), (6, .int n_3), (5, .int ((mHas I c) / 4)), (2, .int c), (0, .ref (ad 11 0)), (1, .int v)]) h.ok dX6_begin_152 3 rfl (by decide) (by decide) rfl ?_
                          refine r_goto h.ok 36 dX6_begin_155 (by decide) ?_
                          refine r_iload h.ok dX6_begin_36 0 rfl ?_
                          refine r_iconst (v := 4) h.ok dX6_begin_38 (by decide) ?_
                          refine r_icmp_ge h.ok 158 dX6_begin_39 (by decide) (fun _ => ?_) (fun q => absurd q (by decide))
                          refine r_aload_n h.ok dX6_begin_158 5 rfl ?_
                          refine r_aload_n h.ok dX6_begin_159 5 rfl ?_
                          refine r_get (v := .int (I 11 0 1)) h.ok 1 dX6_begin_160 (xo_11 _) rfl inX6 (by decide) wfl_X6_107 (congrArg (fun z => some (Value.int z)) (by simp [gr, upd] : (gs (gs (gs (gs (gs (gs (gs (gs (gs (gs (gs (gs (gs (gs (gs (gs I 11 0 31 v) 11 0 32 (mHas I c)) 11 0 33 0) 11 0 34 2) 11 0 34 (2 + p_0)) 11 0 33 (0 + r_0)) 12 12 (4 * c.toNatClampNeg + 0) 0) 11 0 34 ((2 + p_0) + p_1)) 11 0 33 ((0 + r_0) + r_1)) 12 12 (4 * c.toNatClampNeg + 1) 0) 11 0 34 (((2 + p_0) + p_1) + p_2)) 11 0 33 (((0 + r_0) + r_1) + r_2)) 12 12 (4 * c.toNatClampNeg + 2) 0) 11 0 34 ((((2 + p_0) + p_1) + p_2) + p_3)) 11 0 33 ((((0 + r_0) + r_1) + r_2) + r_3)) 12 12 (4 * c.toNatClampNeg + 3) 0) 11 0 1 = I 11 0 1)) ?_
                          refine r_aload_n h.ok dX6_begin_163 5 rfl ?_
                          refine r_get (v := .int ((((2 + p_0) + p_1) + p_2) + p_3)) h.ok 34 dX6_begin_164 (xo_11 _) rfl inX6 (by decide) wfl_X6_127 (congrArg (fun z => some (Value.int z)) (by simp [gr, upd] : (gs (gs (gs (gs (gs (gs (gs (gs (gs (gs (gs (gs (gs (gs (gs (gs I 11 0 31 v) 11 0 32 (mHas I c)) 11 0 33 0) 11 0 34 2) 11 0 34 (2 + p_0)) 11 0 33 (0 + r_0)) 12 12 (4 * c.toNatClampNeg + 0) 0) 11 0 34 ((2 + p_0) + p_1)) 11 0 33 ((0 + r_0) + r_1)) 12 12 (4 * c.toNatClampNeg + 1) 0) 11 0 34 (((2 + p_0) + p_1) + p_2)) 11 0 33 (((0 + r_0) + r_1) + r_2)) 12 12 (4 * c.toNatClampNeg + 2) 0) 11 0 34 ((((2 + p_0) + p_1) + p_2) + p_3)) 11 0 33 ((((0 + r_0) + r_1) + r_2) + r_3)) 12 12 (4 * c.toNatClampNeg + 3) 0) 11 0 34 = (((2 + p_0) + p_1) + p_2) + p_3)) ?_
                          refine r_iadd h.ok dX6_begin_167 ?_
                          refine r_aload_n h.ok dX6_begin_168 5 rfl ?_
                          refine r_get (v := .int ((((0 + r_0) + r_1) + r_2) + r_3)) h.ok 33 dX6_begin_169 (xo_11 _) rfl inX6 (by decide) wfl_X6_124 (congrArg (fun z => some (Value.int z)) (by simp [gr, upd] : (gs (gs (gs (gs (gs (gs (gs (gs (gs (gs (gs (gs (gs (gs (gs (gs I 11 0 31 v) 11 0 32 (mHas I c)) 11 0 33 0) 11 0 34 2) 11 0 34 (2 + p_0)) 11 0 33 (0 + r_0)) 12 12 (4 * c.toNatClampNeg + 0) 0) 11 0 34 ((2 + p_0) + p_1)) 11 0 33 ((0 + r_0) + r_1)) 12 12 (4 * c.toNatClampNeg + 1) 0) 11 0 34 (((2 + p_0) + p_1) + p_2)) 11 0 33 (((0 + r_0) + r_1) + r_2)) 12 12 (4 * c.toNatClampNeg + 2) 0) 11 0 34 ((((2 + p_0) + p_1) + p_2) + p_3)) 11 0 33 ((((0 + r_0) + r_1) + r_2) + r_3)) 12 12 (4 * c.toNatClampNeg + 3) 0) 11 0 33 = (((0 + r_0) + r_1) + r_2) + r_3)) ?_
                          refine r_bipush (v := 19) h.ok dX6_begin_172 (by decide) ?_
                          refine r_iadd h.ok dX6_begin_174 ?_
                          refine r_bipush (v := 20) h.ok dX6_begin_175 (by decide) ?_
                          refine r_idiv h.ok dX6_begin_177 (by decide) ?_
                          refine r_iadd h.ok dX6_begin_178 ?_
                          refine r_put (ty := tyX6) h.ok 35 dX6_begin_179 (xo_11 _) rfl inX6 tyX6_ok nmX6 (by decide) wfl_X6_130 rfl rfl rfl (by simp) (cX_put (r' := upd ((gs (gs (gs (gs (gs (gs (gs (gs (gs (gs (gs (gs (gs (gs (gs (gs I 11 0 31 v) 11 0 32 (mHas I c)) 11 0 33 0) 11 0 34 2) 11 0 34 (2 + p_0)) 11 0 33 (0 + r_0)) 12 12 (4 * c.toNatClampNeg + 0) 0) 11 0 34 ((2 + p_0) + p_1)) 11 0 33 ((0 + r_0) + r_1)) 12 12 (4 * c.toNatClampNeg + 1) 0) 11 0 34 (((2 + p_0) + p_1) + p_2)) 11 0 33 (((0 + r_0) + r_1) + r_2)) 12 12 (4 * c.toNatClampNeg + 2) 0) 11 0 34 ((((2 + p_0) + p_1) + p_2) + p_3)) 11 0 33 ((((0 + r_0) + r_1) + r_2) + r_3)) 12 12 (4 * c.toNatClampNeg + 3) 0) 11 0) 35 (((I 11 0 1) + ((((2 + p_0) + p_1) + p_2) + p_3)) + ((((((0 + r_0) + r_1) + r_2) + r_3) + 19) / 20))) (xo_11 _)) ?_
                          refine r_aload_n h.ok dX6_begin_182 5 rfl ?_
                          refine r_get h.ok 23 dX6_begin_183 (xo_11 _) rfl inX6 (by decide) wfl_X6_69 rfl ?_
                          refine r_iload_n h.ok dX6_begin_186 6 rfl ?_
                          refine r_aload_n h.ok dX6_begin_187 5 rfl ?_
                          refine r_get (v := .int (I 11 0 1)) h.ok 1 dX6_begin_188 (xo_11 _) rfl inX6 (by decide) wfl_X6_107 (congrArg (fun z => some (Value.int z)) (by simp [gr, upd] : (gs (gs (gs (gs (gs (gs (gs (gs (gs (gs (gs (gs (gs (gs (gs (gs (gs I 11 0 31 v) 11 0 32 (mHas I c)) 11 0 33 0) 11 0 34 2) 11 0 34 (2 + p_0)) 11 0 33 (0 + r_0)) 12 12 (4 * c.toNatClampNeg + 0) 0) 11 0 34 ((2 + p_0) + p_1)) 11 0 33 ((0 + r_0) + r_1)) 12 12 (4 * c.toNatClampNeg + 1) 0) 11 0 34 (((2 + p_0) + p_1) + p_2)) 11 0 33 (((0 + r_0) + r_1) + r_2)) 12 12 (4 * c.toNatClampNeg + 2) 0) 11 0 34 ((((2 + p_0) + p_1) + p_2) + p_3)) 11 0 33 ((((0 + r_0) + r_1) + r_2) + r_3)) 12 12 (4 * c.toNatClampNeg + 3) 0) 11 0 35 (((I 11 0 1) + ((((2 + p_0) + p_1) + p_2) + p_3)) + ((((((0 + r_0) + r_1) + r_2) + r_3) + 19) / 20))) 11 0 1 = I 11 0 1)) ?_
                          refine x_iasp h.ok dX6_begin_191 (fun _ => rfl) iv ?_
                          refine r_aload_n h.ok dX6_begin_192 5 rfl ?_
                          refine r_get h.ok 27 dX6_begin_193 (xo_11 _) rfl inX6 (by decide) wfl_X6_81 rfl ?_
                          refine r_iload_n h.ok dX6_begin_196 6 rfl ?_
                          refine r_iload_n h.ok dX6_begin_197 1 rfl ?_
                          refine x_iasp h.ok dX6_begin_198 (fun _ => rfl) iv ?_
                          refine r_aload_n h.ok dX6_begin_199 5 rfl ?_
                          refine r_get h.ok 10 dX6_begin_200 (xo_11 _) rfl inX6 (by decide) wfl_X6_32 rfl ?_
                          refine r_iload_n h.ok dX6_begin_203 4 rfl ?_
                          refine r_aload_n h.ok dX6_begin_204 5 rfl ?_
                          refine r_get (v := .int (I 11 0 1)) h.ok 1 dX6_begin_205 (xo_11 _) rfl inX6 (by decide) wfl_X6_107 (congrArg (fun z => some (Value.int z)) (by simp [gr, upd] : (gs (gs (gs (gs (gs (gs (gs (gs (gs (gs (gs (gs (gs (gs (gs (gs (gs (gs (gs I 11 0 31 v) 11 0 32 (mHas I c)) 11 0 33 0) 11 0 34 2) 11 0 34 (2 + p_0)) 11 0 33 (0 + r_0)) 12 12 (4 * c.toNatClampNeg + 0) 0) 11 0 34 ((2 + p_0) + p_1)) 11 0 33 ((0 + r_0) + r_1)) 12 12 (4 * c.toNatClampNeg + 1) 0) 11 0 34 (((2 + p_0) + p_1) + p_2)) 11 0 33 (((0 + r_0) + r_1) + r_2)) 12 12 (4 * c.toNatClampNeg + 2) 0) 11 0 34 ((((2 + p_0) + p_1) + p_2) + p_3)) 11 0 33 ((((0 + r_0) + r_1) + r_2) + r_3)) 12 12 (4 * c.toNatClampNeg + 3) 0) 11 0 35 (((I 11 0 1) + ((((2 + p_0) + p_1) + p_2) + p_3)) + ((((((0 + r_0) + r_1) + r_2) + r_3) + 19) / 20))) 12 23 v.toNatClampNeg (I 11 0 1)) 12 27 v.toNatClampNeg ((((0 + q_0) + q_1) + q_2) + q_3)) 11 0 1 = I 11 0 1)) ?_
                          refine x_iasp h.ok dX6_begin_208 (fun _ => rfl) ic ?_
                          refine r_aload_n h.ok dX6_begin_209 5 rfl ?_
                          refine r_get h.ok 8 dX6_begin_210 (xo_11 _) rfl inX6 (by decide) wfl_X6_26 rfl ?_
                          refine r_iload_n h.ok dX6_begin_213 4 rfl ?_
                          refine r_aload_n h.ok dX6_begin_214 5 rfl ?_
                          refine r_get (v := .int (I 11 0 1)) h.ok 1 dX6_begin_215 (xo_11 _) rfl inX6 (by decide) wfl_X6_107 (congrArg (fun z => some (Value.int z)) (by simp [gr, upd] : (gs (gs (gs (gs (gs (gs (gs (gs (gs (gs (gs (gs (gs (gs (gs (gs (gs (gs (gs (gs I 11 0 31 v) 11 0 32 (mHas I c)) 11 0 33 0) 11 0 34 2) 11 0 34 (2 + p_0)) 11 0 33 (0 + r_0)) 12 12 (4 * c.toNatClampNeg + 0) 0) 11 0 34 ((2 + p_0) + p_1)) 11 0 33 ((0 + r_0) + r_1)) 12 12 (4 * c.toNatClampNeg + 1) 0) 11 0 34 (((2 + p_0) + p_1) + p_2)) 11 0 33 (((0 + r_0) + r_1) + r_2)) 12 12 (4 * c.toNatClampNeg + 2) 0) 11 0 34 ((((2 + p_0) + p_1) + p_2) + p_3)) 11 0 33 ((((0 + r_0) + r_1) + r_2) + r_3)) 12 12 (4 * c.toNatClampNeg + 3) 0) 11 0 35 (((I 11 0 1) + ((((2 + p_0) + p_1) + p_2) + p_3)) + ((((((0 + r_0) + r_1) + r_2) + r_3) + 19) / 20))) 12 23 v.toNatClampNeg (I 11 0 1)) 12 27 v.toNatClampNeg ((((0 + q_0) + q_1) + q_2) + q_3)) 12 10 c.toNatClampNeg (I 11 0 1)) 11 0 1 = I 11 0 1)) ?_
                          refine x_iasp h.ok dX6_begin_218 (fun _ => rfl) ic ?_
                          refine r_aload_n h.ok dX6_begin_219 5 rfl ?_
                          refine r_get h.ok 9 dX6_begin_220 (xo_11 _) rfl inX6 (by decide) wfl_X6_29 rfl ?_
                          refine r_iload_n h.ok dX6_begin_223 4 rfl ?_
                          refine r_iconst (v := 0) h.ok dX6_begin_224 (by decide) ?_
                          refine x_iasp h.ok dX6_begin_225 (fun _ => rfl) ic ?_
                          refine r_vret h dX6_begin_226 ⟨by decide, by decide⟩ ⟨rfl, rfl, (by subst e_r_3; subst e_q_3; subst e_p_3; subst e_n_3; subst e_r_2; subst e_q_2; subst e_p_2; subst e_n_2; subst e_r_1; subst e_q_1; subst e_p_1; subst e_n_1; subst e_r_0; subst e_q_0; subst e_p_0; subst e_n_0; unfold mBegin_I; rfl)⟩
                        refine r_icmp_le h.ok 134 dX6_begin_127 (by decide) (fun c_127_3 => ?_) (fun c_127_3 => ?_)
                        · refine r_iload h.ok dX6_begin_134 2 rfl ?_
                          exact K_127_3 _ (by simp [c_127_3])
                        · refine r_iconst (v := 0) h.ok dX6_begin_130 (by decide) ?_
                          refine r_goto h.ok 136 dX6_begin_131 (by decide) ?_
                          exact K_127_3 _ (by simp [c_127_3])
                      refine r_icmp_le h.ok 116 dX6_begin_109 (by decide) (fun c_109_3 => ?_) (fun c_109_3 => ?_)
                      · refine r_iconst (v := 0) h.ok dX6_begin_116 (by decide) ?_
                        exact K_109_3 _ (by simp [c_109_3])
                      · refine r_iconst (v := 1) h.ok dX6_begin_112 (by decide) ?_
                        refine r_goto h.ok 117 dX6_begin_113 (by decide) ?_
                        exact K_109_3 _ (by simp [c_109_3])
                    refine r_icmp_le h.ok 99 dX6_begin_92 (by decide) (fun c_92_3 => ?_) (fun c_92_3 => ?_)
                    · refine r_iload h.ok dX6_begin_99 0 rfl ?_
                      exact K_92_3 _ (by simp [c_92_3])
                    · refine r_iconst (v := 3) h.ok dX6_begin_95 (by decide) ?_
                      refine r_goto h.ok 101 dX6_begin_96 (by decide) ?_
                      exact K_92_3 _ (by simp [c_92_3])
                  refine r_icmp_le h.ok 134 dX6_begin_127 (by decide) (fun c_127_2 => ?_) (fun c_127_2 => ?_)
                  · refine r_iload h.ok dX6_begin_134 2 rfl ?_
                    exact K_127_2 _ (by simp [c_127_2])
                  · refine r_iconst (v := 0) h.ok dX6_begin_130 (by decide) ?_
                    refine r_goto h.ok 136 dX6_begin_131 (by decide) ?_
                    exact K_127_2 _ (by simp [c_127_2])
                refine r_icmp_le h.ok 116 dX6_begin_109 (by decide) (fun c_109_2 => ?_) (fun c_109_2 => ?_)
                · refine r_iconst (v := 0) h.ok dX6_begin_116 (by decide) ?_
                  exact K_109_2 _ (by simp [c_109_2])
                · refine r_iconst (v := 1) h.ok dX6_begin_112 (by decide) ?_
                  refine r_goto h.ok 117 dX6_begin_113 (by decide) ?_
                  exact K_109_2 _ (by simp [c_109_2])
              refine r_icmp_le h.ok 99 dX6_begin_92 (by decide) (fun c_92_2 => ?_) (fun c_92_2 => ?_)
              · refine r_iload h.ok dX6_begin_99 0 rfl ?_
                exact K_92_2 _ (by simp [c_92_2])
              · refine r_iconst (v := 3) h.ok dX6_begin_95 (by decide) ?_
                refine r_goto h.ok 101 dX6_begin_96 (by decide) ?_
                exact K_92_2 _ (by simp [c_92_2])
            refine r_icmp_le h.ok 134 dX6_begin_127 (by decide) (fun c_127_1 => ?_) (fun c_127_1 => ?_)
            · refine r_iload h.ok dX6_begin_134 2 rfl ?_
              exact K_127_1 _ (by simp [c_127_1])
            · refine r_iconst (v := 0) h.ok dX6_begin_130 (by decide) ?_
              refine r_goto h.ok 136 dX6_begin_131 (by decide) ?_
              exact K_127_1 _ (by simp [c_127_1])
          refine r_icmp_le h.ok 116 dX6_begin_109 (by decide) (fun c_109_1 => ?_) (fun c_109_1 => ?_)
          · refine r_iconst (v := 0) h.ok dX6_begin_116 (by decide) ?_
            exact K_109_1 _ (by simp [c_109_1])
          · refine r_iconst (v := 1) h.ok dX6_begin_112 (by decide) ?_
            refine r_goto h.ok 117 dX6_begin_113 (by decide) ?_
            exact K_109_1 _ (by simp [c_109_1])
        refine r_icmp_le h.ok 99 dX6_begin_92 (by decide) (fun c_92_1 => ?_) (fun c_92_1 => ?_)
        · refine r_iload h.ok dX6_begin_99 0 rfl ?_
          exact K_92_1 _ (by simp [c_92_1])
        · refine r_iconst (v := 3) h.ok dX6_begin_95 (by decide) ?_
          refine r_goto h.ok 101 dX6_begin_96 (by decide) ?_
          exact K_92_1 _ (by simp [c_92_1])
      refine r_icmp_le h.ok 134 dX6_begin_127 (by decide) (fun c_127_0 => ?_) (fun c_127_0 => ?_)
      · refine r_iload h.ok dX6_begin_134 2 rfl ?_
        exact K_127_0 _ (by simp [c_127_0])
      · refine r_iconst (v := 0) h.ok dX6_begin_130 (by decide) ?_
        refine r_goto h.ok 136 dX6_begin_131 (by decide) ?_
        exact K_127_0 _ (by simp [c_127_0])
    refine r_icmp_le h.ok 116 dX6_begin_109 (by decide) (fun c_109_0 => ?_) (fun c_109_0 => ?_)
    · refine r_iconst (v := 0) h.ok dX6_begin_116 (by decide) ?_
      exact K_109_0 _ (by simp [c_109_0])
    · refine r_iconst (v := 1) h.ok dX6_begin_112 (by decide) ?_
      refine r_goto h.ok 117 dX6_begin_113 (by decide) ?_
      exact K_109_0 _ (by simp [c_109_0])
  refine r_icmp_le h.ok 99 dX6_begin_92 (by decide) (fun c_92_0 => ?_) (fun c_92_0 => ?_)
  · refine r_iload h.ok dX6_begin_99 0 rfl ?_
    exact K_92_0 _ (by simp [c_92_0])
  · refine r_iconst (v := 3) h.ok dX6_begin_95 (by decide) ?_
    refine r_goto h.ok 101 dX6_begin_96 (by decide) ?_
    exact K_92_0 _ (by simp [c_92_0])
noncomputable def mFinish_I (I : gI) (F : gF) (m v c : Int32) : gI := gs (gs (gs (gs (gs (gs (gs (gs (gs (gs (gs (gs (gs (gs I 11 0 31 (-9)) 12 9 c.toNatClampNeg ((I 11 0 32) - m)) 11 0 36 ((I 11 0 36) + (if (mWh I c m) = 0 then m else 0))) 11 0 38 ((I 11 0 38) + (if (mWh I c m) = 1 then m else 0))) 11 0 39 ((I 11 0 39) + (if (mWh I c m) = 2 then m else 0))) 12 14 c.toNatClampNeg ((mFed I c) + (if ((I 12 7 c.toNatClampNeg) - (mFed I c)) ≤ 10 * m then (I 12 7 c.toNatClampNeg) - (mFed I c) else 10 * m))) 12 13 c.toNatClampNeg ((I 11 0 1) / 1440)) 11 0 42 ((I 11 0 42) + (if ((I 12 7 c.toNatClampNeg) - (mFed I c)) ≤ 10 * m then (I 12 7 c.toNatClampNeg) - (mFed I c) else 10 * m))) 11 0 41 ((I 11 0 41) + m)) 12 15 c.toNatClampNeg ((I 12 15 c.toNatClampNeg) + m)) 12 24 v.toNatClampNeg (I 11 0 1)) 12 25 v.toNatClampNeg m) 12 26 v.toNatClampNeg (mWh I c m)) 12 28 v.toNatClampNeg (if ((I 12 7 c.toNatClampNeg) - (mFed I c)) ≤ 10 * m then (I 12 7 c.toNatClampNeg) - (mFed I c) else 10 * m)
set_option maxHeartbeats 4000000 in
set_option maxRecDepth 100000 in
theorem c_X6_finish (D : va_G) (E : gEc) (ad : gAd) (I : gI) (F : gF) (lc ln : Nat) (m v c : Int32) (hb : I 11 0 31 = v) (hc : I 12 19 v.toNatClampNeg = c) (iv : vp_in v 500) (ic : vp_in c 12) : gCon D E yX6_finish cX6_finish 7 none 1 0 0 [.ref (ad 11 0), .int m] ad (cX E ad I F lc ln) (gPd none ad (cX E ad (mFinish_I I F m v c) F lc ln)) := by
  refine gCon.of (by decide) (Nat.le_of_ble_eq_true rfl) ?_
  intro l A Rn h
  show Rn 0 [(0, .ref (ad 11 0)), (1, .int m)] [] ad (cX E ad I F lc ln) 0 0
  refine r_aload_n h.ok dX6_finish_0 0 rfl ?_
  refine r_get (v := .int v) h.ok 31 dX6_finish_1 (xo_11 _) rfl inX6 (by decide) wfl_X6_90 (congrArg (fun z => some (Value.int z)) (hb : I 11 0 31 = v)) ?_
  refine r_istore_n (lv' := [(2, .int v), (0, .ref (ad 11 0)), (1, .int m)]) h.ok dX6_finish_4 (by decide) rfl ?_
  refine r_aload_n h.ok dX6_finish_5 1 rfl ?_
  refine r_get h.ok 19 dX6_finish_6 (xo_11 _) rfl inX6 (by decide) wfl_X6_56 rfl ?_
  refine r_iload_n h.ok dX6_finish_9 0 rfl ?_
  refine x_ialp (v := c) h.ok dX6_finish_10 rfl iv hc ?_
  refine r_istore_n (lv' := [(3, .int c), (2, .int v), (0, .ref (ad 11 0)), (1, .int m)]) h.ok dX6_finish_11 (by decide) rfl ?_
  refine r_aload_n h.ok dX6_finish_12 2 rfl ?_
  refine r_bipush (v := (-9)) h.ok dX6_finish_13 (by decide) ?_
  refine r_put (ty := tyX6) h.ok 31 dX6_finish_15 (xo_11 _) rfl inX6 tyX6_ok nmX6 (by decide) wfl_X6_90 rfl rfl rfl (by simp) (cX_put (r' := upd (I 11 0) 31 (-9)) (xo_11 _)) ?_
  refine r_aload_n h.ok dX6_finish_18 2 rfl ?_
  refine r_get h.ok 9 dX6_finish_19 (xo_11 _) rfl inX6 (by decide) wfl_X6_29 rfl ?_
  refine r_iload_n h.ok dX6_finish_22 0 rfl ?_
  refine r_aload_n h.ok dX6_finish_23 2 rfl ?_
  refine r_get (v := .int (I 11 0 32)) h.ok 32 dX6_finish_24 (xo_11 _) rfl inX6 (by decide) wfl_X6_121 (congrArg (fun z => some (Value.int z)) (by simp [gr, upd] : (gs I 11 0 31 (-9)) 11 0 32 = I 11 0 32)) ?_
  refine r_iload_n h.ok dX6_finish_27 3 rfl ?_
  refine r_isub h.ok dX6_finish_28 ?_
  refine x_iasp h.ok dX6_finish_29 (fun _ => rfl) ic ?_
  refine r_aload_n h.ok dX6_finish_30 2 rfl ?_
  refine r_get h.ok 4 dX6_finish_31 (xo_11 _) rfl inX6 (by decide) wfl_X6_13 rfl ?_
  refine r_iload_n h.ok dX6_finish_34 0 rfl ?_
  refine x_ialp (v := I 12 4 c.toNatClampNeg) h.ok dX6_finish_35 rfl ic (by simp [gr]) ?_
  refine r_iconst (v := 2) h.ok dX6_finish_36 (by decide) ?_
  have K_37 : ∀ wh : Int32, wh = (mWh I c m) → Rn 75 [(3, .int c), (2, .int v), (0, .ref (ad 11 0)), (1, .int m)] [.int wh] ad (cX E ad (gs (gs I 11 0 31 (-9)) 12 9 c.toNatClampNeg ((I 11 0 32) - m)) F lc ln) 0 0 := by
    intro wh e_wh
    refine r_istore (lv' := [(4, .int wh), (3, .int c), (2, .int v), (0, .ref (ad 11 0)), (1, .int m)]) h.ok dX6_finish_75 (by decide) rfl ?_
    refine r_aload_n h.ok dX6_finish_77 3 rfl ?_
    refine r_dup h.ok dX6_finish_78 rfl ?_
    refine r_get (v := .int (I 11 0 36)) h.ok 36 dX6_finish_79 (xo_11 _) rfl inX6 (by decide) wfl_X6_133 (congrArg (fun z => some (Value.int z)) (by simp [gr, upd] : (gs (gs I 11 0 31 (-9)) 12 9 c.toNatClampNeg ((I 11 0 32) - m)) 11 0 36 = I 11 0 36)) ?_
    refine r_iload h.ok dX6_finish_82 0 rfl ?_
    have K_84 : ∀ t0 : Int32, t0 = (if wh = 0 then m else 0) → Rn 92 [(4, .int wh), (3, .int c), (2, .int v), (0, .ref (ad 11 0)), (1, .int m)] [.int t0, .int (I 11 0 36), .ref (ad 11 0)] ad (cX E ad (gs (gs I 11 0 31 (-9)) 12 9 c.toNatClampNeg ((I 11 0 32) - m)) F lc ln) 0 0 := by
      intro t0 e_t0
      refine r_iadd h.ok dX6_finish_92 ?_
      refine r_put (ty := tyX6) h.ok 36 dX6_finish_93 (xo_11 _) rfl inX6 tyX6_ok nmX6 (by decide) wfl_X6_133 rfl rfl rfl (by simp) (cX_put (r' := upd ((gs (gs I 11 0 31 (-9)) 12 9 c.toNatClampNeg ((I 11 0 32) - m)) 11 0) 36 ((I 11 0 36) + t0)) (xo_11 _)) ?_
      refine r_aload_n h.ok dX6_finish_96 3 rfl ?_
      refine r_dup h.ok dX6_finish_97 rfl ?_
      refine r_get (v := .int (I 11 0 38)) h.ok 38 dX6_finish_98 (xo_11 _) rfl inX6 (by decide) wfl_X6_136 (congrArg (fun z => some (Value.int z)) (by simp [gr, upd] : (gs (gs (gs I 11 0 31 (-9)) 12 9 c.toNatClampNeg ((I 11 0 32) - m)) 11 0 36 ((I 11 0 36) + t0)) 11 0 38 = I 11 0 38)) ?_
      refine r_iload h.ok dX6_finish_101 0 rfl ?_
      refine r_iconst (v := 1) h.ok dX6_finish_103 (by decide) ?_
      have K_104 : ∀ t1 : Int32, t1 = (if wh = 1 then m else 0) → Rn 112 [(4, .int wh), (3, .int c), (2, .int v), (0, .ref (ad 11 0)), (1, .int m)] [.int t1, .int (I 11 0 38), .ref (ad 11 0)] ad (cX E ad (gs (gs (gs I 11 0 31 (-9)) 12 9 c.toNatClampNeg ((I 11 0 32) - m)) 11 0 36 ((I 11 0 36) + t0)) F lc ln) 0 0 := by
        intro t1 e_t1
        refine r_iadd h.ok dX6_finish_112 ?_
        refine r_put (ty := tyX6) h.ok 38 dX6_finish_113 (xo_11 _) rfl inX6 tyX6_ok nmX6 (by decide) wfl_X6_136 rfl rfl rfl (by simp) (cX_put (r' := upd ((gs (gs (gs I 11 0 31 (-9)) 12 9 c.toNatClampNeg ((I 11 0 32) - m)) 11 0 36 ((I 11 0 36) + t0)) 11 0) 38 ((I 11 0 38) + t1)) (xo_11 _)) ?_
        refine r_aload_n h.ok dX6_finish_116 3 rfl ?_
        refine r_dup h.ok dX6_finish_117 rfl ?_
        refine r_get (v := .int (I 11 0 39)) h.ok 39 dX6_finish_118 (xo_11 _) rfl inX6 (by decide) wfl_X6_139 (congrArg (fun z => some (Value.int z)) (by simp [gr, upd] : (gs (gs (gs (gs I 11 0 31 (-9)) 12 9 c.toNatClampNeg ((I 11 0 32) - m)) 11 0 36 ((I 11 0 36) + t0)) 11 0 38 ((I 11 0 38) + t1)) 11 0 39 = I 11 0 39)) ?_
        refine r_iload h.ok dX6_finish_121 0 rfl ?_
        refine r_iconst (v := 2) h.ok dX6_finish_123 (by decide) ?_
        have K_124 : ∀ t2 : Int32, t2 = (if wh = 2 then m else 0) → Rn 132 [(4, .int wh), (3, .int c), (2, .int v), (0, .ref (ad 11 0)), (1, .int m)] [.int t2, .int (I 11 0 39), .ref (ad 11 0)] ad (cX E ad (gs (gs (gs (gs I 11 0 31 (-9)) 12 9 c.toNatClampNeg ((I 11 0 32) - m)) 11 0 36 ((I 11 0 36) + t0)) 11 0 38 ((I 11 0 38) + t1)) F lc ln) 0 0 := by
          intro t2 e_t2
          refine r_iadd h.ok dX6_finish_132 ?_
          refine r_put (ty := tyX6) h.ok 39 dX6_finish_133 (xo_11 _) rfl inX6 tyX6_ok nmX6 (by decide) wfl_X6_139 rfl rfl rfl (by simp) (cX_put (r' := upd ((gs (gs (gs (gs I 11 0 31 (-9)) 12 9 c.toNatClampNeg ((I 11 0 32) - m)) 11 0 36 ((I 11 0 36) + t0)) 11 0 38 ((I 11 0 38) + t1)) 11 0) 39 ((I 11 0 39) + t2)) (xo_11 _)) ?_
          refine r_aload_n h.ok dX6_finish_136 3 rfl ?_
          refine r_get h.ok 7 dX6_finish_137 (xo_11 _) rfl inX6 (by decide) wfl_X6_23 rfl ?_
          refine r_iload_n h.ok dX6_finish_140 1 rfl ?_
          refine x_ialp (v := I 12 7 c.toNatClampNeg) h.ok dX6_finish_141 rfl ic (by simp [gr]) ?_
          refine r_aload_n h.ok dX6_finish_142 3 rfl ?_
          refine r_iload_n h.ok dX6_finish_143 1 rfl ?_
          refine r_callV h.ok [.int c] [.int (I 12 7 c.toNatClampNeg)] dX6_finish_144 (c_X6_fedToday D E ad (gs (gs (gs (gs (gs I 11 0 31 (-9)) 12 9 c.toNatClampNeg ((I 11 0 32) - m)) 11 0 36 ((I 11 0 36) + t0)) 11 0 38 ((I 11 0 38) + t1)) 11 0 39 ((I 11 0 39) + t2)) F lc ln c ic) wml_X6_142 wim_X6_fedToday wse_X6_fedToday win_X6 wco_X6_fedToday yok_X6_fedToday (xo_11 _) rfl rfl ⟨by decide, by decide, by simp [gRm], by simp [gRm]⟩ (Nat.le_of_ble_eq_true rfl) rfl ?_
          show Rn 147 [(4, .int wh), (3, .int c), (2, .int v), (0, .ref (ad 11 0)), (1, .int m)] [.int (mFed (gs (gs (gs (gs (gs I 11 0 31 (-9)) 12 9 c.toNatClampNeg ((I 11 0 32) - m)) 11 0 36 ((I 11 0 36) + t0)) 11 0 38 ((I 11 0 38) + t1)) 11 0 39 ((I 11 0 39) + t2)) c), .int (I 12 7 c.toNatClampNeg)] ad (cX E ad (gs (gs (gs (gs (gs I 11 0 31 (-9)) 12 9 c.toNatClampNeg ((I 11 0 32) - m)) 11 0 36 ((I 11 0 36) + t0)) 11 0 38 ((I 11 0 38) + t1)) 11 0 39 ((I 11 0 39) + t2)) F lc ln) 0 0
          rw [show mFed (gs (gs (gs (gs (gs I 11 0 31 (-9)) 12 9 c.toNatClampNeg ((I 11 0 32) - m)) 11 0 36 ((I 11 0 36) + t0)) 11 0 38 ((I 11 0 38) + t1)) 11 0 39 ((I 11 0 39) + t2)) c = mFed I c from by simp [mFed, gr, upd]]
          refine r_isub h.ok dX6_finish_147 ?_
          refine r_istore (lv' := [(5, .int ((I 12 7 c.toNatClampNeg) - (mFed I c))), (4, .int wh), (3, .int c), (2, .int v), (0, .ref (ad 11 0)), (1, .int m)]) h.ok dX6_finish_148 (by decide) rfl ?_
          refine r_bipush (v := 10) h.ok dX6_finish_150 (by decide) ?_
          refine r_iload_n h.ok dX6_finish_152 5 rfl ?_
          refine r_imul h.ok dX6_finish_153 ?_
          refine r_iload h.ok dX6_finish_154 0 rfl ?_
          have K_156 : ∀ gm : Int32, gm = (if ((I 12 7 c.toNatClampNeg) - (mFed I c)) ≤ 10 * m then (I 12 7 c.toNatClampNeg) - (mFed I c) else 10 * m) → Rn 168 [(5, .int ((I 12 7 c.toNatClampNeg) - (mFed I c))), (4, .int wh), (3, .int c), (2, .int v), (0, .ref (ad 11 0)), (1, .int m)] [.int gm] ad (cX E ad (gs (gs (gs (gs (gs I 11 0 31 (-9)) 12 9 c.toNatClampNeg ((I 11 0 32) - m)) 11 0 36 ((I 11 0 36) + t0)) 11 0 38 ((I 11 0 38) + t1)) 11 0 39 ((I 11 0 39) + t2)) F lc ln) 0 0 := by
            intro gm e_gm
            refine r_istore (lv' := [(6, .int gm), (5, .int ((I 12 7 c.toNatClampNeg) - (mFed I c))), (4, .int wh), (3, .int c), (2, .int v), (0, .ref (ad 11 0)), (1, .int m)]) h.ok dX6_finish_168 (by decide) rfl ?_
            refine r_aload_n h.ok dX6_finish_170 5 rfl ?_
            refine r_get h.ok 14 dX6_finish_171 (xo_11 _) rfl inX6 (by decide) wfl_X6_44 rfl ?_
            refine r_iload_n h.ok dX6_finish_174 3 rfl ?_
            refine r_aload_n h.ok dX6_finish_175 5 rfl ?_
            refine r_iload_n h.ok dX6_finish_176 3 rfl ?_
            refine r_callV h.ok [.int c] [.int c, .ref (ad 12 14)] dX6_finish_177 (c_X6_fedToday D E ad (gs (gs (gs (gs (gs I 11 0 31 (-9)) 12 9 c.toNatClampNeg ((I 11 0 32) - m)) 11 0 36 ((I 11 0 36) + t0)) 11 0 38 ((I 11 0 38) + t1)) 11 0 39 ((I 11 0 39) + t2)) F lc ln c ic) wml_X6_142 wim_X6_fedToday wse_X6_fedToday win_X6 wco_X6_fedToday yok_X6_fedToday (xo_11 _) rfl rfl ⟨by decide, by decide, by simp [gRm], by simp [gRm]⟩ (Nat.le_of_ble_eq_true rfl) rfl ?_
            show Rn 180 [(6, .int gm), (5, .int ((I 12 7 c.toNatClampNeg) - (mFed I c))), (4, .int wh), (3, .int c), (2, .int v), (0, .ref (ad 11 0)), (1, .int m)] [.int (mFed (gs (gs (gs (gs (gs I 11 0 31 (-9)) 12 9 c.toNatClampNeg ((I 11 0 32) - m)) 11 0 36 ((I 11 0 36) + t0)) 11 0 38 ((I 11 0 38) + t1)) 11 0 39 ((I 11 0 39) + t2)) c), .int c, .ref (ad 12 14)] ad (cX E ad (gs (gs (gs (gs (gs I 11 0 31 (-9)) 12 9 c.toNatClampNeg ((I 11 0 32) - m)) 11 0 36 ((I 11 0 36) + t0)) 11 0 38 ((I 11 0 38) + t1)) 11 0 39 ((I 11 0 39) + t2)) F lc ln) 0 0
            rw [show mFed (gs (gs (gs (gs (gs I 11 0 31 (-9)) 12 9 c.toNatClampNeg ((I 11 0 32) - m)) 11 0 36 ((I 11 0 36) + t0)) 11 0 38 ((I 11 0 38) + t1)) 11 0 39 ((I 11 0 39) + t2)) c = mFed I c from by simp [mFed, gr, upd]]
            refine r_iload h.ok dX6_finish_180 0 rfl ?_
            refine r_iadd h.ok dX6_finish_182 ?_
            refine x_iasp h.ok dX6_finish_183 (fun _ => rfl) ic ?_
            refine r_aload_n h.ok dX6_finish_184 5 rfl ?_
            refine r_get h.ok 13 dX6_finish_185 (xo_11 _) rfl inX6 (by decide) wfl_X6_41 rfl ?_
            refine r_iload_n h.ok dX6_finish_188 3 rfl ?_
            refine r_aload_n h.ok dX6_finish_189 5 rfl ?_
            refine r_get (v := .int (I 11 0 1)) h.ok 1 dX6_finish_190 (xo_11 _) rfl inX6 (by decide) wfl_X6_107 (congrArg (fun z => some (Value.int z)) (by simp [gr, upd] : (gs (gs (gs (gs (gs (gs I 11 0 31 (-9)) 12 9 c.toNatClampNeg ((I 11 0 32) - m)) 11 0 36 ((I 11 0 36) + t0)) 11 0 38 ((I 11 0 38) + t1)) 11 0 39 ((I 11 0 39) + t2)) 12 14 c.toNatClampNeg ((mFed I c) + gm)) 11 0 1 = I 11 0 1)) ?_
            refine r_sipush (v := 1440) h.ok dX6_finish_193 (by decide) ?_
            refine r_idiv h.ok dX6_finish_196 (by decide) ?_
            refine x_iasp h.ok dX6_finish_197 (fun _ => rfl) ic ?_
            refine r_aload_n h.ok dX6_finish_198 5 rfl ?_
            refine r_dup h.ok dX6_finish_199 rfl ?_
            refine r_get (v := .int (I 11 0 42)) h.ok 42 dX6_finish_200 (xo_11 _) rfl inX6 (by decide) wfl_X6_145 (congrArg (fun z => some (Value.int z)) (by simp [gr, upd] : (gs (gs (gs (gs (gs (gs (gs I 11 0 31 (-9)) 12 9 c.toNatClampNeg ((I 11 0 32) - m)) 11 0 36 ((I 11 0 36) + t0)) 11 0 38 ((I 11 0 38) + t1)) 11 0 39 ((I 11 0 39) + t2)) 12 14 c.toNatClampNeg ((mFed I c) + gm)) 12 13 c.toNatClampNeg ((I 11 0 1) / 1440)) 11 0 42 = I 11 0 42)) ?_
            refine r_iload h.ok dX6_finish_203 0 rfl ?_
            refine r_iadd h.ok dX6_finish_205 ?_
            refine r_put (ty := tyX6) h.ok 42 dX6_finish_206 (xo_11 _) rfl inX6 tyX6_ok nmX6 (by decide) wfl_X6_145 rfl rfl rfl (by simp) (cX_put (r' := upd ((gs (gs (gs (gs (gs (gs (gs I 11 0 31 (-9)) 12 9 c.toNatClampNeg ((I 11 0 32) - m)) 11 0 36 ((I 11 0 36) + t0)) 11 0 38 ((I 11 0 38) + t1)) 11 0 39 ((I 11 0 39) + t2)) 12 14 c.toNatClampNeg ((mFed I c) + gm)) 12 13 c.toNatClampNeg ((I 11 0 1) / 1440)) 11 0) 42 ((I 11 0 42) + gm)) (xo_11 _)) ?_
            refine r_aload_n h.ok dX6_finish_209 5 rfl ?_
            refine r_dup h.ok dX6_finish_210 rfl ?_
            refine r_get (v := .int (I 11 0 41)) h.ok 41 dX6_finish_211 (xo_11 _) rfl inX6 (by decide) wfl_X6_148 (congrArg (fun z => some (Value.int z)) (by simp [gr, upd] : (gs (gs (gs (gs (gs (gs (gs (gs I 11 0 31 (-9)) 12 9 c.toNatClampNeg ((I 11 0 32) - m)) 11 0 36 ((I 11 0 36) + t0)) 11 0 38 ((I 11 0 38) + t1)) 11 0 39 ((I 11 0 39) + t2)) 12 14 c.toNatClampNeg ((mFed I c) + gm)) 12 13 c.toNatClampNeg ((I 11 0 1) / 1440)) 11 0 42 ((I 11 0 42) + gm)) 11 0 41 = I 11 0 41)) ?_
            refine r_iload_n h.ok dX6_finish_214 6 rfl ?_
            refine r_iadd h.ok dX6_finish_215 ?_
            refine r_put (ty := tyX6) h.ok 41 dX6_finish_216 (xo_11 _) rfl inX6 tyX6_ok nmX6 (by decide) wfl_X6_148 rfl rfl rfl (by simp) (cX_put (r' := upd ((gs (gs (gs (gs (gs (gs (gs (gs I 11 0 31 (-9)) 12 9 c.toNatClampNeg ((I 11 0 32) - m)) 11 0 36 ((I 11 0 36) + t0)) 11 0 38 ((I 11 0 38) + t1)) 11 0 39 ((I 11 0 39) + t2)) 12 14 c.toNatClampNeg ((mFed I c) + gm)) 12 13 c.toNatClampNeg ((I 11 0 1) / 1440)) 11 0 42 ((I 11 0 42) + gm)) 11 0) 41 ((I 11 0 41) + m)) (xo_11 _)) ?_
            refine r_aload_n h.ok dX6_finish_219 5 rfl ?_
            refine r_get h.ok 15 dX6_finish_220 (xo_11 _) rfl inX6 (by decide) wfl_X6_47 rfl ?_
            refine r_iload_n h.ok dX6_finish_223 3 rfl ?_
            refine r_dup2 h.ok dX6_finish_224 rfl rfl ?_
            refine x_ialp (v := I 12 15 c.toNatClampNeg) h.ok dX6_finish_225 rfl ic (by simp [gr]) ?_
            refine r_iload_n h.ok dX6_finish_226 6 rfl ?_
            refine r_iadd h.ok dX6_finish_227 ?_
            refine x_iasp h.ok dX6_finish_228 (fun _ => rfl) ic ?_
            refine r_aload_n h.ok dX6_finish_229 5 rfl ?_
            refine r_get h.ok 24 dX6_finish_230 (xo_11 _) rfl inX6 (by decide) wfl_X6_72 rfl ?_
            refine r_iload_n h.ok dX6_finish_233 4 rfl ?_
            refine r_aload_n h.ok dX6_finish_234 5 rfl ?_
            refine r_get (v := .int (I 11 0 1)) h.ok 1 dX6_finish_235 (xo_11 _) rfl inX6 (by decide) wfl_X6_107 (congrArg (fun z => some (Value.int z)) (by simp [gr, upd] : (gs (gs (gs (gs (gs (gs (gs (gs (gs (gs I 11 0 31 (-9)) 12 9 c.toNatClampNeg ((I 11 0 32) - m)) 11 0 36 ((I 11 0 36) + t0)) 11 0 38 ((I 11 0 38) + t1)) 11 0 39 ((I 11 0 39) + t2)) 12 14 c.toNatClampNeg ((mFed I c) + gm)) 12 13 c.toNatClampNeg ((I 11 0 1) / 1440)) 11 0 42 ((I 11 0 42) + gm)) 11 0 41 ((I 11 0 41) + m)) 12 15 c.toNatClampNeg ((I 12 15 c.toNatClampNeg) + m)) 11 0 1 = I 11 0 1)) ?_
            refine x_iasp h.ok dX6_finish_238 (fun _ => rfl) iv ?_
            refine r_aload_n h.ok dX6_finish_239 5 rfl ?_
            refine r_get h.ok 25 dX6_finish_240 (xo_11 _) rfl inX6 (by decide) wfl_X6_75 rfl ?_
            refine r_iload_n h.ok dX6_finish_243 4 rfl ?_
            refine r_iload_n h.ok dX6_finish_244 6 rfl ?_
            refine x_iasp h.ok dX6_finish_245 (fun _ => rfl) iv ?_
            refine r_aload_n h.ok dX6_finish_246 5 rfl ?_
            refine r_get h.ok 26 dX6_finish_247 (xo_11 _) rfl inX6 (by decide) wfl_X6_78 rfl ?_
            refine r_iload_n h.ok dX6_finish_250 4 rfl ?_
            refine r_iload h.ok dX6_finish_251 2 rfl ?_
            refine x_iasp h.ok dX6_finish_253 (fun _ => rfl) iv ?_
            refine r_aload_n h.ok dX6_finish_254 5 rfl ?_
            refine r_get h.ok 28 dX6_finish_255 (xo_11 _) rfl inX6 (by decide) wfl_X6_84 rfl ?_
            refine r_iload_n h.ok dX6_finish_258 4 rfl ?_
            refine r_iload h.ok dX6_finish_259 0 rfl ?_
            refine x_iasp h.ok dX6_finish_261 (fun _ => rfl) iv ?_
            refine r_vret h dX6_finish_262 ⟨by decide, by decide⟩ ⟨rfl, rfl, (by subst e_gm; subst e_t2; subst e_t1; subst e_t0; subst e_wh; unfold mFinish_I; rfl)⟩
          refine r_icmp_ge h.ok 166 dX6_finish_156 (by decide) (fun c_156 => ?_) (fun c_156 => ?_)
          · refine r_iload h.ok dX6_finish_166 0 rfl ?_
            exact K_156 _ (by simp [c_156])
          · refine r_bipush (v := 10) h.ok dX6_finish_159 (by decide) ?_
            refine r_iload_n h.ok dX6_finish_161 5 rfl ?_
            refine r_imul h.ok dX6_finish_162 ?_
            refine r_goto h.ok 168 dX6_finish_163 (by decide) ?_
            exact K_156 _ (by simp [c_156])
        refine r_icmp_ne h.ok 131 dX6_finish_124 (by decide) (fun c_124 => ?_) (fun c_124 => ?_)
        · refine r_iconst (v := 0) h.ok dX6_finish_131 (by decide) ?_
          exact K_124 _ (by simp [c_124])
        · refine r_iload_n h.ok dX6_finish_127 4 rfl ?_
          refine r_goto h.ok 132 dX6_finish_128 (by decide) ?_
          exact K_124 _ (by simp [c_124])
      refine r_icmp_ne h.ok 111 dX6_finish_104 (by decide) (fun c_104 => ?_) (fun c_104 => ?_)
      · refine r_iconst (v := 0) h.ok dX6_finish_111 (by decide) ?_
        exact K_104 _ (by simp [c_104])
      · refine r_iload_n h.ok dX6_finish_107 4 rfl ?_
        refine r_goto h.ok 112 dX6_finish_108 (by decide) ?_
        exact K_104 _ (by simp [c_104])
    refine r_if_ne h.ok 91 dX6_finish_84 (by decide) (fun c_84 => ?_) (fun c_84 => ?_)
    · refine r_iconst (v := 0) h.ok dX6_finish_91 (by decide) ?_
      exact K_84 _ (by simp [c_84])
    · refine r_iload_n h.ok dX6_finish_87 4 rfl ?_
      refine r_goto h.ok 92 dX6_finish_88 (by decide) ?_
      exact K_84 _ (by simp [c_84])
  refine r_icmp_eq h.ok 53 dX6_finish_37 (by decide) (fun c_37 => ?_) (fun c_37 => ?_)
  · refine r_iconst (v := 1) h.ok dX6_finish_53 (by decide) ?_
    refine r_goto h.ok 75 dX6_finish_54 (by decide) ?_
    exact K_37 _ (by unfold mWh; rw [if_pos c_37])
  · refine r_aload_n h.ok dX6_finish_40 2 rfl ?_
    refine r_get h.ok 11 dX6_finish_41 (xo_11 _) rfl inX6 (by decide) wfl_X6_35 rfl ?_
    refine r_iload_n h.ok dX6_finish_44 0 rfl ?_
    refine x_ialp (v := I 12 11 c.toNatClampNeg) h.ok dX6_finish_45 rfl ic (by simp [gr]) ?_
    refine r_aload_n h.ok dX6_finish_46 2 rfl ?_
    refine r_get (v := .int (I 11 0 1)) h.ok 1 dX6_finish_47 (xo_11 _) rfl inX6 (by decide) wfl_X6_107 (congrArg (fun z => some (Value.int z)) (by simp [gr, upd] : (gs (gs I 11 0 31 (-9)) 12 9 c.toNatClampNeg ((I 11 0 32) - m)) 11 0 1 = I 11 0 1)) ?_
    refine r_icmp_le h.ok 57 dX6_finish_50 (by decide) (fun c_50 => ?_) (fun c_50 => ?_)
    · refine r_aload_n h.ok dX6_finish_57 2 rfl ?_
      refine r_get (v := .int (I 11 0 36)) h.ok 36 dX6_finish_58 (xo_11 _) rfl inX6 (by decide) wfl_X6_133 (congrArg (fun z => some (Value.int z)) (by simp [gr, upd] : (gs (gs I 11 0 31 (-9)) 12 9 c.toNatClampNeg ((I 11 0 32) - m)) 11 0 36 = I 11 0 36)) ?_
      refine r_iload_n h.ok dX6_finish_61 3 rfl ?_
      refine r_iadd h.ok dX6_finish_62 ?_
      refine r_aload_n h.ok dX6_finish_63 2 rfl ?_
      refine r_get (v := .int (I 11 0 37)) h.ok 37 dX6_finish_64 (xo_11 _) rfl inX6 (by decide) wfl_X6_94 (congrArg (fun z => some (Value.int z)) (by simp [gr, upd] : (gs (gs I 11 0 31 (-9)) 12 9 c.toNatClampNeg ((I 11 0 32) - m)) 11 0 37 = I 11 0 37)) ?_
      refine r_icmp_gt h.ok 74 dX6_finish_67 (by decide) (fun c_67 => ?_) (fun c_67 => ?_)
      · refine r_iconst (v := 2) h.ok dX6_finish_74 (by decide) ?_
        exact K_37 _ (by unfold mWh; rw [if_neg c_37, if_pos c_50, if_pos c_67])
      · refine r_iconst (v := 0) h.ok dX6_finish_70 (by decide) ?_
        refine r_goto h.ok 75 dX6_finish_71 (by decide) ?_
        exact K_37 _ (by unfold mWh; rw [if_neg c_37, if_pos c_50, if_neg c_67])
    · refine r_iconst (v := 1) h.ok dX6_finish_53 (by decide) ?_
      refine r_goto h.ok 75 dX6_finish_54 (by decide) ?_
      exact K_37 _ (by unfold mWh; rw [if_neg c_37, if_neg c_50])
end
section
theorem mBegin_11 {I : gI} {F : gF} {v c : Int32} : (mBegin_I I F v c) 11 0 0 = I 11 0 0 ∧ (mBegin_I I F v c) 11 0 3 = I 11 0 3 ∧ (mBegin_I I F v c) 11 0 17 = I 11 0 17 ∧ (mBegin_I I F v c) 11 0 29 = I 11 0 29 ∧ (mBegin_I I F v c) 11 0 31 = v := by
  refine ⟨?_, ?_, ?_, ?_, ?_⟩ <;> simp [mBegin_I, gr, upd]
theorem mBegin_12 {I : gI} {F : gF} {v c : Int32} : (mBegin_I I F v c) 12 19 = I 12 19 ∧ (mBegin_I I F v c) 12 30 = I 12 30 ∧ (mBegin_I I F v c) 12 5 = I 12 5 := by
  refine ⟨?_, ?_, ?_⟩ <;> (funext s; simp [mBegin_I, gr, upd])
end
section
noncomputable def gBack (P : Nat → Prop) (f : Nat → Int32) : Nat → Nat → Int32 → Nat × Int32
  | 0, n, s => (n, s)
  | k + 1, n, s => if 5 ≤ n then (n, s) else @ite (Nat × Int32) (P k) (Classical.propDecidable _) (gBack P f k (n + 1) (s + f k)) (gBack P f k n s)
theorem gBack_end {P : Nat → Prop} {f : Nat → Int32} {k m : Nat} {s : Int32} (h : k = 0 ∨ 5 ≤ m) : gBack P f k m s = (m, s) := by
  cases k with
  | zero => rfl
  | succ k => exact if_pos (h.resolve_left (by omega))
theorem gBack_hit {P : Nat → Prop} {f : Nat → Int32} {k m : Nat} {s : Int32} (hk : 0 < k) (h : ¬ 5 ≤ m) (hp : P (k - 1)) : gBack P f k m s = gBack P f (k - 1) (m + 1) (s + f (k - 1)) := by
  obtain ⟨k, rfl⟩ : ∃ q, k = q + 1 := ⟨k - 1, by omega⟩
  exact (if_neg h).trans (if_pos hp)
theorem gBack_miss {P : Nat → Prop} {f : Nat → Int32} {k m : Nat} {s : Int32} (hk : 0 < k) (h : ¬ 5 ≤ m) (hp : ¬ P (k - 1)) : gBack P f k m s = gBack P f (k - 1) m s := by
  obtain ⟨k, rfl⟩ : ∃ q, k = q + 1 := ⟨k - 1, by omega⟩
  exact (if_neg h).trans (if_neg hp)
noncomputable def mLast (I : gI) (nv : Nat) (c : Int32) : Nat × Int32 := gBack (fun v => I 12 19 v = c) (fun v => I 12 21 v) nv 0 0
def mAlarm (I : gI) (nv : Nat) (c a : Int32) : Prop := ¬ nI (mLast I nv c).1 < 3 ∧ ¬ 10 * a * nI (mLast I nv c).1 ≤ 12 * (mLast I nv c).2
theorem sub1 (x : Int32) : x - 1 = x + (-1) := by rw [Int32.sub_eq_add_neg]
theorem m1_neg {x : Int32} {k : Nat} (hx : x = nI k + (-1)) (hk : k < 2 ^ 31) (h : x < 0) : k = 0 := by
  cases k with
  | zero => rfl
  | succ k => rw [hx, pk_m1] at h; exact absurd h (nI_pos (by omega))
theorem m1_pos {x : Int32} {k : Nat} (hx : x = nI k + (-1)) (h : ¬ x < 0) : 0 < k ∧ x = nI (k - 1) := by
  cases k with
  | zero => exact absurd (by rw [hx]; decide) h
  | succ k => exact ⟨by omega, by rw [hx, pk_m1]; rfl⟩
noncomputable def gSt (P : Nat → Prop) : Nat → Option Nat
  | 0 => none
  | n + 1 => match gSt P n with
    | some a => some a
    | none => @ite (Option Nat) (P n) (Classical.propDecidable _) (some n) none
theorem gSt_keep {P : Nat → Prop} {j a : Nat} (h : gSt P j = some a) : gSt P (j + 1) = some a := by simp [gSt, h]
theorem gSt_hit {P : Nat → Prop} {j : Nat} (h : gSt P j = none) (hp : P j) : gSt P (j + 1) = some j := by simp [gSt, h, hp]
theorem gSt_miss {P : Nat → Prop} {j : Nat} (h : gSt P j = none) (hp : ¬ P j) : gSt P (j + 1) = none := by simp [gSt, h, hp]
theorem gSt_lt {P : Nat → Prop} : ∀ {j a : Nat}, gSt P j = some a → a < j ∧ P a
  | 0, a, h => by cases h
  | j + 1, a, h => by
    cases hq : gSt P j with
    | some b =>
      rw [gSt_keep hq] at h
      cases h
      have := gSt_lt hq
      exact ⟨by omega, this.2⟩
    | none =>
      by_cases hp : P j
      · rw [gSt_hit hq hp] at h
        cases h
        exact ⟨by omega, hp⟩
      · rw [gSt_miss hq hp] at h
        cases h
theorem gSt_getD {P : Nat → Prop} {w : Nat} (h : 0 < w) : (gSt P w).getD 0 < w := by
  cases hq : gSt P w with
  | none => exact h
  | some a => exact (gSt_lt hq).1
def gFl (o : Option Nat) : Int32 := if o = none then 0 else 1
theorem gFl_0 {o : Option Nat} (h : gFl o = 0) : o = none := by
  unfold gFl at h
  split at h
  · assumption
  · exact absurd h (by decide)
theorem gFl_1 {o : Option Nat} (h : ¬ gFl o = 0) : ∃ a, o = some a := by
  cases o with
  | none => exact absurd rfl h
  | some a => exact ⟨a, rfl⟩
def mShy (I : gI) (j : Nat) : Prop := I 12 4 (I 12 19 (I 12 30 j).toNatClampNeg).toNatClampNeg = 1 ∧ ¬ I 11 0 1 - I 12 20 (I 12 30 j).toNatClampNeg < 30
noncomputable def mCh (I : gI) (nw : Nat) : Nat := (gSt (mShy I) nw).getD 0
def gShift (r : Nat → Int32) (a w : Nat) : Nat → Int32 := fun j => if a ≤ j ∧ j < w then r (j + 1) else r j
theorem gShift_0 (r : Nat → Int32) (a : Nat) : gShift r a a = r := by
  funext j
  unfold gShift
  rw [if_neg (by omega)]
theorem gShift_step {J : gI} {r : Nat → Int32} {a j : Nat} (ha : a ≤ j) : gs (gr J 12 30 (gShift r a j)) 12 30 j (r (j + 1)) = gr J 12 30 (gShift r a (j + 1)) := by
  funext k i s
  by_cases h : k = 12 ∧ i = 30
  · obtain ⟨rfl, rfl⟩ := h
    simp only [gr, upd, and_self, if_true]
    unfold gShift
    by_cases hs : s = j
    · subst hs
      rw [if_pos rfl, if_pos (by omega)]
    · rw [if_neg hs]
      by_cases h1 : a ≤ s ∧ s < j
      · rw [if_pos h1, if_pos (by omega)]
      · rw [if_neg h1, if_neg (by omega)]
  · simp [gr, h]
theorem gr_self {J : gI} {k i : Nat} {r : Nat → Int32} (h : J k i = r) : gr J k i r = J := by
  funext k' i'
  unfold gr
  by_cases hq : k' = k ∧ i' = i
  · obtain ⟨rfl, rfl⟩ := hq
    rw [if_pos ⟨rfl, rfl⟩, h]
  · rw [if_neg hq]
theorem nI_m1 {n : Nat} (h : 0 < n) : nI n - 1 = nI (n - 1) := by
  obtain ⟨m, rfl⟩ : ∃ q, n = q + 1 := ⟨n - 1, by omega⟩
  exact nI_pred m
noncomputable def mEnterB (I : gI) (F : gF) (nw : Nat) : gI := gr (gs (mBegin_I I F (I 12 30 (mCh I nw)) (I 12 19 (I 12 30 (mCh I nw)).toNatClampNeg)) 11 0 29 (nI nw - 1)) 12 30 (gShift (I 12 30) (mCh I nw) (nw - 1))
noncomputable def mEnter (I : gI) (F : gF) (nw : Nat) : gI := if I 11 0 31 = -9 then (if I 11 0 2 = 0 then I else (if I 11 0 29 = 0 then I else mEnterB I F nw)) else I
def nwE (I : gI) (nw : Nat) : Nat := if I 11 0 31 = -9 then (if I 11 0 2 = 0 then nw else (if I 11 0 29 = 0 then nw else nw - 1)) else nw
/-- what the reference needs of itself to run -/
def MI (I : gI) (nc nv nw : Nat) : Prop := I 11 0 0 = 0 ∧ I 11 0 3 = nI nc ∧ nc ≤ 12 ∧ I 11 0 17 = nI nv ∧ nv ≤ 500 ∧ I 11 0 29 = nI nw ∧ nw ≤ 12 ∧ (∀ v : Nat, v < nv → vp_in (I 12 19 v) nc) ∧ (∀ j : Nat, j < nw → vp_in (I 12 30 j) nv) ∧ (I 11 0 31 = -9 ∨ vp_in (I 11 0 31) nv) ∧ (∀ j : Nat, j < nc → ¬ I 12 5 j = 0)
theorem MI_finish {I : gI} {F : gF} {nc nv nw : Nat} {m v c : Int32} (h : MI I nc nv nw) : MI (mFinish_I I F m v c) nc nv nw := by
  obtain ⟨ht, hn, h12, hv, v500, hw, w12, hvc, hq, hb, hr⟩ := h
  refine ⟨?_, ?_, h12, ?_, v500, ?_, w12, ?_, ?_, ?_, ?_⟩ <;> simp [mFinish_I, gr, upd] <;> assumption
theorem MI_enter {I : gI} {F : gF} {nc nv nw : Nat} (h : MI I nc nv nw) : MI (mEnter I F nw) nc nv (nwE I nw) := by
  have h0 := h
  obtain ⟨ht, hn, h12, hv, v500, hw, w12, hvc, hq, hb, hr⟩ := h
  unfold mEnter nwE
  by_cases c1 : I 11 0 31 = -9
  · rw [if_pos c1, if_pos c1]
    by_cases c2 : I 11 0 2 = 0
    · rw [if_pos c2, if_pos c2]; exact h0
    · rw [if_neg c2, if_neg c2]
      by_cases c3 : I 11 0 29 = 0
      · rw [if_pos c3, if_pos c3]; exact h0
      · rw [if_neg c3, if_neg c3]
        have hnw : 0 < nw := by
          rcases Nat.eq_zero_or_pos nw with q | q
          · rw [q] at hw; exact absurd hw c3
          · exact q
        have ha : mCh I nw < nw := gSt_getD hnw
        obtain ⟨b0, b3, b17, b29, b31⟩ := mBegin_11 (I := I) (F := F) (v := I 12 30 (mCh I nw)) (c := I 12 19 (I 12 30 (mCh I nw)).toNatClampNeg)
        obtain ⟨b19, b30, b5⟩ := mBegin_12 (I := I) (F := F) (v := I 12 30 (mCh I nw)) (c := I 12 19 (I 12 30 (mCh I nw)).toNatClampNeg)
        unfold mEnterB
        generalize mBegin_I I F (I 12 30 (mCh I nw)) (I 12 19 (I 12 30 (mCh I nw)).toNatClampNeg) = B at *
        refine ⟨?_, ?_, h12, ?_, v500, ?_, by omega, ?_, ?_, ?_, ?_⟩
        · simp [gr, upd, b0, ht]
        · simp [gr, upd, b3, hn]
        · simp [gr, upd, b17, hv]
        · simp [gr, upd]; exact nI_m1 hnw
        · intro v hvl; simp [gr, b19]; exact hvc v hvl
        · intro j hj; simp [gr]; unfold gShift
          split
          · exact hq _ (by omega)
          · exact hq _ (by omega)
        · right; simp [gr, upd, b31]; exact hq _ ha
        · intro j hj; simp [gr, b5]; exact hr j hj
  · rw [if_neg c1, if_neg c1]; exact h0
set_option maxHeartbeats 4000000 in
set_option maxRecDepth 100000 in
theorem c_X6_isAlarm (D : va_G) (E : gEc) (ad : gAd) (I : gI) (F : gF) (lc ln : Nat) (c a : Int32) (nv : Nat) (hv : I 11 0 17 = nI nv) (v500 : nv ≤ 500) : gCon D E yX6_isAlarm cX6_isAlarm 6 (some .boolean) 0 0 0 [.ref (ad 11 0), .int c, .int a] ad (cX E ad I F lc ln) (gPd (some (.int (pI (mAlarm I nv c a)))) ad (cX E ad I F lc ln)) := by
  refine gCon.of (by decide) (Nat.le_of_ble_eq_true rfl) ?_
  intro l A Rn h
  show Rn 0 [(0, .ref (ad 11 0)), (1, .int c), (2, .int a)] [] ad (cX E ad I F lc ln) 0 0
  refine r_iconst (v := 0) h.ok dX6_isAlarm_0 (by decide) ?_
  refine r_istore_n (lv' := [(3, .int 0), (0, .ref (ad 11 0)), (1, .int c), (2, .int a)]) h.ok dX6_isAlarm_1 (by decide) rfl ?_
  refine r_iconst (v := 0) h.ok dX6_isAlarm_2 (by decide) ?_
  refine r_istore (lv' := [(4, .int 0), (3, .int 0), (0, .ref (ad 11 0)), (1, .int c), (2, .int a)]) h.ok dX6_isAlarm_3 (by decide) rfl ?_
  refine r_aload_n h.ok dX6_isAlarm_5 2 rfl ?_
  refine r_get (v := .int (I 11 0 17)) h.ok 17 dX6_isAlarm_6 (xo_11 _) rfl inX6 (by decide) wfl_X6_184 rfl ?_
  refine r_iconst (v := 1) h.ok dX6_isAlarm_9 (by decide) ?_
  refine r_isub h.ok dX6_isAlarm_10 ?_
  refine r_istore (lv' := [(5, .int ((I 11 0 17) - 1)), (4, .int 0), (3, .int 0), (0, .ref (ad 11 0)), (1, .int c), (2, .int a)]) h.ok dX6_isAlarm_11 (by decide) rfl ?_
  have lp13 : ∀ (n : Nat) (k m : Nat) (x5 x3 x4 : Int32), (k ≤ nv) → (k + 1 ≤ n) → (m ≤ 5) → (x5 = nI k + (-1)) → (x3 = nI m) → (mLast I nv c = gBack (fun v => I 12 19 v = c) (fun v => I 12 21 v) k m x4) → Rn 13 [(5, .int x5), (3, .int x3), (4, .int x4), (0, .ref (ad 11 0)), (1, .int c), (2, .int a)] [] ad (cX E ad I F lc ln) 0 0 := by
    intro n
    induction n with
    | zero => intro k m  x5 x3 x4  hkv hf hm5 hx5 hx3 hs; exfalso; omega
    | succ n ih13 =>
      intro k m  x5 x3 x4  hkv hf hm5 hx5 hx3 hs
      refine r_iload h.ok dX6_isAlarm_13 0 rfl ?_
      refine r_if_lt h.ok 55 dX6_isAlarm_15 (by decide) (fun c_15 => ?_) (fun c_15 => ?_)
      · have hq2 := hs.trans (gBack_end (Or.inl (m1_neg hx5 (by omega) c_15)))
        refine r_iload_n h.ok dX6_isAlarm_55 1 rfl ?_
        refine r_iconst (v := 3) h.ok dX6_isAlarm_56 (by decide) ?_
        refine r_icmp_lt h.ok 78 dX6_isAlarm_57 (by decide) (fun c_57 => ?_) (fun c_57 => ?_)
        · refine r_iconst (v := 0) h.ok dX6_isAlarm_78 (by decide) ?_
          refine r_zret h dX6_isAlarm_79 ⟨by decide, by decide⟩ (by simp) ⟨(by rw [pI_f (show ¬ mAlarm I nv c a by unfold mAlarm; rw [hq2, ← hx3]; exact fun q => q.1 c_57)]), rfl, rfl⟩
        · refine r_bipush (v := 10) h.ok dX6_isAlarm_60 (by decide) ?_
          refine r_iload_n h.ok dX6_isAlarm_62 5 rfl ?_
          refine r_imul h.ok dX6_isAlarm_63 ?_
          refine r_iload_n h.ok dX6_isAlarm_64 1 rfl ?_
          refine r_imul h.ok dX6_isAlarm_65 ?_
          refine r_bipush (v := 12) h.ok dX6_isAlarm_66 (by decide) ?_
          refine r_iload h.ok dX6_isAlarm_68 2 rfl ?_
          refine r_imul h.ok dX6_isAlarm_70 ?_
          refine r_icmp_le h.ok 78 dX6_isAlarm_71 (by decide) (fun c_71 => ?_) (fun c_71 => ?_)
          · refine r_iconst (v := 0) h.ok dX6_isAlarm_78 (by decide) ?_
            refine r_zret h dX6_isAlarm_79 ⟨by decide, by decide⟩ (by simp) ⟨(by rw [pI_f (show ¬ mAlarm I nv c a by unfold mAlarm; rw [hq2, ← hx3]; exact fun q => q.2 c_71)]), rfl, rfl⟩
          · refine r_iconst (v := 1) h.ok dX6_isAlarm_74 (by decide) ?_
            refine r_goto h.ok 79 dX6_isAlarm_75 (by decide) ?_
            refine r_zret h dX6_isAlarm_79 ⟨by decide, by decide⟩ (by simp) ⟨(by rw [pI_t (show mAlarm I nv c a by unfold mAlarm; rw [hq2, ← hx3]; exact ⟨c_57, c_71⟩)]), rfl, rfl⟩
      · have kp := m1_pos hx5 c_15
        refine r_iload_n h.ok dX6_isAlarm_18 1 rfl ?_
        refine r_iconst (v := 5) h.ok dX6_isAlarm_19 (by decide) ?_
        refine r_icmp_ge h.ok 55 dX6_isAlarm_20 (by decide) (fun c_20 => ?_) (fun c_20 => ?_)
        · have hq2 := hs.trans (gBack_end (Or.inr (show 5 ≤ m by rw [hx3, show (5 : Int32) = nI 5 by decide, nI_leI (by decide) (by omega)] at c_20; exact c_20)))
          refine r_iload_n h.ok dX6_isAlarm_55 1 rfl ?_
          refine r_iconst (v := 3) h.ok dX6_isAlarm_56 (by decide) ?_
          refine r_icmp_lt h.ok 78 dX6_isAlarm_57 (by decide) (fun c_57 => ?_) (fun c_57 => ?_)
          · refine r_iconst (v := 0) h.ok dX6_isAlarm_78 (by decide) ?_
            refine r_zret h dX6_isAlarm_79 ⟨by decide, by decide⟩ (by simp) ⟨(by rw [pI_f (show ¬ mAlarm I nv c a by unfold mAlarm; rw [hq2, ← hx3]; exact fun q => q.1 c_57)]), rfl, rfl⟩
          · refine r_bipush (v := 10) h.ok dX6_isAlarm_60 (by decide) ?_
            refine r_iload_n h.ok dX6_isAlarm_62 5 rfl ?_
            refine r_imul h.ok dX6_isAlarm_63 ?_
            refine r_iload_n h.ok dX6_isAlarm_64 1 rfl ?_
            refine r_imul h.ok dX6_isAlarm_65 ?_
            refine r_bipush (v := 12) h.ok dX6_isAlarm_66 (by decide) ?_
            refine r_iload h.ok dX6_isAlarm_68 2 rfl ?_
            refine r_imul h.ok dX6_isAlarm_70 ?_
            refine r_icmp_le h.ok 78 dX6_isAlarm_71 (by decide) (fun c_71 => ?_) (fun c_71 => ?_)
            · refine r_iconst (v := 0) h.ok dX6_isAlarm_78 (by decide) ?_
              refine r_zret h dX6_isAlarm_79 ⟨by decide, by decide⟩ (by simp) ⟨(by rw [pI_f (show ¬ mAlarm I nv c a by unfold mAlarm; rw [hq2, ← hx3]; exact fun q => q.2 c_71)]), rfl, rfl⟩
            · refine r_iconst (v := 1) h.ok dX6_isAlarm_74 (by decide) ?_
              refine r_goto h.ok 79 dX6_isAlarm_75 (by decide) ?_
              refine r_zret h dX6_isAlarm_79 ⟨by decide, by decide⟩ (by simp) ⟨(by rw [pI_t (show mAlarm I nv c a by unfold mAlarm; rw [hq2, ← hx3]; exact ⟨c_57, c_71⟩)]), rfl, rfl⟩
        · have m5 : ¬ 5 ≤ m := fun q => c_20 (by rw [hx3]; exact nI_le q (by omega))
          refine r_aload_n h.ok dX6_isAlarm_23 3 rfl ?_
          refine r_get h.ok 19 dX6_isAlarm_24 (xo_11 _) rfl inX6 (by decide) wfl_X6_56 rfl ?_
          refine r_iload h.ok dX6_isAlarm_27 0 rfl ?_
          refine x_iald (v := I 12 19 (k - 1)) h.ok (k - 1) dX6_isAlarm_29 rfl kp.2 (by omega) (by decide) rfl ?_
          refine r_iload_n h.ok dX6_isAlarm_30 4 rfl ?_
          refine r_icmp_ne h.ok 49 dX6_isAlarm_31 (by decide) (fun c_31 => ?_) (fun c_31 => ?_)
          · refine r_iinc (v := x5 + (-1)) (lv' := [(5, .int (x5 + (-1))), (3, .int x3), (4, .int x4), (0, .ref (ad 11 0)), (1, .int c), (2, .int a)]) h.ok dX6_isAlarm_49 0 rfl rfl (by decide) rfl ?_
            refine r_goto h.ok 13 dX6_isAlarm_52 (by decide) ?_
            exact ih13 (k - 1) m _ _ _ (by omega) (by omega) hm5 (by rw [kp.2]) hx3 (by rw [hs]; exact gBack_miss kp.1 m5 c_31)
          · refine r_iload h.ok dX6_isAlarm_34 2 rfl ?_
            refine r_aload_n h.ok dX6_isAlarm_36 3 rfl ?_
            refine r_get h.ok 21 dX6_isAlarm_37 (xo_11 _) rfl inX6 (by decide) wfl_X6_62 rfl ?_
            refine r_iload h.ok dX6_isAlarm_40 0 rfl ?_
            refine x_iald (v := I 12 21 (k - 1)) h.ok (k - 1) dX6_isAlarm_42 rfl kp.2 (by omega) (by decide) rfl ?_
            refine r_iadd h.ok dX6_isAlarm_43 ?_
            refine r_istore (lv' := [(4, .int (x4 + (I 12 21 (k - 1)))), (5, .int x5), (3, .int x3), (0, .ref (ad 11 0)), (1, .int c), (2, .int a)]) h.ok dX6_isAlarm_44 (by decide) rfl ?_
            refine r_iinc (v := x3 + 1) (lv' := [(3, .int (x3 + 1)), (4, .int (x4 + (I 12 21 (k - 1)))), (5, .int x5), (0, .ref (ad 11 0)), (1, .int c), (2, .int a)]) h.ok dX6_isAlarm_46 2 rfl rfl (by decide) rfl ?_
            refine r_iinc (v := x5 + (-1)) (lv' := [(5, .int (x5 + (-1))), (3, .int (x3 + 1)), (4, .int (x4 + (I 12 21 (k - 1)))), (0, .ref (ad 11 0)), (1, .int c), (2, .int a)]) h.ok dX6_isAlarm_49 2 rfl rfl (by decide) rfl ?_
            refine r_goto h.ok 13 dX6_isAlarm_52 (by decide) ?_
            exact ih13 (k - 1) (m + 1) _ _ _ (by omega) (by omega) (by omega) (by rw [kp.2]) (by rw [hx3]; exact nI_1 m) (by rw [hs]; exact gBack_hit kp.1 m5 c_31)
  refine r_lv (lv' := [(5, .int ((I 11 0 17) - 1)), (3, .int 0), (4, .int 0), (0, .ref (ad 11 0)), (1, .int c), (2, .int a)]) h.ok [0, 2, 1, 3, 4, 5] rfl ?_
  exact lp13 (nv + 1) nv 0 _ _ _ (Nat.le_refl _) (Nat.le_refl _) (by decide) (by rw [hv]; exact sub1 _) rfl rfl
end
section
set_option maxHeartbeats 4000000 in
set_option maxRecDepth 100000 in
theorem enter_tail {D : va_G} {E : gEc} {ad : gAd} {F : gF} {lc ln : Nat} {l : Launch} {A : Nat → Prop} {Rn : gR} {post : Option Value → gAd → gCe → Prop} {B : gI} {r : Nat → Int32} {a nw : Nat} {x1 x2 x3 : Int32} (h : gOkM l (gRm 2 0 0) cX6_enter 5 none yX6_enter.cls yX6_enter.name D A E 0 0 post Rn) (nw0 : 0 < nw) (w12 : nw ≤ 12) (alt : a < nw) (hx1 : x1 = nI a) (b29 : B 11 0 29 = nI nw) (b30 : B 12 30 = r) (hpost : ∀ I2 : gI, I2 = gr (gs B 11 0 29 (nI nw - 1)) 12 30 (gShift r a (nw - 1)) → post none ad (cX E ad I2 F lc ln)) : Rn 103 [(3, .int x3), (2, .int x2), (1, .int x1), (0, .ref (ad 11 0))] [] ad (cX E ad B F lc ln) 0 0 := by
  refine r_aload_n h.ok dX6_enter_103 3 rfl ?_
  refine r_dup h.ok dX6_enter_104 rfl ?_
  refine r_get (v := .int (nI nw)) h.ok 29 dX6_enter_105 (xo_11 _) rfl inX6 (by decide) wfl_X6_110 (congrArg (fun z => some (Value.int z)) (b29 : B 11 0 29 = nI nw)) ?_
  refine r_iconst (v := 1) h.ok dX6_enter_108 (by decide) ?_
  refine r_isub h.ok dX6_enter_109 ?_
  refine r_topi (fun wm e_wm => ?_)
  refine r_put (ty := tyX6) h.ok 29 dX6_enter_110 (xo_11 _) rfl inX6 tyX6_ok nmX6 (by decide) wfl_X6_110 rfl rfl rfl (by simp) (cX_put (r' := upd (B 11 0) 29 wm) (xo_11 _)) ?_
  show Rn 113 [(3, .int x3), (2, .int x2), (1, .int x1), (0, .ref (ad 11 0))] [] ad (cX E ad (gs B 11 0 29 wm) F lc ln) 0 0
  have hJ30 : (gs B 11 0 29 wm) 12 30 = r := by simp [gr]; exact b30
  have hJ29 : (gs B 11 0 29 wm) 11 0 29 = nI (nw - 1) := by simp [gr, upd]; rw [e_wm]; exact nI_m1 nw0
  generalize hJ : gs B 11 0 29 wm = J at hJ30 hJ29 ⊢
  refine r_iload_n h.ok dX6_enter_113 2 rfl ?_
  refine r_istore_n (lv' := [(3, .int x1), (2, .int x2), (1, .int x1), (0, .ref (ad 11 0))]) h.ok dX6_enter_114 (by decide) rfl ?_
  have lp115 : ∀ (n : Nat) (j : Nat) (x : Int32), (a ≤ j) → (j ≤ nw - 1) → (nw ≤ j + n) → (x = nI j) → Rn 115 [(3, .int x), (0, .ref (ad 11 0))] [] ad (cX E ad (gr J 12 30 (gShift r a j)) F lc ln) 0 0 := by
    intro n
    induction n with
    | zero => intro j  x  ha hj hf hx; exfalso; omega
    | succ n ih115 =>
      intro j  x  ha hj hf hx
      refine r_iload_n h.ok dX6_enter_115 0 rfl ?_
      refine r_aload_n h.ok dX6_enter_116 1 rfl ?_
      refine r_get (v := .int (nI (nw - 1))) h.ok 29 dX6_enter_117 (xo_11 _) rfl inX6 (by decide) wfl_X6_110 (congrArg (fun z => some (Value.int z)) ((by simp [gr]; exact hJ29) : (gr J 12 30 (gShift r a j)) 11 0 29 = nI (nw - 1))) ?_
      refine r_icmp_ge h.ok 143 dX6_enter_120 (by decide) (fun c_120 => ?_) (fun c_120 => ?_)
      · have jw2 : j = nw - 1 := ge_nI hx (by omega) hj c_120
        refine r_vret h dX6_enter_143 ⟨by decide, by decide⟩ (hpost _ (by rw [← e_wm, hJ, jw2]))
      · have jw2 : j < nw - 1 := lt_nI hx (by omega) hj c_120
        refine r_aload_n h.ok dX6_enter_123 1 rfl ?_
        refine r_get h.ok 30 dX6_enter_124 (xo_11 _) rfl inX6 (by decide) wfl_X6_87 rfl ?_
        refine r_iload_n h.ok dX6_enter_127 0 rfl ?_
        refine r_aload_n h.ok dX6_enter_128 1 rfl ?_
        refine r_get h.ok 30 dX6_enter_129 (xo_11 _) rfl inX6 (by decide) wfl_X6_87 rfl ?_
        refine r_iload_n h.ok dX6_enter_132 0 rfl ?_
        refine r_iconst (v := 1) h.ok dX6_enter_133 (by decide) ?_
        refine r_iadd h.ok dX6_enter_134 ?_
        refine x_iald (v := r (j + 1)) h.ok (j + 1) dX6_enter_135 rfl (by rw [hx]; exact nI_1 j) (by omega) (by decide) (by simp only [gr, gShift, and_self, if_true]; rw [if_neg (by omega)]) ?_
        refine x_iast h.ok j dX6_enter_136 (fun _ => rfl) hx (by omega) (by decide) ?_
        refine r_iinc (v := x + 1) (lv' := [(3, .int (x + 1)), (0, .ref (ad 11 0))]) h.ok dX6_enter_137 0 rfl rfl (by decide) rfl ?_
        refine r_goto h.ok 115 dX6_enter_140 (by decide) ?_
        show Rn 115 [(3, .int (x + 1)), (0, .ref (ad 11 0))] [] ad (cX E ad (gs (gr J 12 30 (gShift r a j)) 12 30 j (r (j + 1))) F lc ln) 0 0
        rw [gShift_step ha]
        exact ih115 (j + 1) _ (by omega) (by omega) (by omega) (by rw [hx]; exact nI_1 j)
  refine r_lv (lv' := [(3, .int x1), (0, .ref (ad 11 0))]) h.ok [0, 3] rfl ?_
  rw [show J = gr J 12 30 (gShift r a a) from (gr_self (by rw [gShift_0]; exact hJ30)).symm]
  exact lp115 nw a _ (Nat.le_refl _) (by omega) (by omega) hx1
end
section
set_option maxHeartbeats 4000000 in
set_option maxRecDepth 100000 in
theorem c_X6_enter (D : va_G) (E : gEc) (ad : gAd) (I : gI) (F : gF) (lc ln : Nat) (nc nv nw : Nat) (hM : MI I nc nv nw) : gCon D E yX6_enter cX6_enter 5 none 2 0 0 [.ref (ad 11 0)] ad (cX E ad I F lc ln) (gPd none ad (cX E ad (mEnter I F nw) F lc ln)) := by
  refine gCon.of (by decide) (Nat.le_of_ble_eq_true rfl) ?_
  intro l A Rn h
  obtain ⟨ht, hn, h12, hv, v500, hw, w12, hvc, hq, hb, hr⟩ := hM
  show Rn 0 [(0, .ref (ad 11 0))] [] ad (cX E ad I F lc ln) 0 0
  refine r_aload_n h.ok dX6_enter_0 0 rfl ?_
  refine r_get (v := .int (I 11 0 31)) h.ok 31 dX6_enter_1 (xo_11 _) rfl inX6 (by decide) wfl_X6_90 rfl ?_
  refine r_bipush (v := (-9)) h.ok dX6_enter_4 (by decide) ?_
  refine r_icmp_ne h.ok 23 dX6_enter_6 (by decide) (fun c_6 => ?_) (fun c_6 => ?_)
  · refine r_vret h dX6_enter_23 ⟨by decide, by decide⟩ ⟨rfl, rfl, (by unfold mEnter; rw [if_neg c_6])⟩
  · refine r_aload_n h.ok dX6_enter_9 0 rfl ?_
    refine r_get (v := .int (I 11 0 2)) h.ok 2 dX6_enter_10 (xo_11 _) rfl inX6 (by decide) wfl_X6_7 rfl ?_
    refine r_if_eq h.ok 23 dX6_enter_13 (by decide) (fun c_13 => ?_) (fun c_13 => ?_)
    · refine r_vret h dX6_enter_23 ⟨by decide, by decide⟩ ⟨rfl, rfl, (by unfold mEnter; rw [if_pos c_6, if_pos c_13])⟩
    · refine r_aload_n h.ok dX6_enter_16 0 rfl ?_
      refine r_get (v := .int (I 11 0 29)) h.ok 29 dX6_enter_17 (xo_11 _) rfl inX6 (by decide) wfl_X6_110 rfl ?_
      refine r_if_ne h.ok 24 dX6_enter_20 (by decide) (fun c_20 => ?_) (fun c_20 => ?_)
      · have nw0 : 0 < nw := Nat.pos_of_ne_zero (fun q => c_20 (by rw [hw, q]; rfl))
        refine r_iconst (v := 0) h.ok dX6_enter_24 (by decide) ?_
        refine r_istore_n (lv' := [(1, .int 0), (0, .ref (ad 11 0))]) h.ok dX6_enter_25 (by decide) rfl ?_
        refine r_iconst (v := 0) h.ok dX6_enter_26 (by decide) ?_
        refine r_istore_n (lv' := [(2, .int 0), (1, .int 0), (0, .ref (ad 11 0))]) h.ok dX6_enter_27 (by decide) rfl ?_
        refine r_iconst (v := 0) h.ok dX6_enter_28 (by decide) ?_
        refine r_istore_n (lv' := [(3, .int 0), (2, .int 0), (1, .int 0), (0, .ref (ad 11 0))]) h.ok dX6_enter_29 (by decide) rfl ?_
        have lp30 : ∀ (n : Nat) (j : Nat) (x3 x2 x1 : Int32), (j ≤ nw) → (nw + 1 ≤ j + n) → (x3 = nI j) → (x2 = gFl (gSt (mShy I) j)) → (x1 = nI ((gSt (mShy I) j).getD 0)) → Rn 30 [(3, .int x3), (2, .int x2), (1, .int x1), (0, .ref (ad 11 0))] [] ad (cX E ad I F lc ln) 0 0 := by
          intro n
          induction n with
          | zero => intro j  x3 x2 x1  hj hf hx3 h2 h1; exfalso; omega
          | succ n ih30 =>
            intro j  x3 x2 x1  hj hf hx3 h2 h1
            refine r_iload_n h.ok dX6_enter_30 0 rfl ?_
            refine r_aload_n h.ok dX6_enter_31 3 rfl ?_
            refine r_get (v := .int (I 11 0 29)) h.ok 29 dX6_enter_32 (xo_11 _) rfl inX6 (by decide) wfl_X6_110 rfl ?_
            rw [hw]
            refine r_icmp_ge h.ok 93 dX6_enter_35 (by decide) (fun c_35 => ?_) (fun c_35 => ?_)
            · have jw : j = nw := ge_nI hx3 (by omega) hj c_35
              have hx1 : x1 = nI (mCh I nw) := by rw [h1, jw]; rfl
              have alt : mCh I nw < nw := gSt_getD nw0
              refine r_aload_n h.ok dX6_enter_93 3 rfl ?_
              refine r_aload_n h.ok dX6_enter_94 3 rfl ?_
              refine r_get h.ok 30 dX6_enter_95 (xo_11 _) rfl inX6 (by decide) wfl_X6_87 rfl ?_
              refine r_iload_n h.ok dX6_enter_98 2 rfl ?_
              refine x_iald (v := I 12 30 (mCh I nw)) h.ok (mCh I nw) dX6_enter_99 rfl hx1 (by omega) (by decide) rfl ?_
              refine r_callV h.ok [.int (I 12 30 (mCh I nw))] [] dX6_enter_100 (c_X6_begin D E ad I F lc ln (I 12 30 (mCh I nw)) _ rfl (vp_mono (hq _ alt) v500) (vp_mono (hvc _ (vp_lt (hq _ alt))) h12)) wml_X6_113 wim_X6_begin wse_X6_begin win_X6 wco_X6_begin yok_X6_begin (xo_11 _) rfl rfl ⟨by decide, by decide, by simp [gRm], by simp [gRm]⟩ (Nat.le_of_ble_eq_true rfl) rfl ?_
              show Rn 103 [(3, .int x3), (2, .int x2), (1, .int x1), (0, .ref (ad 11 0))] [] ad (cX E ad (mBegin_I I F (I 12 30 (mCh I nw)) (I 12 19 (I 12 30 (mCh I nw)).toNatClampNeg)) F lc ln) 0 0
              have b29 := (mBegin_11 (I := I) (F := F) (v := I 12 30 (mCh I nw)) (c := I 12 19 (I 12 30 (mCh I nw)).toNatClampNeg)).2.2.2.1
              have b30 := (mBegin_12 (I := I) (F := F) (v := I 12 30 (mCh I nw)) (c := I 12 19 (I 12 30 (mCh I nw)).toNatClampNeg)).2.1
              generalize hB : mBegin_I I F (I 12 30 (mCh I nw)) (I 12 19 (I 12 30 (mCh I nw)).toNatClampNeg) = B at b29 b30 ⊢
              exact enter_tail h nw0 w12 alt hx1 (b29.trans hw) b30 (fun I2 hI2 => ⟨rfl, rfl, by unfold mEnter; rw [if_pos c_6, if_neg c_13, if_neg c_20]; unfold mEnterB; rw [hB, ← hI2]⟩)
            · have jw : j < nw := lt_nI hx3 (by omega) hj c_35
              refine r_aload_n h.ok dX6_enter_38 3 rfl ?_
              refine r_get h.ok 30 dX6_enter_39 (xo_11 _) rfl inX6 (by decide) wfl_X6_87 rfl ?_
              refine r_iload_n h.ok dX6_enter_42 0 rfl ?_
              refine x_iald (v := I 12 30 j) h.ok j dX6_enter_43 rfl hx3 (by omega) (by decide) rfl ?_
              refine r_istore (lv' := [(4, .int (I 12 30 j)), (3, .int x3), (2, .int x2), (1, .int x1), (0, .ref (ad 11 0))]) h.ok dX6_enter_44 (by decide) rfl ?_
              refine r_iload_n h.ok dX6_enter_46 2 rfl ?_
              refine r_if_ne h.ok 87 dX6_enter_47 (by decide) (fun c_47 => ?_) (fun c_47 => ?_)
              · refine r_iinc (v := x3 + 1) (lv' := [(3, .int (x3 + 1)), (4, .int (I 12 30 j)), (2, .int x2), (1, .int x1), (0, .ref (ad 11 0))]) h.ok dX6_enter_87 1 rfl rfl (by decide) rfl ?_
                refine r_goto h.ok 30 dX6_enter_90 (by decide) ?_
                refine r_lv (lv' := [(3, .int (x3 + 1)), (2, .int x2), (1, .int x1), (0, .ref (ad 11 0))]) h.ok [0, 2, 3, 4] rfl ?_
                exact ih30 (j + 1) _ _ _ (by omega) (by omega) (by rw [hx3]; exact nI_1 j) (by obtain ⟨a, ha⟩ := gFl_1 (fun q => c_47 (h2.trans q)); rw [gSt_keep ha, ← ha]; exact h2) (by obtain ⟨a, ha⟩ := gFl_1 (fun q => c_47 (h2.trans q)); rw [gSt_keep ha, ← ha]; exact h1)
              · refine r_aload_n h.ok dX6_enter_50 4 rfl ?_
                refine r_get h.ok 4 dX6_enter_51 (xo_11 _) rfl inX6 (by decide) wfl_X6_13 rfl ?_
                refine r_aload_n h.ok dX6_enter_54 4 rfl ?_
                refine r_get h.ok 19 dX6_enter_55 (xo_11 _) rfl inX6 (by decide) wfl_X6_56 rfl ?_
                refine r_iload h.ok dX6_enter_58 0 rfl ?_
                refine x_ialp (v := I 12 19 ((I 12 30 j).toNatClampNeg)) h.ok dX6_enter_60 rfl (vp_mono (hq j jw) v500) rfl ?_
                refine x_ialp (v := I 12 4 ((I 12 19 ((I 12 30 j).toNatClampNeg)).toNatClampNeg)) h.ok dX6_enter_61 rfl (vp_mono (hvc _ (vp_lt (hq j jw))) h12) rfl ?_
                refine r_iconst (v := 1) h.ok dX6_enter_62 (by decide) ?_
                refine r_icmp_ne h.ok 87 dX6_enter_63 (by decide) (fun c_63 => ?_) (fun c_63 => ?_)
                · refine r_iinc (v := x3 + 1) (lv' := [(3, .int (x3 + 1)), (4, .int (I 12 30 j)), (2, .int x2), (1, .int x1), (0, .ref (ad 11 0))]) h.ok dX6_enter_87 1 rfl rfl (by decide) rfl ?_
                  refine r_goto h.ok 30 dX6_enter_90 (by decide) ?_
                  refine r_lv (lv' := [(3, .int (x3 + 1)), (2, .int x2), (1, .int x1), (0, .ref (ad 11 0))]) h.ok [0, 2, 3, 4] rfl ?_
                  exact ih30 (j + 1) _ _ _ (by omega) (by omega) (by rw [hx3]; exact nI_1 j) (by rw [gSt_miss (gFl_0 (h2.symm.trans c_47)) (show ¬ mShy I j from fun q => c_63 q.1)]; exact h2.trans (by rw [(gFl_0 (h2.symm.trans c_47))])) (by rw [gSt_miss (gFl_0 (h2.symm.trans c_47)) (show ¬ mShy I j from fun q => c_63 q.1)]; exact h1.trans (by rw [(gFl_0 (h2.symm.trans c_47))]))
                · refine r_aload_n h.ok dX6_enter_66 4 rfl ?_
                  refine r_get (v := .int (I 11 0 1)) h.ok 1 dX6_enter_67 (xo_11 _) rfl inX6 (by decide) wfl_X6_107 rfl ?_
                  refine r_aload_n h.ok dX6_enter_70 4 rfl ?_
                  refine r_get h.ok 20 dX6_enter_71 (xo_11 _) rfl inX6 (by decide) wfl_X6_59 rfl ?_
                  refine r_iload h.ok dX6_enter_74 0 rfl ?_
                  refine x_ialp (v := I 12 20 ((I 12 30 j).toNatClampNeg)) h.ok dX6_enter_76 rfl (vp_mono (hq j jw) v500) rfl ?_
                  refine r_isub h.ok dX6_enter_77 ?_
                  refine r_bipush (v := 30) h.ok dX6_enter_78 (by decide) ?_
                  refine r_icmp_lt h.ok 87 dX6_enter_80 (by decide) (fun c_80 => ?_) (fun c_80 => ?_)
                  · refine r_iinc (v := x3 + 1) (lv' := [(3, .int (x3 + 1)), (4, .int (I 12 30 j)), (2, .int x2), (1, .int x1), (0, .ref (ad 11 0))]) h.ok dX6_enter_87 1 rfl rfl (by decide) rfl ?_
                    refine r_goto h.ok 30 dX6_enter_90 (by decide) ?_
                    refine r_lv (lv' := [(3, .int (x3 + 1)), (2, .int x2), (1, .int x1), (0, .ref (ad 11 0))]) h.ok [0, 2, 3, 4] rfl ?_
                    exact ih30 (j + 1) _ _ _ (by omega) (by omega) (by rw [hx3]; exact nI_1 j) (by rw [gSt_miss (gFl_0 (h2.symm.trans c_47)) (show ¬ mShy I j from fun q => q.2 c_80)]; exact h2.trans (by rw [(gFl_0 (h2.symm.trans c_47))])) (by rw [gSt_miss (gFl_0 (h2.symm.trans c_47)) (show ¬ mShy I j from fun q => q.2 c_80)]; exact h1.trans (by rw [(gFl_0 (h2.symm.trans c_47))]))
                  · refine r_iload_n h.ok dX6_enter_83 1 rfl ?_
                    refine r_istore_n (lv' := [(1, .int x3), (4, .int (I 12 30 j)), (3, .int x3), (2, .int x2), (0, .ref (ad 11 0))]) h.ok dX6_enter_84 (by decide) rfl ?_
                    refine r_iconst (v := 1) h.ok dX6_enter_85 (by decide) ?_
                    refine r_istore_n (lv' := [(2, .int 1), (1, .int x3), (4, .int (I 12 30 j)), (3, .int x3), (0, .ref (ad 11 0))]) h.ok dX6_enter_86 (by decide) rfl ?_
                    refine r_iinc (v := x3 + 1) (lv' := [(3, .int (x3 + 1)), (2, .int 1), (1, .int x3), (4, .int (I 12 30 j)), (0, .ref (ad 11 0))]) h.ok dX6_enter_87 3 rfl rfl (by decide) rfl ?_
                    refine r_goto h.ok 30 dX6_enter_90 (by decide) ?_
                    refine r_lv (lv' := [(3, .int (x3 + 1)), (2, .int 1), (1, .int x3), (0, .ref (ad 11 0))]) h.ok [0, 1, 2, 4] rfl ?_
                    exact ih30 (j + 1) _ _ _ (by omega) (by omega) (by rw [hx3]; exact nI_1 j) (by rw [gSt_hit (gFl_0 (h2.symm.trans c_47)) (show mShy I j from ⟨c_63, c_80⟩)]; rfl) (by rw [gSt_hit (gFl_0 (h2.symm.trans c_47)) (show mShy I j from ⟨c_63, c_80⟩)]; exact hx3)
        exact lp30 (nw + 1) 0 _ _ _ (Nat.zero_le _) (by omega) rfl rfl rfl
      · refine r_vret h dX6_enter_23 ⟨by decide, by decide⟩ ⟨rfl, rfl, (by unfold mEnter; rw [if_pos c_6, if_neg c_13, if_pos c_20])⟩
end
section
theorem vp_vis {I : gI} {nv : Nat} (hv : I 11 0 17 = nI nv) (v500 : nv ≤ 500) (h : ¬ I 11 0 17 = 500) : vp_in (I 11 0 17) 500 ∧ nv < 500 := by
  have q : nv < 500 := by
    rcases Nat.lt_or_ge nv 500 with q | q
    · exact q
    · exact absurd (show I 11 0 17 = 500 by rw [hv, show nv = 500 by omega]; decide) h
  rw [hv]
  exact ⟨vp_in_nI q (by decide), q⟩
set_option maxHeartbeats 4000000 in
set_option maxRecDepth 100000 in
theorem come_tail {D : va_G} {E : gEc} {ad : gAd} {F : gF} {lc ln : Nat} {l : Launch} {A : Nat → Prop} {Rn : gR} {post : Option Value → gAd → gCe → Prop} {J : gI} {v c a kd wv : Int32} {nc nv nw : Nat} (h : gOkM l (gRm 3 0 0) cX6_come 4 (some .int) yX6_come.cls yX6_come.name D A E 0 0 post Rn) (iv : vp_in v 500) (hk : J 12 18 v.toNatClampNeg = kd) (j29 : J 11 0 29 = wv) (iw : kd = 1 → vp_in wv 12) (hM2 : kd = 1 → MI (gs (gs J 12 30 wv.toNatClampNeg v) 11 0 29 (wv + 1)) nc nv nw) (p0 : ¬ kd = 1 → post (some (.int v)) ad (cX E ad J F lc ln)) (p1 : kd = 1 → post (some (.int v)) ad (cX E ad (mEnter (gs (gs J 12 30 wv.toNatClampNeg v) 11 0 29 (wv + 1)) F nw) F lc ln)) : Rn 192 [(3, .int v), (0, .ref (ad 11 0)), (1, .int c), (2, .int a)] [] ad (cX E ad J F lc ln) 0 0 := by
  refine r_aload_n h.ok dX6_come_192 1 rfl ?_
  refine r_get h.ok 18 dX6_come_193 (xo_11 _) rfl inX6 (by decide) wfl_X6_53 rfl ?_
  refine r_iload_n h.ok dX6_come_196 0 rfl ?_
  refine x_ialp (v := kd) h.ok dX6_come_197 rfl iv hk ?_
  refine r_iconst (v := 1) h.ok dX6_come_198 (by decide) ?_
  refine r_icmp_ne h.ok 226 dX6_come_199 (by decide) (fun c_199 => ?_) (fun c_199 => ?_)
  · refine r_iload_n h.ok dX6_come_226 0 rfl ?_
    refine r_iret h dX6_come_227 ⟨by decide, by decide⟩ (p0 c_199)
  · refine r_aload_n h.ok dX6_come_202 1 rfl ?_
    refine r_get h.ok 30 dX6_come_203 (xo_11 _) rfl inX6 (by decide) wfl_X6_87 rfl ?_
    refine r_aload_n h.ok dX6_come_206 1 rfl ?_
    refine r_get (v := .int wv) h.ok 29 dX6_come_207 (xo_11 _) rfl inX6 (by decide) wfl_X6_110 (congrArg (fun z => some (Value.int z)) (j29 : J 11 0 29 = wv)) ?_
    refine r_iload_n h.ok dX6_come_210 0 rfl ?_
    refine x_iasp h.ok dX6_come_211 (fun _ => rfl) (iw c_199) ?_
    refine r_aload_n h.ok dX6_come_212 1 rfl ?_
    refine r_dup h.ok dX6_come_213 rfl ?_
    refine r_get (v := .int wv) h.ok 29 dX6_come_214 (xo_11 _) rfl inX6 (by decide) wfl_X6_110 (congrArg (fun z => some (Value.int z)) ((by simp [gr]; exact j29) : (gs J 12 30 wv.toNatClampNeg v) 11 0 29 = wv)) ?_
    refine r_iconst (v := 1) h.ok dX6_come_217 (by decide) ?_
    refine r_iadd h.ok dX6_come_218 ?_
    refine r_put (ty := tyX6) h.ok 29 dX6_come_219 (xo_11 _) rfl inX6 tyX6_ok nmX6 (by decide) wfl_X6_110 rfl rfl rfl (by simp) (cX_put (r' := upd ((gs J 12 30 wv.toNatClampNeg v) 11 0) 29 (wv + 1)) (xo_11 _)) ?_
    refine r_aload_n h.ok dX6_come_222 1 rfl ?_
    refine r_callV h.ok [] [] dX6_come_223 (c_X6_enter D E ad (gs (gs J 12 30 wv.toNatClampNeg v) 11 0 29 (wv + 1)) F lc ln nc nv nw (hM2 c_199)) wml_X6_181 wim_X6_enter wse_X6_enter win_X6 wco_X6_enter yok_X6_enter (xo_11 _) rfl rfl ⟨by decide, by decide, by simp [gRm], by simp [gRm]⟩ (Nat.le_of_ble_eq_true rfl) rfl ?_
    show Rn 226 [(3, .int v), (0, .ref (ad 11 0)), (1, .int c), (2, .int a)] [] ad (cX E ad (mEnter (gs (gs J 12 30 wv.toNatClampNeg v) 11 0 29 (wv + 1)) F nw) F lc ln) 0 0
    refine r_iload_n h.ok dX6_come_226 0 rfl ?_
    refine r_iret h dX6_come_227 ⟨by decide, by decide⟩ (p1 c_199)
noncomputable def mCome1 (I : gI) (nv : Nat) (c a : Int32) : gI := gs (gs (gs (gs (gs (gs (gs (gs (gs (gs (gs (gs (gs I 12 22 ((I 11 0 17).toNatClampNeg) (pI (mAlarm I nv c a))) 12 19 ((I 11 0 17).toNatClampNeg) c) 12 20 ((I 11 0 17).toNatClampNeg) (I 11 0 1)) 12 21 ((I 11 0 17).toNatClampNeg) a) 12 18 ((I 11 0 17).toNatClampNeg) (if pI (mRight I c) = 0 then 0 else 1)) 12 23 ((I 11 0 17).toNatClampNeg) (-9)) 12 24 ((I 11 0 17).toNatClampNeg) (-9)) 12 25 ((I 11 0 17).toNatClampNeg) (-9)) 12 26 ((I 11 0 17).toNatClampNeg) (-9)) 12 27 ((I 11 0 17).toNatClampNeg) (-9)) 12 28 ((I 11 0 17).toNatClampNeg) (-9)) 11 0 17 ((I 11 0 17) + 1)) 12 16 c.toNatClampNeg ((I 12 16 c.toNatClampNeg) + 1)
noncomputable def mCome2 (I : gI) (nv : Nat) (c a : Int32) : gI := gs (gs (mCome1 I nv c a) 12 30 (I 11 0 29).toNatClampNeg (I 11 0 17)) 11 0 29 (I 11 0 29 + 1)
noncomputable def mCome_r (I : gI) (nv nw : Nat) (c a : Int32) : Int32 := if pI (mNo I c) = 0 then (if pI (mIn a 0 1000) = 0 then -2 else if mBox I = c then -3 else if mPlace I nw c = -9 then (if I 11 0 17 = 500 then -4 else I 11 0 17) else -3) else -1
noncomputable def mCome_I (I : gI) (F : gF) (nv nw : Nat) (c a : Int32) : gI := if pI (mNo I c) = 0 then (if pI (mIn a 0 1000) = 0 then I else if mBox I = c then I else if mPlace I nw c = -9 then (if I 11 0 17 = 500 then I else if (if pI (mRight I c) = 0 then (0 : Int32) else 1) = 1 then mEnter (mCome2 I nv c a) F (nw + 1) else mCome1 I nv c a) else I) else I
theorem MI_come {I : gI} {nc nv nw : Nat} {c a : Int32} (hM : MI I nc nv nw) (c10 : pI (mNo I c) = 0) (c58 : ¬ I 11 0 17 = 500) (iw : nw < 12) : MI (mCome2 I nv c a) nc (nv + 1) (nw + 1) := by
  obtain ⟨ht, hn, h12, hv, v500, hw, w12, hvc, hq, hb, hr⟩ := hM
  obtain ⟨hvi, hvl⟩ := vp_vis hv v500 c58
  have hcn := mNo_in hn h12 (pI_0.mp c10)
  have ev : (I 11 0 17).toNatClampNeg = nv := by rw [hv, nI_clamp (by omega)]
  have ew : (I 11 0 29).toNatClampNeg = nw := by rw [hw, nI_clamp (by omega)]
  unfold mCome2 mCome1
  refine ⟨?_, ?_, h12, ?_, by omega, ?_, by omega, ?_, ?_, ?_, ?_⟩
  · simp [gr, upd, ht]
  · simp [gr, upd, hn]
  · simp [gr, upd, hv, nI_1]
  · simp [gr, upd, hw, nI_1]
  · intro v hvv
    simp [gr, upd, ev]
    by_cases q : v = nv
    · simp [q, hcn]
    · simp [q]; exact hvc v (by omega)
  · intro j hj
    simp [gr, upd, ew]
    by_cases q : j = nw
    · simp [q, hv]; exact vp_in_nI (by omega) (by omega)
    · simp [q]; exact vp_mono (hq j (by omega)) (by omega)
  · simp [gr, upd]; exact hb.imp id (fun q => vp_mono q (by omega))
  · intro j hj; simp [gr]; exact hr j hj
end
section
set_option maxHeartbeats 4000000 in
set_option maxRecDepth 100000 in
theorem c_X6_come (D : va_G) (E : gEc) (ad : gAd) (I : gI) (F : gF) (lc ln : Nat) (c a : Int32) (nc nv nw : Nat) (hM : MI I nc nv nw) (iw0 : ¬ mBox I = c → mPlace I nw c = -9 → nw < 12) : gCon D E yX6_come cX6_come 4 (some .int) 3 0 0 [.ref (ad 11 0), .int c, .int a] ad (cX E ad I F lc ln) (gPd (some (.int (mCome_r I nv nw c a))) ad (cX E ad (mCome_I I F nv nw c a) F lc ln)) := by
  refine gCon.of (by decide) (Nat.le_of_ble_eq_true rfl) ?_
  intro l A Rn h
  have hM0 := hM
  obtain ⟨ht, hn, h12, hv, v500, hw, w12, hvc, hq, hb, hr⟩ := hM
  show Rn 0 [(0, .ref (ad 11 0)), (1, .int c), (2, .int a)] [] ad (cX E ad I F lc ln) 0 0
  refine r_aload_n h.ok dX6_come_0 0 rfl ?_
  refine r_iconst (v := 0) h.ok dX6_come_1 (by decide) ?_
  refine r_put (ty := tyX6) h.ok 0 dX6_come_2 (xo_11 _) rfl inX6 tyX6_ok nmX6 (by decide) wfl_X6_97 rfl rfl rfl (by simp) (cX_thr ht) ?_
  refine r_aload_n h.ok dX6_come_5 0 rfl ?_
  refine r_iload_n h.ok dX6_come_6 1 rfl ?_
  refine r_callV h.ok [.int c] [] dX6_come_7 (c_X6_noCow D E ad I F lc ln c) wml_X6_159 wim_X6_noCow wse_X6_noCow win_X6 wco_X6_noCow yok_X6_noCow (xo_11 _) rfl rfl ⟨by decide, by decide, by simp [gRm], by simp [gRm]⟩ (Nat.le_of_ble_eq_true rfl) rfl ?_
  show Rn 10 [(0, .ref (ad 11 0)), (1, .int c), (2, .int a)] [.int (pI (mNo I c))] ad (cX E ad I F lc ln) 0 0
  refine r_if_eq h.ok 15 dX6_come_10 (by decide) (fun c_10 => ?_) (fun c_10 => ?_)
  · refine r_iload_n h.ok dX6_come_15 2 rfl ?_
    refine r_i2l h.ok dX6_come_16 ?_
    refine r_lconst (v := Int32.toInt64 0) h.ok dX6_come_17 (by decide) ?_
    refine r_ldc2 (v' := Int32.toInt64 1000) h.ok dX6_come_18 wk_X6_187 (by decide) ?_
    refine r_callS h.ok [.long (Int32.toInt64 a), .long (Int32.toInt64 0), .long (Int32.toInt64 1000)] [] dX6_come_21 (c_X6_in D E ad I F lc ln a 0 1000) wml_X6_103 wst_X6_in win_X6 wco_X6_in yok_X6_in ⟨by decide, by decide, by simp [gRm], by simp [gRm]⟩ (Nat.le_of_ble_eq_true rfl) rfl ?_
    show Rn 24 [(0, .ref (ad 11 0)), (1, .int c), (2, .int a)] [.int (pI (mIn a 0 1000))] ad (cX E ad I F lc ln) 0 0
    refine r_if_ne h.ok 30 dX6_come_24 (by decide) (fun c_24 => ?_) (fun c_24 => ?_)
    · refine r_aload_n h.ok dX6_come_30 0 rfl ?_
      refine r_callV h.ok [] [] dX6_come_31 (c_X6_cowInBox D E ad I F lc ln (hb.imp id (fun q => vp_mono q v500))) wml_X6_189 wim_X6_cowInBox wse_X6_cowInBox win_X6 wco_X6_cowInBox yok_X6_cowInBox (xo_11 _) rfl rfl ⟨by decide, by decide, by simp [gRm], by simp [gRm]⟩ (Nat.le_of_ble_eq_true rfl) rfl ?_
      show Rn 34 [(0, .ref (ad 11 0)), (1, .int c), (2, .int a)] [.int (mBox I)] ad (cX E ad I F lc ln) 0 0
      refine r_iload_n h.ok dX6_come_34 1 rfl ?_
      refine r_icmp_eq h.ok 48 dX6_come_35 (by decide) (fun c_35 => ?_) (fun c_35 => ?_)
      · refine r_bipush (v := (-3)) h.ok dX6_come_48 (by decide) ?_
        refine r_iret h dX6_come_50 ⟨by decide, by decide⟩ ⟨(by unfold mCome_r; simp only [if_pos c_10, if_neg c_24, if_pos c_35]), rfl, (by unfold mCome_I; simp only [if_pos c_10, if_neg c_24, if_pos c_35])⟩
      · refine r_aload_n h.ok dX6_come_38 0 rfl ?_
        refine r_iload_n h.ok dX6_come_39 1 rfl ?_
        refine r_callV h.ok [.int c] [] dX6_come_40 (c_X6_placeOf D E ad I F lc ln c nv nw hw w12 v500 hq) wml_X6_172 wim_X6_placeOf wse_X6_placeOf win_X6 wco_X6_placeOf yok_X6_placeOf (xo_11 _) rfl rfl ⟨by decide, by decide, by simp [gRm], by simp [gRm]⟩ (Nat.le_of_ble_eq_true rfl) rfl ?_
        show Rn 43 [(0, .ref (ad 11 0)), (1, .int c), (2, .int a)] [.int (mPlace I nw c)] ad (cX E ad I F lc ln) 0 0
        refine r_bipush (v := (-9)) h.ok dX6_come_43 (by decide) ?_
        refine r_icmp_eq h.ok 51 dX6_come_45 (by decide) (fun c_45 => ?_) (fun c_45 => ?_)
        · refine r_aload_n h.ok dX6_come_51 0 rfl ?_
          refine r_get (v := .int (I 11 0 17)) h.ok 17 dX6_come_52 (xo_11 _) rfl inX6 (by decide) wfl_X6_184 rfl ?_
          refine r_sipush (v := 500) h.ok dX6_come_55 (by decide) ?_
          refine r_icmp_ne h.ok 64 dX6_come_58 (by decide) (fun c_58 => ?_) (fun c_58 => ?_)
          · refine r_aload_n h.ok dX6_come_64 0 rfl ?_
            refine r_get (v := .int (I 11 0 17)) h.ok 17 dX6_come_65 (xo_11 _) rfl inX6 (by decide) wfl_X6_184 rfl ?_
            refine r_istore_n (lv' := [(3, .int (I 11 0 17)), (0, .ref (ad 11 0)), (1, .int c), (2, .int a)]) h.ok dX6_come_68 (by decide) rfl ?_
            refine r_aload_n h.ok dX6_come_69 1 rfl ?_
            refine r_get h.ok 22 dX6_come_70 (xo_11 _) rfl inX6 (by decide) wfl_X6_65 rfl ?_
            refine r_iload_n h.ok dX6_come_73 0 rfl ?_
            refine r_aload_n h.ok dX6_come_74 1 rfl ?_
            refine r_iload_n h.ok dX6_come_75 2 rfl ?_
            refine r_iload_n h.ok dX6_come_76 3 rfl ?_
            refine r_callV h.ok [.int c, .int a] [.int (I 11 0 17), .ref (ad 12 22)] dX6_come_77 (c_X6_isAlarm D E ad I F lc ln c a nv hv v500) wml_X6_193 wim_X6_isAlarm wse_X6_isAlarm win_X6 wco_X6_isAlarm yok_X6_isAlarm (xo_11 _) rfl rfl ⟨by decide, by decide, by simp [gRm], by simp [gRm]⟩ (Nat.le_of_ble_eq_true rfl) rfl ?_
            show Rn 80 [(3, .int (I 11 0 17)), (0, .ref (ad 11 0)), (1, .int c), (2, .int a)] [.int (pI (mAlarm I nv c a)), .int (I 11 0 17), .ref (ad 12 22)] ad (cX E ad I F lc ln) 0 0
            refine x_zasp h.ok dX6_come_80 (fun _ => rfl) (vp_vis hv v500 c_58).1 (pI_01 _) ?_
            refine r_aload_n h.ok dX6_come_81 1 rfl ?_
            refine r_get h.ok 19 dX6_come_82 (xo_11 _) rfl inX6 (by decide) wfl_X6_56 rfl ?_
            refine r_iload_n h.ok dX6_come_85 0 rfl ?_
            refine r_iload_n h.ok dX6_come_86 2 rfl ?_
            refine x_iasp h.ok dX6_come_87 (fun _ => rfl) (vp_vis hv v500 c_58).1 ?_
            refine r_aload_n h.ok dX6_come_88 1 rfl ?_
            refine r_get h.ok 20 dX6_come_89 (xo_11 _) rfl inX6 (by decide) wfl_X6_59 rfl ?_
            refine r_iload_n h.ok dX6_come_92 0 rfl ?_
            refine r_aload_n h.ok dX6_come_93 1 rfl ?_
            refine r_get (v := .int (I 11 0 1)) h.ok 1 dX6_come_94 (xo_11 _) rfl inX6 (by decide) wfl_X6_107 rfl ?_
            refine x_iasp h.ok dX6_come_97 (fun _ => rfl) (vp_vis hv v500 c_58).1 ?_
            refine r_aload_n h.ok dX6_come_98 1 rfl ?_
            refine r_get h.ok 21 dX6_come_99 (xo_11 _) rfl inX6 (by decide) wfl_X6_62 rfl ?_
            refine r_iload_n h.ok dX6_come_102 0 rfl ?_
            refine r_iload_n h.ok dX6_come_103 3 rfl ?_
            refine x_iasp h.ok dX6_come_104 (fun _ => rfl) (vp_vis hv v500 c_58).1 ?_
            refine r_aload_n h.ok dX6_come_105 1 rfl ?_
            refine r_get h.ok 18 dX6_come_106 (xo_11 _) rfl inX6 (by decide) wfl_X6_53 rfl ?_
            refine r_iload_n h.ok dX6_come_109 0 rfl ?_
            refine r_aload_n h.ok dX6_come_110 1 rfl ?_
            refine r_iload_n h.ok dX6_come_111 2 rfl ?_
            refine r_callV h.ok [.int c] [.int (I 11 0 17), .ref (ad 12 18)] dX6_come_112 (c_X6_hasRight D E ad (gs (gs (gs (gs I 12 22 ((I 11 0 17).toNatClampNeg) (pI (mAlarm I nv c a))) 12 19 ((I 11 0 17).toNatClampNeg) c) 12 20 ((I 11 0 17).toNatClampNeg) (I 11 0 1)) 12 21 ((I 11 0 17).toNatClampNeg) a) F lc ln c (vp_mono (mNo_in hn h12 (pI_0.mp c_10)) h12)) wml_X6_169 wim_X6_hasRight wse_X6_hasRight win_X6 wco_X6_hasRight yok_X6_hasRight (xo_11 _) rfl rfl ⟨by decide, by decide, by simp [gRm], by simp [gRm]⟩ (Nat.le_of_ble_eq_true rfl) rfl ?_
            show Rn 115 [(3, .int (I 11 0 17)), (0, .ref (ad 11 0)), (1, .int c), (2, .int a)] [.int (pI (mRight (gs (gs (gs (gs I 12 22 ((I 11 0 17).toNatClampNeg) (pI (mAlarm I nv c a))) 12 19 ((I 11 0 17).toNatClampNeg) c) 12 20 ((I 11 0 17).toNatClampNeg) (I 11 0 1)) 12 21 ((I 11 0 17).toNatClampNeg) a) c)), .int (I 11 0 17), .ref (ad 12 18)] ad (cX E ad (gs (gs (gs (gs I 12 22 ((I 11 0 17).toNatClampNeg) (pI (mAlarm I nv c a))) 12 19 ((I 11 0 17).toNatClampNeg) c) 12 20 ((I 11 0 17).toNatClampNeg) (I 11 0 1)) 12 21 ((I 11 0 17).toNatClampNeg) a) F lc ln) 0 0
            rw [show pI (mRight (gs (gs (gs (gs I 12 22 ((I 11 0 17).toNatClampNeg) (pI (mAlarm I nv c a))) 12 19 ((I 11 0 17).toNatClampNeg) c) 12 20 ((I 11 0 17).toNatClampNeg) (I 11 0 1)) 12 21 ((I 11 0 17).toNatClampNeg) a) c) = pI (mRight I c) from by simp [mRight, gr, upd]]
            have K_115 : ∀ kd : Int32, kd = (if pI (mRight I c) = 0 then 0 else 1) → Rn 123 [(3, .int (I 11 0 17)), (0, .ref (ad 11 0)), (1, .int c), (2, .int a)] [.int kd, .int (I 11 0 17), .ref (ad 12 18)] ad (cX E ad (gs (gs (gs (gs I 12 22 ((I 11 0 17).toNatClampNeg) (pI (mAlarm I nv c a))) 12 19 ((I 11 0 17).toNatClampNeg) c) 12 20 ((I 11 0 17).toNatClampNeg) (I 11 0 1)) 12 21 ((I 11 0 17).toNatClampNeg) a) F lc ln) 0 0 := by
              intro kd e_kd
              refine x_iasp h.ok dX6_come_123 (fun _ => rfl) (vp_vis hv v500 c_58).1 ?_
              refine r_aload_n h.ok dX6_come_124 1 rfl ?_
              refine r_get h.ok 23 dX6_come_125 (xo_11 _) rfl inX6 (by decide) wfl_X6_69 rfl ?_
              refine r_iload_n h.ok dX6_come_128 0 rfl ?_
              refine r_bipush (v := (-9)) h.ok dX6_come_129 (by decide) ?_
              refine x_iasp h.ok dX6_come_131 (fun _ => rfl) (vp_vis hv v500 c_58).1 ?_
              refine r_aload_n h.ok dX6_come_132 1 rfl ?_
              refine r_get h.ok 24 dX6_come_133 (xo_11 _) rfl inX6 (by decide) wfl_X6_72 rfl ?_
              refine r_iload_n h.ok dX6_come_136 0 rfl ?_
              refine r_bipush (v := (-9)) h.ok dX6_come_137 (by decide) ?_
              refine x_iasp h.ok dX6_come_139 (fun _ => rfl) (vp_vis hv v500 c_58).1 ?_
              refine r_aload_n h.ok dX6_come_140 1 rfl ?_
              refine r_get h.ok 25 dX6_come_141 (xo_11 _) rfl inX6 (by decide) wfl_X6_75 rfl ?_
              refine r_iload_n h.ok dX6_come_144 0 rfl ?_
              refine r_bipush (v := (-9)) h.ok dX6_come_145 (by decide) ?_
              refine x_iasp h.ok dX6_come_147 (fun _ => rfl) (vp_vis hv v500 c_58).1 ?_
              refine r_aload_n h.ok dX6_come_148 1 rfl ?_
              refine r_get h.ok 26 dX6_come_149 (xo_11 _) rfl inX6 (by decide) wfl_X6_78 rfl ?_
              refine r_iload_n h.ok dX6_come_152 0 rfl ?_
              refine r_bipush (v := (-9)) h.ok dX6_come_153 (by decide) ?_
              refine x_iasp h.ok dX6_come_155 (fun _ => rfl) (vp_vis hv v500 c_58).1 ?_
              refine r_aload_n h.ok dX6_come_156 1 rfl ?_
              refine r_get h.ok 27 dX6_come_157 (xo_11 _) rfl inX6 (by decide) wfl_X6_81 rfl ?_
              refine r_iload_n h.ok dX6_come_160 0 rfl ?_
              refine r_bipush (v := (-9)) h.ok dX6_come_161 (by decide) ?_
              refine x_iasp h.ok dX6_come_163 (fun _ => rfl) (vp_vis hv v500 c_58).1 ?_
              refine r_aload_n h.ok dX6_come_164 1 rfl ?_
              refine r_get h.ok 28 dX6_come_165 (xo_11 _) rfl inX6 (by decide) wfl_X6_84 rfl ?_
              refine r_iload_n h.ok dX6_come_168 0 rfl ?_
              refine r_bipush (v := (-9)) h.ok dX6_come_169 (by decide) ?_
              refine x_iasp h.ok dX6_come_171 (fun _ => rfl) (vp_vis hv v500 c_58).1 ?_
              refine r_aload_n h.ok dX6_come_172 1 rfl ?_
              refine r_dup h.ok dX6_come_173 rfl ?_
              refine r_get (v := .int (I 11 0 17)) h.ok 17 dX6_come_174 (xo_11 _) rfl inX6 (by decide) wfl_X6_184 rfl ?_
              refine r_iconst (v := 1) h.ok dX6_come_177 (by decide) ?_
              refine r_iadd h.ok dX6_come_178 ?_
              refine r_put (ty := tyX6) h.ok 17 dX6_come_179 (xo_11 _) rfl inX6 tyX6_ok nmX6 (by decide) wfl_X6_184 rfl rfl rfl (by simp) (cX_put (r' := upd ((gs (gs (gs (gs (gs (gs (gs (gs (gs (gs (gs I 12 22 ((I 11 0 17).toNatClampNeg) (pI (mAlarm I nv c a))) 12 19 ((I 11 0 17).toNatClampNeg) c) 12 20 ((I 11 0 17).toNatClampNeg) (I 11 0 1)) 12 21 ((I 11 0 17).toNatClampNeg) a) 12 18 ((I 11 0 17).toNatClampNeg) kd) 12 23 ((I 11 0 17).toNatClampNeg) (-9)) 12 24 ((I 11 0 17).toNatClampNeg) (-9)) 12 25 ((I 11 0 17).toNatClampNeg) (-9)) 12 26 ((I 11 0 17).toNatClampNeg) (-9)) 12 27 ((I 11 0 17).toNatClampNeg) (-9)) 12 28 ((I 11 0 17).toNatClampNeg) (-9)) 11 0) 17 ((I 11 0 17) + 1)) (xo_11 _)) ?_
              refine r_aload_n h.ok dX6_come_182 1 rfl ?_
              refine r_get h.ok 16 dX6_come_183 (xo_11 _) rfl inX6 (by decide) wfl_X6_50 rfl ?_
              refine r_iload_n h.ok dX6_come_186 2 rfl ?_
              refine r_dup2 h.ok dX6_come_187 rfl rfl ?_
              refine x_ialp (v := I 12 16 c.toNatClampNeg) h.ok dX6_come_188 rfl (vp_mono (mNo_in hn h12 (pI_0.mp c_10)) h12) (by simp [gr]) ?_
              refine r_iconst (v := 1) h.ok dX6_come_189 (by decide) ?_
              refine r_iadd h.ok dX6_come_190 ?_
              refine x_iasp h.ok dX6_come_191 (fun _ => rfl) (vp_mono (mNo_in hn h12 (pI_0.mp c_10)) h12) ?_
              subst e_kd
              exact come_tail (nc := nc) (nv := nv + 1) (nw := nw + 1) (kd := if pI (mRight I c) = 0 then 0 else 1) (wv := I 11 0 29) h (vp_vis hv v500 c_58).1 (by simp [gr, upd]) (by simp [gr, upd]) (fun q => by rw [hw]; exact vp_in_nI (iw0 c_35 c_45) (by decide)) (fun q => MI_come hM0 c_10 c_58 (iw0 c_35 c_45)) (fun q => ⟨by unfold mCome_r; rw [if_pos c_10, if_neg c_24, if_neg c_35, if_pos c_45, if_neg c_58], rfl, by unfold mCome_I; rw [if_pos c_10, if_neg c_24, if_neg c_35, if_pos c_45, if_neg c_58, if_neg q]; rfl⟩) (fun q => ⟨by unfold mCome_r; rw [if_pos c_10, if_neg c_24, if_neg c_35, if_pos c_45, if_neg c_58], rfl, by unfold mCome_I; rw [if_pos c_10, if_neg c_24, if_neg c_35, if_pos c_45, if_neg c_58, if_pos q]; rfl⟩)
            refine r_if_eq h.ok 122 dX6_come_115 (by decide) (fun c_115 => ?_) (fun c_115 => ?_)
            · refine r_iconst (v := 0) h.ok dX6_come_122 (by decide) ?_
              exact K_115 _ (by simp [c_115])
            · refine r_iconst (v := 1) h.ok dX6_come_118 (by decide) ?_
              refine r_goto h.ok 123 dX6_come_119 (by decide) ?_
              exact K_115 _ (by simp [c_115])
          · refine r_bipush (v := (-4)) h.ok dX6_come_61 (by decide) ?_
            refine r_iret h dX6_come_63 ⟨by decide, by decide⟩ ⟨(by unfold mCome_r; simp only [if_pos c_10, if_neg c_24, if_neg c_35, if_pos c_45, if_pos c_58]), rfl, (by unfold mCome_I; simp only [if_pos c_10, if_neg c_24, if_neg c_35, if_pos c_45, if_pos c_58])⟩
        · refine r_bipush (v := (-3)) h.ok dX6_come_48 (by decide) ?_
          refine r_iret h dX6_come_50 ⟨by decide, by decide⟩ ⟨(by unfold mCome_r; simp only [if_pos c_10, if_neg c_24, if_neg c_35, if_neg c_45]), rfl, (by unfold mCome_I; simp only [if_pos c_10, if_neg c_24, if_neg c_35, if_neg c_45])⟩
    · refine r_bipush (v := (-2)) h.ok dX6_come_27 (by decide) ?_
      refine r_iret h dX6_come_29 ⟨by decide, by decide⟩ ⟨(by unfold mCome_r; simp only [if_pos c_10, if_pos c_24]), rfl, (by unfold mCome_I; simp only [if_pos c_10, if_pos c_24])⟩
  · refine r_iconst (v := (-1)) h.ok dX6_come_13 (by decide) ?_
    refine r_iret h dX6_come_14 ⟨by decide, by decide⟩ ⟨(by unfold mCome_r; simp only [if_neg c_10]), rfl, (by unfold mCome_I; simp only [if_neg c_10])⟩
end
section
theorem MI_gs {I : gI} {nc nv nw k : Nat} {x : Int32} (h : MI I nc nv nw) (hk : k ≠ 0 ∧ k ≠ 3 ∧ k ≠ 17 ∧ k ≠ 29 ∧ k ≠ 31) : MI (gs I 11 0 k x) nc nv nw := by
  obtain ⟨h1, h2, h3, h4, h5⟩ := hk
  obtain ⟨ht, hn, h12, hv, v500, hw, w12, hvc, hq, hb, hr⟩ := h
  refine ⟨?_, ?_, h12, ?_, v500, ?_, w12, ?_, ?_, ?_, ?_⟩
  · simp [gr, upd, Ne.symm h1, ht]
  · simp [gr, upd, Ne.symm h2, hn]
  · simp [gr, upd, Ne.symm h3, hv]
  · simp [gr, upd, Ne.symm h4, hw]
  · simpa [gr] using hvc
  · simpa [gr] using hq
  · simpa [gr, upd, Ne.symm h5] using hb
  · simpa [gr] using hr
theorem MI_g12 {I : gI} {nc nv nw s j : Nat} {x : Int32} (h : MI I nc nv nw) (hk : s ≠ 19 ∧ s ≠ 30 ∧ s ≠ 5) : MI (gs I 12 s j x) nc nv nw := by
  obtain ⟨h1, h2, h3⟩ := hk
  obtain ⟨ht, hn, h12, hv, v500, hw, w12, hvc, hq, hb, hr⟩ := h
  refine ⟨?_, ?_, h12, ?_, v500, ?_, w12, ?_, ?_, ?_, ?_⟩
  · simp [gr, ht]
  · simp [gr, hn]
  · simp [gr, hv]
  · simp [gr, hw]
  · simpa [gr, Ne.symm h1] using hvc
  · simpa [gr, Ne.symm h2] using hq
  · simpa [gr] using hb
  · simpa [gr, Ne.symm h3] using hr
def mMin (I : gI) : Int32 := I 11 0 1 - I 12 23 (I 11 0 31).toNatClampNeg - I 11 0 34
def mCutM (I : gI) : Int32 := if mMin I ≤ 0 then 0 else 20 * mMin I
def mCut (I : gI) : Int32 := if I 11 0 33 ≤ mCutM I then I 11 0 33 else mCutM I
noncomputable def mPower1 (I : gI) (F : gF) (b : Int32) : gI := if b = 0 then (if I 11 0 31 = -9 then gs I 11 0 2 b else mFinish_I (gs (gs I 11 0 2 b) 12 18 (I 11 0 31).toNatClampNeg 2) F (mCut I) (I 11 0 31) (I 12 19 (I 11 0 31).toNatClampNeg)) else gs I 11 0 2 b
noncomputable def mPower_I (I : gI) (F : gF) (nw : Nat) (b : Int32) : gI := mEnter (mPower1 I F b) F nw
def mPower_r (I : gI) : Int32 := if I 11 0 2 = 0 then 0 else 1
set_option maxHeartbeats 4000000 in
set_option maxRecDepth 100000 in
theorem power_tail {D : va_G} {E : gEc} {ad : gAd} {F : gF} {lc ln : Nat} {l : Launch} {A : Nat → Prop} {Rn : gR} {post : Option Value → gAd → gCe → Prop} {J : gI} {r : Int32} {nc nv nw : Nat} (h : gOkM l (gRm 3 0 0) cX6_power 5 (some .int) yX6_power.cls yX6_power.name D A E 0 0 post Rn) (hM : MI J nc nv nw) (hp : post (some (.int r)) ad (cX E ad (mEnter J F nw) F lc ln)) : Rn 102 [(2, .int r), (0, .ref (ad 11 0))] [] ad (cX E ad J F lc ln) 0 0 := by
  refine r_aload_n h.ok dX6_power_102 1 rfl ?_
  refine r_callV h.ok [] [] dX6_power_103 (c_X6_enter D E ad J F lc ln nc nv nw hM) wml_X6_181 wim_X6_enter wse_X6_enter win_X6 wco_X6_enter yok_X6_enter (xo_11 _) rfl rfl ⟨by decide, by decide, by simp [gRm], by simp [gRm]⟩ (Nat.le_of_ble_eq_true rfl) rfl ?_
  show Rn 106 [(2, .int r), (0, .ref (ad 11 0))] [] ad (cX E ad (mEnter J F nw) F lc ln) 0 0
  refine r_iload_n h.ok dX6_power_106 0 rfl ?_
  refine r_iret h dX6_power_107 ⟨by decide, by decide⟩ hp
set_option maxHeartbeats 4000000 in
set_option maxRecDepth 100000 in
theorem c_X6_power (D : va_G) (E : gEc) (ad : gAd) (I : gI) (F : gF) (lc ln : Nat) (b : Int32) (b01 : b = 0 ∨ b = 1) (nc nv nw : Nat) (hM : MI I nc nv nw) : gCon D E yX6_power cX6_power 5 (some .int) 3 0 0 [.ref (ad 11 0), .int b] ad (cX E ad I F lc ln) (gPd (some (.int (mPower_r I))) ad (cX E ad (mPower_I I F nw b) F lc ln)) := by
  refine gCon.of (by decide) (Nat.le_of_ble_eq_true rfl) ?_
  intro l A Rn h
  have hM0 := hM
  obtain ⟨ht, hn, h12, hv, v500, hw, w12, hvc, hq, hb, hr⟩ := hM
  show Rn 0 [(0, .ref (ad 11 0)), (1, .int b)] [] ad (cX E ad I F lc ln) 0 0
  refine r_aload_n h.ok dX6_power_0 0 rfl ?_
  refine r_iconst (v := 0) h.ok dX6_power_1 (by decide) ?_
  refine r_put (ty := tyX6) h.ok 0 dX6_power_2 (xo_11 _) rfl inX6 tyX6_ok nmX6 (by decide) wfl_X6_97 rfl rfl rfl (by simp) (cX_thr ht) ?_
  refine r_aload_n h.ok dX6_power_5 0 rfl ?_
  refine r_get (v := .int (I 11 0 2)) h.ok 2 dX6_power_6 (xo_11 _) rfl inX6 (by decide) wfl_X6_7 rfl ?_
  have K_9 : ∀ r : Int32, r = (mPower_r I) → Rn 17 [(0, .ref (ad 11 0)), (1, .int b)] [.int r] ad (cX E ad I F lc ln) 0 0 := by
    intro r e_r
    refine r_istore_n (lv' := [(2, .int r), (0, .ref (ad 11 0)), (1, .int b)]) h.ok dX6_power_17 (by decide) rfl ?_
    refine r_aload_n h.ok dX6_power_18 1 rfl ?_
    refine r_iload_n h.ok dX6_power_19 2 rfl ?_
    refine r_put (ty := tyX6) h.ok 2 dX6_power_20 (xo_11 _) rfl inX6 tyX6_ok nmX6 (by decide) wfl_X6_7 rfl (gNz b01) (gFz b01) (by simp) (cX_put (r' := upd (I 11 0) 2 b) (xo_11 _)) ?_
    refine r_iload_n h.ok dX6_power_23 2 rfl ?_
    refine r_if_ne h.ok 102 dX6_power_24 (by decide) (fun c_24 => ?_) (fun c_24 => ?_)
    · refine r_lv (lv' := [(2, .int r), (0, .ref (ad 11 0))]) h.ok [0, 1] rfl ?_
      exact power_tail h (MI_gs hM0 (by decide)) ⟨by rw [e_r], rfl, by unfold mPower_I mPower1; rw [if_neg c_24]⟩
    · refine r_aload_n h.ok dX6_power_27 1 rfl ?_
      refine r_get (v := .int (I 11 0 31)) h.ok 31 dX6_power_28 (xo_11 _) rfl inX6 (by decide) wfl_X6_90 (congrArg (fun z => some (Value.int z)) (by simp [gr, upd] : (gs I 11 0 2 b) 11 0 31 = I 11 0 31)) ?_
      refine r_bipush (v := (-9)) h.ok dX6_power_31 (by decide) ?_
      refine r_icmp_eq h.ok 102 dX6_power_33 (by decide) (fun c_33 => ?_) (fun c_33 => ?_)
      · refine r_lv (lv' := [(2, .int r), (0, .ref (ad 11 0))]) h.ok [0, 1] rfl ?_
        exact power_tail h (MI_gs hM0 (by decide)) ⟨by rw [e_r], rfl, by unfold mPower_I mPower1; rw [if_pos c_24, if_pos c_33]⟩
      · refine r_aload_n h.ok dX6_power_36 1 rfl ?_
        refine r_get (v := .int (I 11 0 1)) h.ok 1 dX6_power_37 (xo_11 _) rfl inX6 (by decide) wfl_X6_107 (congrArg (fun z => some (Value.int z)) (by simp [gr, upd] : (gs I 11 0 2 b) 11 0 1 = I 11 0 1)) ?_
        refine r_aload_n h.ok dX6_power_40 1 rfl ?_
        refine r_get h.ok 23 dX6_power_41 (xo_11 _) rfl inX6 (by decide) wfl_X6_69 rfl ?_
        refine r_aload_n h.ok dX6_power_44 1 rfl ?_
        refine r_get (v := .int (I 11 0 31)) h.ok 31 dX6_power_45 (xo_11 _) rfl inX6 (by decide) wfl_X6_90 (congrArg (fun z => some (Value.int z)) (by simp [gr, upd] : (gs I 11 0 2 b) 11 0 31 = I 11 0 31)) ?_
        refine x_ialp (v := I 12 23 ((I 11 0 31).toNatClampNeg)) h.ok dX6_power_48 rfl (vp_mono (hb.resolve_left c_33) v500) rfl ?_
        refine r_isub h.ok dX6_power_49 ?_
        refine r_aload_n h.ok dX6_power_50 1 rfl ?_
        refine r_get (v := .int (I 11 0 34)) h.ok 34 dX6_power_51 (xo_11 _) rfl inX6 (by decide) wfl_X6_127 (congrArg (fun z => some (Value.int z)) (by simp [gr, upd] : (gs I 11 0 2 b) 11 0 34 = I 11 0 34)) ?_
        refine r_isub h.ok dX6_power_54 ?_
        refine r_istore_n (lv' := [(3, .int (((I 11 0 1) - (I 12 23 ((I 11 0 31).toNatClampNeg))) - (I 11 0 34))), (2, .int r), (0, .ref (ad 11 0)), (1, .int b)]) h.ok dX6_power_55 (by decide) rfl ?_
        refine r_iload_n h.ok dX6_power_56 0 rfl ?_
        have K_57 : ∀ mc : Int32, mc = (mCutM I) → Rn 68 [(3, .int (((I 11 0 1) - (I 12 23 ((I 11 0 31).toNatClampNeg))) - (I 11 0 34))), (2, .int r), (0, .ref (ad 11 0)), (1, .int b)] [.int mc] ad (cX E ad (gs I 11 0 2 b) F lc ln) 0 0 := by
          intro mc e_mc
          refine r_istore (lv' := [(4, .int mc), (3, .int (((I 11 0 1) - (I 12 23 ((I 11 0 31).toNatClampNeg))) - (I 11 0 34))), (2, .int r), (0, .ref (ad 11 0)), (1, .int b)]) h.ok dX6_power_68 (by decide) rfl ?_
          refine r_aload_n h.ok dX6_power_70 3 rfl ?_
          refine r_get h.ok 18 dX6_power_71 (xo_11 _) rfl inX6 (by decide) wfl_X6_53 rfl ?_
          refine r_aload_n h.ok dX6_power_74 3 rfl ?_
          refine r_get (v := .int (I 11 0 31)) h.ok 31 dX6_power_75 (xo_11 _) rfl inX6 (by decide) wfl_X6_90 (congrArg (fun z => some (Value.int z)) (by simp [gr, upd] : (gs I 11 0 2 b) 11 0 31 = I 11 0 31)) ?_
          refine r_iconst (v := 2) h.ok dX6_power_78 (by decide) ?_
          refine x_iasp h.ok dX6_power_79 (fun _ => rfl) (vp_mono (hb.resolve_left c_33) v500) ?_
          refine r_aload_n h.ok dX6_power_80 3 rfl ?_
          refine r_iload h.ok dX6_power_81 0 rfl ?_
          refine r_aload_n h.ok dX6_power_83 3 rfl ?_
          refine r_get (v := .int (I 11 0 33)) h.ok 33 dX6_power_84 (xo_11 _) rfl inX6 (by decide) wfl_X6_124 (congrArg (fun z => some (Value.int z)) (by simp [gr, upd] : (gs (gs I 11 0 2 b) 12 18 ((I 11 0 31).toNatClampNeg) 2) 11 0 33 = I 11 0 33)) ?_
          have K_87 : ∀ ml : Int32, ml = (if I 11 0 33 ≤ mc then I 11 0 33 else mc) → Rn 99 [(4, .int mc), (3, .int (((I 11 0 1) - (I 12 23 ((I 11 0 31).toNatClampNeg))) - (I 11 0 34))), (2, .int r), (0, .ref (ad 11 0)), (1, .int b)] [.int ml, .ref (ad 11 0)] ad (cX E ad (gs (gs I 11 0 2 b) 12 18 ((I 11 0 31).toNatClampNeg) 2) F lc ln) 0 0 := by
            intro ml e_ml
            refine r_callV h.ok [.int ml] [] dX6_power_99 (c_X6_finish D E ad (gs (gs I 11 0 2 b) 12 18 ((I 11 0 31).toNatClampNeg) 2) F lc ln ml (I 11 0 31) (I 12 19 (I 11 0 31).toNatClampNeg) (by simp [gr, upd]) (by simp [gr]) (vp_mono (hb.resolve_left c_33) v500) (vp_mono (hvc _ (vp_lt (hb.resolve_left c_33))) h12)) wml_X6_178 wim_X6_finish wse_X6_finish win_X6 wco_X6_finish yok_X6_finish (xo_11 _) rfl rfl ⟨by decide, by decide, by simp [gRm], by simp [gRm]⟩ (Nat.le_of_ble_eq_true rfl) rfl ?_
            show Rn 102 [(4, .int mc), (3, .int (((I 11 0 1) - (I 12 23 ((I 11 0 31).toNatClampNeg))) - (I 11 0 34))), (2, .int r), (0, .ref (ad 11 0)), (1, .int b)] [] ad (cX E ad (mFinish_I (gs (gs I 11 0 2 b) 12 18 ((I 11 0 31).toNatClampNeg) 2) F ml (I 11 0 31) (I 12 19 (I 11 0 31).toNatClampNeg)) F lc ln) 0 0
            refine r_lv (lv' := [(2, .int r), (0, .ref (ad 11 0))]) h.ok [2, 3] rfl ?_
            exact power_tail h (MI_finish (MI_g12 (MI_gs hM0 (by decide)) (by decide))) ⟨by rw [e_r], rfl, by unfold mPower_I mPower1; rw [if_pos c_24, if_neg c_33]; subst e_ml; subst e_mc; rfl⟩
          refine r_icmp_ge h.ok 95 dX6_power_87 (by decide) (fun c_87 => ?_) (fun c_87 => ?_)
          · refine r_aload_n h.ok dX6_power_95 3 rfl ?_
            refine r_get (v := .int (I 11 0 33)) h.ok 33 dX6_power_96 (xo_11 _) rfl inX6 (by decide) wfl_X6_124 (congrArg (fun z => some (Value.int z)) (by simp [gr, upd] : (gs (gs I 11 0 2 b) 12 18 ((I 11 0 31).toNatClampNeg) 2) 11 0 33 = I 11 0 33)) ?_
            exact K_87 _ (by simp [c_87])
          · refine r_iload h.ok dX6_power_90 0 rfl ?_
            refine r_goto h.ok 99 dX6_power_92 (by decide) ?_
            exact K_87 _ (by simp [c_87])
        refine r_if_le h.ok 67 dX6_power_57 (by decide) (fun c_57 => ?_) (fun c_57 => ?_)
        · refine r_iconst (v := 0) h.ok dX6_power_67 (by decide) ?_
          exact K_57 _ (by unfold mCutM; rw [if_pos (show mMin I ≤ 0 from c_57)])
        · refine r_bipush (v := 20) h.ok dX6_power_60 (by decide) ?_
          refine r_iload_n h.ok dX6_power_62 0 rfl ?_
          refine r_imul h.ok dX6_power_63 ?_
          refine r_goto h.ok 68 dX6_power_64 (by decide) ?_
          exact K_57 _ (by unfold mCutM; rw [if_neg (show ¬ mMin I ≤ 0 from c_57)]; rfl)
  refine r_if_eq h.ok 16 dX6_power_9 (by decide) (fun c_9 => ?_) (fun c_9 => ?_)
  · refine r_iconst (v := 0) h.ok dX6_power_16 (by decide) ?_
    exact K_9 _ (by simp [mPower_r, c_9])
  · refine r_iconst (v := 1) h.ok dX6_power_12 (by decide) ?_
    refine r_goto h.ok 17 dX6_power_13 (by decide) ?_
    exact K_9 _ (by simp [mPower_r, c_9])
end
section
noncomputable def mPassF (I : gI) (F : gF) : gI := mFinish_I (gs I 11 0 1 (I 11 0 35)) F (I 11 0 33) (I 11 0 31) (I 12 19 (I 11 0 31).toNatClampNeg)
noncomputable def mPassL (F : gF) (to : Int32) : Nat → gI → Nat → gI
  | 0, I, _ => I
  | n + 1, I, nw => if I 11 0 31 = -9 then I else if to < I 11 0 35 then I else mPassL F to n (mEnter (mPassF I F) F nw) (nwE (mPassF I F) nw)
noncomputable def mPass_r (I : gI) (a : Int32) : Int32 := if pI (mIn a 1 20000) = 0 then -2 else if I 11 0 1 + a ≤ 100000 then I 11 0 1 + a else -4
noncomputable def mPass_I (I : gI) (F : gF) (nw : Nat) (a : Int32) : gI := if pI (mIn a 1 20000) = 0 then I else if I 11 0 1 + a ≤ 100000 then gs (mPassL F (I 11 0 1 + a) 13 I nw) 11 0 1 (I 11 0 1 + a) else I
theorem mPassL_out {F : gF} {to : Int32} {f nw : Nat} {J : gI} (h : J 11 0 31 = -9 ∨ to < J 11 0 35) : mPassL F to f J nw = J := by
  cases f with
  | zero => rfl
  | succ f =>
    show (if J 11 0 31 = -9 then J else if to < J 11 0 35 then J else _) = J
    by_cases q : J 11 0 31 = -9
    · rw [if_pos q]
    · rw [if_neg q, if_pos (h.resolve_left q)]
theorem mPassL_step {F : gF} {to : Int32} {f nw : Nat} {J : gI} (h1 : ¬ J 11 0 31 = -9) (h2 : ¬ to < J 11 0 35) (hf : 1 ≤ f) : mPassL F to f J nw = mPassL F to (f - 1) (mEnter (mPassF J F) F nw) (nwE (mPassF J F) nw) := by
  obtain ⟨f, rfl⟩ : ∃ q, f = q + 1 := ⟨f - 1, by omega⟩
  show (if J 11 0 31 = -9 then J else if to < J 11 0 35 then J else _) = _
  rw [if_neg h1, if_neg h2]
  rfl
theorem MI_passF {J : gI} {F : gF} {nc nv nw : Nat} (h : MI J nc nv nw) : MI (mPassF J F) nc nv nw := MI_finish (MI_gs h (by decide))
/-- a step ends one milking: behind it the box is free, or one less waits -/
theorem mPass_less {J : gI} {F : gF} {nc nv nw : Nat} (h : MI J nc nv nw) (hb : ¬ mEnter (mPassF J F) F nw 11 0 31 = -9) : nwE (mPassF J F) nw + 1 ≤ nw := by
  have e31 : (mPassF J F) 11 0 31 = -9 := by simp [mPassF, mFinish_I, gr, upd]
  have hM := MI_passF (F := F) h
  unfold mEnter at hb
  unfold nwE
  rw [if_pos e31] at hb ⊢
  by_cases c2 : (mPassF J F) 11 0 2 = 0
  · rw [if_pos c2] at hb; exact absurd e31 hb
  · rw [if_neg c2] at hb ⊢
    by_cases c3 : (mPassF J F) 11 0 29 = 0
    · rw [if_pos c3] at hb; exact absurd e31 hb
    · rw [if_neg c3]
      have hw := hM.2.2.2.2.2.1
      have : 0 < nw := Nat.pos_of_ne_zero (fun q => c3 (by rw [hw, q]; rfl))
      omega
set_option maxHeartbeats 4000000 in
set_option maxRecDepth 100000 in
theorem c_X6_pass (D : va_G) (E : gEc) (ad : gAd) (I : gI) (F : gF) (lc ln : Nat) (a : Int32) (nc nv nw : Nat) (hM : MI I nc nv nw) : gCon D E yX6_pass cX6_pass 3 (some .int) 3 0 0 [.ref (ad 11 0), .int a] ad (cX E ad I F lc ln) (gPd (some (.int (mPass_r I a))) ad (cX E ad (mPass_I I F nw a) F lc ln)) := by
  refine gCon.of (by decide) (Nat.le_of_ble_eq_true rfl) ?_
  intro l A Rn h
  have hM0 := hM
  obtain ⟨ht, hn, h12, hv, v500, hw, w12, hvc, hq, hb, hr⟩ := hM
  show Rn 0 [(0, .ref (ad 11 0)), (1, .int a)] [] ad (cX E ad I F lc ln) 0 0
  refine r_aload_n h.ok dX6_pass_0 0 rfl ?_
  refine r_iconst (v := 0) h.ok dX6_pass_1 (by decide) ?_
  refine r_put (ty := tyX6) h.ok 0 dX6_pass_2 (xo_11 _) rfl inX6 tyX6_ok nmX6 (by decide) wfl_X6_97 rfl rfl rfl (by simp) (cX_thr ht) ?_
  refine r_iload_n h.ok dX6_pass_5 1 rfl ?_
  refine r_i2l h.ok dX6_pass_6 ?_
  refine r_lconst (v := Int32.toInt64 1) h.ok dX6_pass_7 (by decide) ?_
  refine r_ldc2 (v' := Int32.toInt64 20000) h.ok dX6_pass_8 wk_X6_175 (by decide) ?_
  refine r_callS h.ok [.long (Int32.toInt64 a), .long (Int32.toInt64 1), .long (Int32.toInt64 20000)] [] dX6_pass_11 (c_X6_in D E ad I F lc ln a 1 20000) wml_X6_103 wst_X6_in win_X6 wco_X6_in yok_X6_in ⟨by decide, by decide, by simp [gRm], by simp [gRm]⟩ (Nat.le_of_ble_eq_true rfl) rfl ?_
  show Rn 14 [(0, .ref (ad 11 0)), (1, .int a)] [.int (pI (mIn a 1 20000))] ad (cX E ad I F lc ln) 0 0
  refine r_if_ne h.ok 20 dX6_pass_14 (by decide) (fun c_14 => ?_) (fun c_14 => ?_)
  · refine r_aload_n h.ok dX6_pass_20 0 rfl ?_
    refine r_get (v := .int (I 11 0 1)) h.ok 1 dX6_pass_21 (xo_11 _) rfl inX6 (by decide) wfl_X6_107 rfl ?_
    refine r_iload_n h.ok dX6_pass_24 1 rfl ?_
    refine r_iadd h.ok dX6_pass_25 ?_
    refine r_ldc h.ok dX6_pass_26 wk_X6_177 ?_
    refine r_icmp_le h.ok 34 dX6_pass_28 (by decide) (fun c_28 => ?_) (fun c_28 => ?_)
    · refine r_aload_n h.ok dX6_pass_34 0 rfl ?_
      refine r_get (v := .int (I 11 0 1)) h.ok 1 dX6_pass_35 (xo_11 _) rfl inX6 (by decide) wfl_X6_107 rfl ?_
      refine r_iload_n h.ok dX6_pass_38 1 rfl ?_
      refine r_iadd h.ok dX6_pass_39 ?_
      refine r_istore_n (lv' := [(2, .int ((I 11 0 1) + a)), (0, .ref (ad 11 0)), (1, .int a)]) h.ok dX6_pass_40 (by decide) rfl ?_
      have lp41 : ∀ (n : Nat) (J : gI) (w f : Nat), (f + 1 ≤ n) → (MI J nc nv w) → (¬ J 11 0 31 = -9 → w + 1 ≤ f) → (mPassL F (I 11 0 1 + a) 13 I nw = mPassL F (I 11 0 1 + a) f J w) → Rn 41 [(2, .int ((I 11 0 1) + a)), (0, .ref (ad 11 0))] [] ad (cX E ad J F lc ln) 0 0 := by
        intro n
        induction n with
        | zero => intro J  w f  hf hMJ hfu hs; exfalso; omega
        | succ n ih41 =>
          intro J  w f  hf hMJ hfu hs
          refine r_aload_n h.ok dX6_pass_41 1 rfl ?_
          refine r_get (v := .int (J 11 0 31)) h.ok 31 dX6_pass_42 (xo_11 _) rfl inX6 (by decide) wfl_X6_90 rfl ?_
          refine r_bipush (v := (-9)) h.ok dX6_pass_45 (by decide) ?_
          refine r_icmp_eq h.ok 81 dX6_pass_47 (by decide) (fun c_47 => ?_) (fun c_47 => ?_)
          · refine r_aload_n h.ok dX6_pass_81 1 rfl ?_
            refine r_iload_n h.ok dX6_pass_82 0 rfl ?_
            refine r_put (ty := tyX6) h.ok 1 dX6_pass_83 (xo_11 _) rfl inX6 tyX6_ok nmX6 (by decide) wfl_X6_107 rfl rfl rfl (by simp) (cX_put (r' := upd (J 11 0) 1 ((I 11 0 1) + a)) (xo_11 _)) ?_
            refine r_aload_n h.ok dX6_pass_86 1 rfl ?_
            refine r_get (v := .int ((I 11 0 1) + a)) h.ok 1 dX6_pass_87 (xo_11 _) rfl inX6 (by decide) wfl_X6_107 (congrArg (fun z => some (Value.int z)) (by simp [gr, upd] : (gs J 11 0 1 ((I 11 0 1) + a)) 11 0 1 = (I 11 0 1) + a)) ?_
            refine r_iret h dX6_pass_90 ⟨by decide, by decide⟩ ⟨(by unfold mPass_r; rw [if_neg c_14, if_pos c_28]), rfl, (by unfold mPass_I; rw [if_neg c_14, if_pos c_28, hs, mPassL_out (Or.inl c_47)])⟩
          · refine r_aload_n h.ok dX6_pass_50 1 rfl ?_
            refine r_get (v := .int (J 11 0 35)) h.ok 35 dX6_pass_51 (xo_11 _) rfl inX6 (by decide) wfl_X6_130 rfl ?_
            refine r_iload_n h.ok dX6_pass_54 0 rfl ?_
            refine r_icmp_gt h.ok 81 dX6_pass_55 (by decide) (fun c_55 => ?_) (fun c_55 => ?_)
            · refine r_aload_n h.ok dX6_pass_81 1 rfl ?_
              refine r_iload_n h.ok dX6_pass_82 0 rfl ?_
              refine r_put (ty := tyX6) h.ok 1 dX6_pass_83 (xo_11 _) rfl inX6 tyX6_ok nmX6 (by decide) wfl_X6_107 rfl rfl rfl (by simp) (cX_put (r' := upd (J 11 0) 1 ((I 11 0 1) + a)) (xo_11 _)) ?_
              refine r_aload_n h.ok dX6_pass_86 1 rfl ?_
              refine r_get (v := .int ((I 11 0 1) + a)) h.ok 1 dX6_pass_87 (xo_11 _) rfl inX6 (by decide) wfl_X6_107 (congrArg (fun z => some (Value.int z)) (by simp [gr, upd] : (gs J 11 0 1 ((I 11 0 1) + a)) 11 0 1 = (I 11 0 1) + a)) ?_
              refine r_iret h dX6_pass_90 ⟨by decide, by decide⟩ ⟨(by unfold mPass_r; rw [if_neg c_14, if_pos c_28]), rfl, (by unfold mPass_I; rw [if_neg c_14, if_pos c_28, hs, mPassL_out (Or.inr c_55)])⟩
            · refine r_aload_n h.ok dX6_pass_58 1 rfl ?_
              refine r_aload_n h.ok dX6_pass_59 1 rfl ?_
              refine r_get (v := .int (J 11 0 35)) h.ok 35 dX6_pass_60 (xo_11 _) rfl inX6 (by decide) wfl_X6_130 rfl ?_
              refine r_put (ty := tyX6) h.ok 1 dX6_pass_63 (xo_11 _) rfl inX6 tyX6_ok nmX6 (by decide) wfl_X6_107 rfl rfl rfl (by simp) (cX_put (r' := upd (J 11 0) 1 (J 11 0 35)) (xo_11 _)) ?_
              refine r_aload_n h.ok dX6_pass_66 1 rfl ?_
              refine r_aload_n h.ok dX6_pass_67 1 rfl ?_
              refine r_get (v := .int (J 11 0 33)) h.ok 33 dX6_pass_68 (xo_11 _) rfl inX6 (by decide) wfl_X6_124 (congrArg (fun z => some (Value.int z)) (by simp [gr, upd] : (gs J 11 0 1 (J 11 0 35)) 11 0 33 = J 11 0 33)) ?_
              refine r_callV h.ok [.int (J 11 0 33)] [] dX6_pass_71 (c_X6_finish D E ad (gs J 11 0 1 (J 11 0 35)) F lc ln (J 11 0 33) (J 11 0 31) (J 12 19 (J 11 0 31).toNatClampNeg) (by simp [gr, upd]) (by simp [gr]) (vp_mono (hMJ.2.2.2.2.2.2.2.2.2.1.resolve_left c_47) v500) (vp_mono (hMJ.2.2.2.2.2.2.2.1 _ (vp_lt (hMJ.2.2.2.2.2.2.2.2.2.1.resolve_left c_47))) h12)) wml_X6_178 wim_X6_finish wse_X6_finish win_X6 wco_X6_finish yok_X6_finish (xo_11 _) rfl rfl ⟨by decide, by decide, by simp [gRm], by simp [gRm]⟩ (Nat.le_of_ble_eq_true rfl) rfl ?_
              show Rn 74 [(2, .int ((I 11 0 1) + a)), (0, .ref (ad 11 0))] [] ad (cX E ad (mFinish_I (gs J 11 0 1 (J 11 0 35)) F (J 11 0 33) (J 11 0 31) (J 12 19 (J 11 0 31).toNatClampNeg)) F lc ln) 0 0
              show Rn 74 [(2, .int ((I 11 0 1) + a)), (0, .ref (ad 11 0))] [] ad (cX E ad (mPassF J F) F lc ln) 0 0
              refine r_aload_n h.ok dX6_pass_74 1 rfl ?_
              refine r_callV h.ok [] [] dX6_pass_75 (c_X6_enter D E ad (mPassF J F) F lc ln nc nv w (MI_passF hMJ)) wml_X6_181 wim_X6_enter wse_X6_enter win_X6 wco_X6_enter yok_X6_enter (xo_11 _) rfl rfl ⟨by decide, by decide, by simp [gRm], by simp [gRm]⟩ (Nat.le_of_ble_eq_true rfl) rfl ?_
              show Rn 78 [(2, .int ((I 11 0 1) + a)), (0, .ref (ad 11 0))] [] ad (cX E ad (mEnter (mPassF J F) F w) F lc ln) 0 0
              refine r_goto h.ok 41 dX6_pass_78 (by decide) ?_
              exact ih41 _ (nwE (mPassF J F) w) (f - 1) (by have := hfu c_47; omega) (MI_enter (MI_passF hMJ)) (fun q => by have := mPass_less hMJ q; have := hfu c_47; omega) (by rw [hs]; exact mPassL_step c_47 c_55 (by have := hfu c_47; omega))
      refine r_lv (lv' := [(2, .int ((I 11 0 1) + a)), (0, .ref (ad 11 0))]) h.ok [0, 1] rfl ?_
      exact lp41 14 I nw 13 (by decide) hM0 (fun _ => by omega) rfl
    · refine r_bipush (v := (-4)) h.ok dX6_pass_31 (by decide) ?_
      refine r_iret h dX6_pass_33 ⟨by decide, by decide⟩ ⟨(by unfold mPass_r; rw [if_neg c_14, if_neg c_28]), rfl, (by unfold mPass_I; rw [if_neg c_14, if_neg c_28])⟩
  · refine r_bipush (v := (-2)) h.ok dX6_pass_17 (by decide) ?_
    refine r_iret h dX6_pass_19 ⟨by decide, by decide⟩ ⟨(by unfold mPass_r; rw [if_pos c_14]), rfl, (by unfold mPass_I; rw [if_pos c_14])⟩
end
section
noncomputable def bv (F : gF) : Nat := (F 1 0).getD 0
noncomputable def qv (F : gF) (j : Nat) : Nat := (F 0 j).getD 0
noncomputable def bMilkAt_r (I : gI) (F : gF) (i : Nat) (m : Int32) : Int32 := if ((I 4 i 9) + (((I 4 i 1) * (m - (I 4 i 8))) / 60)) < 400 then (I 4 i 9) + (((I 4 i 1) * (m - (I 4 i 8))) / 60) else 400
set_option maxHeartbeats 4000000 in
set_option maxRecDepth 100000 in
theorem c_X1_milkAt (D : va_G) (E : gEc) (ad : gAd) (I : gI) (F : gF) (lc ln : Nat) (i : Nat) (hi : i < lc) (m : Int32) : gCon D E yX1_milkAt cX1_milkAt 2 (some .int) 1 0 0 [.ref (ad 4 i), .int m] ad (cX E ad I F lc ln) (gPd (some (.int (bMilkAt_r I F i m))) ad (cX E ad I F lc ln)) := by
  refine gCon.of (by decide) (Nat.le_of_ble_eq_true rfl) ?_
  intro l A Rn h
  show Rn 0 [(0, .ref (ad 4 i)), (1, .int m)] [] ad (cX E ad I F lc ln) 0 0
  refine r_sipush (v := 400) h.ok dX1_milkAt_0 (by decide) ?_
  refine r_aload_n h.ok dX1_milkAt_3 0 rfl ?_
  refine r_get (v := .int (I 4 i 9)) h.ok 9 dX1_milkAt_4 (xo_4 hi _) rfl inX1 (by decide) wfl_X1_37 rfl ?_
  refine r_aload_n h.ok dX1_milkAt_7 0 rfl ?_
  refine r_get (v := .int (I 4 i 1)) h.ok 1 dX1_milkAt_8 (xo_4 hi _) rfl inX1 (by decide) wfl_X1_25 rfl ?_
  refine r_iload_n h.ok dX1_milkAt_11 1 rfl ?_
  refine r_aload_n h.ok dX1_milkAt_12 0 rfl ?_
  refine r_get (v := .int (I 4 i 8)) h.ok 8 dX1_milkAt_13 (xo_4 hi _) rfl inX1 (by decide) wfl_X1_34 rfl ?_
  refine r_isub h.ok dX1_milkAt_16 ?_
  refine r_imul h.ok dX1_milkAt_17 ?_
  refine r_bipush (v := 60) h.ok dX1_milkAt_18 (by decide) ?_
  refine r_idiv h.ok dX1_milkAt_20 (by decide) ?_
  refine r_iadd h.ok dX1_milkAt_21 ?_
  refine r_mmin h.ok dX1_milkAt_22 wml_X1_40 ⟨by decide, Nat.le_of_ble_eq_true rfl, by decide, by decide⟩ ?_
  refine r_iret h dX1_milkAt_25 ⟨by decide, by decide⟩ ⟨(by unfold bMilkAt_r; rfl), rfl, rfl⟩
noncomputable def bMinutesTo_r (I : gI) (F : gF) (i : Nat) (a m : Int32) : Int32 := (if (I 4 i 1) < 1 then 0 else (if (bMilkAt_r I F i m) < a then (((((a - (I 4 i 9)) * 60) + (I 4 i 1)) - 1) / (I 4 i 1)) - (m - (I 4 i 8)) else 0))
set_option maxHeartbeats 4000000 in
set_option maxRecDepth 100000 in
theorem c_X1_minutesTo (D : va_G) (E : gEc) (ad : gAd) (I : gI) (F : gF) (lc ln : Nat) (i : Nat) (hi : i < lc) (a m : Int32) : gCon D E yX1_minutesTo cX1_minutesTo 4 (some .int) 2 0 0 [.ref (ad 4 i), .int a, .int m] ad (cX E ad I F lc ln) (gPd (some (.int (bMinutesTo_r I F i a m))) ad (cX E ad I F lc ln)) := by
  refine gCon.of (by decide) (Nat.le_of_ble_eq_true rfl) ?_
  intro l A Rn h
  show Rn 0 [(0, .ref (ad 4 i)), (1, .int a), (2, .int m)] [] ad (cX E ad I F lc ln) 0 0
  refine r_aload_n h.ok dX1_minutesTo_0 0 rfl ?_
  refine r_get (v := .int (I 4 i 1)) h.ok 1 dX1_minutesTo_1 (xo_4 hi _) rfl inX1 (by decide) wfl_X1_25 rfl ?_
  refine r_iconst (v := 1) h.ok dX1_minutesTo_4 (by decide) ?_
  refine r_icmp_lt h.ok 17 dX1_minutesTo_5 (by decide) (fun c_5 => ?_) (fun c_5 => ?_)
  · refine r_iconst (v := 0) h.ok dX1_minutesTo_17 (by decide) ?_
    refine r_iret h dX1_minutesTo_18 ⟨by decide, by decide⟩ ⟨(by unfold bMinutesTo_r; simp only [if_pos c_5]), rfl, rfl⟩
  · refine r_iload_n h.ok dX1_minutesTo_8 1 rfl ?_
    refine r_aload_n h.ok dX1_minutesTo_9 0 rfl ?_
    refine r_iload_n h.ok dX1_minutesTo_10 2 rfl ?_
    refine r_callV h.ok [.int m] [.int a] dX1_minutesTo_11 (c_X1_milkAt D E ad I F lc ln i hi m) wml_X1_46 wim_X1_milkAt wse_X1_milkAt win_X1 wco_X1_milkAt yok_X1_milkAt (xo_4 hi _) rfl rfl ⟨by decide, by decide, by simp [gRm], by simp [gRm]⟩ (Nat.le_of_ble_eq_true rfl) rfl ?_
    show Rn 14 [(0, .ref (ad 4 i)), (1, .int a), (2, .int m)] [.int (bMilkAt_r I F i m), .int a] ad (cX E ad I F lc ln) 0 0
    refine r_icmp_gt h.ok 19 dX1_minutesTo_14 (by decide) (fun c_14 => ?_) (fun c_14 => ?_)
    · refine r_iload_n h.ok dX1_minutesTo_19 1 rfl ?_
      refine r_aload_n h.ok dX1_minutesTo_20 0 rfl ?_
      refine r_get (v := .int (I 4 i 9)) h.ok 9 dX1_minutesTo_21 (xo_4 hi _) rfl inX1 (by decide) wfl_X1_37 rfl ?_
      refine r_isub h.ok dX1_minutesTo_24 ?_
      refine r_bipush (v := 60) h.ok dX1_minutesTo_25 (by decide) ?_
      refine r_imul h.ok dX1_minutesTo_27 ?_
      refine r_aload_n h.ok dX1_minutesTo_28 0 rfl ?_
      refine r_get (v := .int (I 4 i 1)) h.ok 1 dX1_minutesTo_29 (xo_4 hi _) rfl inX1 (by decide) wfl_X1_25 rfl ?_
      refine r_iadd h.ok dX1_minutesTo_32 ?_
      refine r_iconst (v := 1) h.ok dX1_minutesTo_33 (by decide) ?_
      refine r_isub h.ok dX1_minutesTo_34 ?_
      refine r_aload_n h.ok dX1_minutesTo_35 0 rfl ?_
      refine r_get (v := .int (I 4 i 1)) h.ok 1 dX1_minutesTo_36 (xo_4 hi _) rfl inX1 (by decide) wfl_X1_25 rfl ?_
      refine r_idiv h.ok dX1_minutesTo_39 (fun q => c_5 (by rw [q]; decide)) ?_
      refine r_istore_n (lv' := [(3, .int (((((a - (I 4 i 9)) * 60) + (I 4 i 1)) - 1) / (I 4 i 1))), (0, .ref (ad 4 i)), (1, .int a), (2, .int m)]) h.ok dX1_minutesTo_40 (by decide) rfl ?_
      refine r_iload_n h.ok dX1_minutesTo_41 0 rfl ?_
      refine r_iload_n h.ok dX1_minutesTo_42 3 rfl ?_
      refine r_aload_n h.ok dX1_minutesTo_43 1 rfl ?_
      refine r_get (v := .int (I 4 i 8)) h.ok 8 dX1_minutesTo_44 (xo_4 hi _) rfl inX1 (by decide) wfl_X1_34 rfl ?_
      refine r_isub h.ok dX1_minutesTo_47 ?_
      refine r_isub h.ok dX1_minutesTo_48 ?_
      refine r_iret h dX1_minutesTo_49 ⟨by decide, by decide⟩ ⟨(by unfold bMinutesTo_r; simp only [if_neg c_5, if_pos c_14]), rfl, rfl⟩
    · refine r_iconst (v := 0) h.ok dX1_minutesTo_17 (by decide) ?_
      refine r_iret h dX1_minutesTo_18 ⟨by decide, by decide⟩ ⟨(by unfold bMinutesTo_r; simp only [if_neg c_5, if_neg c_14]), rfl, rfl⟩
noncomputable def bRight_r (I : gI) (F : gF) (i : Nat) (m : Int32) : Int32 := (if (I 4 i 10) = (-9) then 1 else (if (m - (I 4 i 10)) < (I 4 i 2) then 0 else 1))
set_option maxHeartbeats 4000000 in
set_option maxRecDepth 100000 in
theorem c_X1_hasRightAt (D : va_G) (E : gEc) (ad : gAd) (I : gI) (F : gF) (lc ln : Nat) (i : Nat) (hi : i < lc) (m : Int32) : gCon D E yX1_hasRightAt cX1_hasRightAt 2 (some .boolean) 0 0 0 [.ref (ad 4 i), .int m] ad (cX E ad I F lc ln) (gPd (some (.int (bRight_r I F i m))) ad (cX E ad I F lc ln)) := by
  refine gCon.of (by decide) (Nat.le_of_ble_eq_true rfl) ?_
  intro l A Rn h
  show Rn 0 [(0, .ref (ad 4 i)), (1, .int m)] [] ad (cX E ad I F lc ln) 0 0
  refine r_aload_n h.ok dX1_hasRightAt_0 0 rfl ?_
  refine r_get (v := .int (I 4 i 10)) h.ok 10 dX1_hasRightAt_1 (xo_4 hi _) rfl inX1 (by decide) wfl_X1_18 rfl ?_
  refine r_bipush (v := (-9)) h.ok dX1_hasRightAt_4 (by decide) ?_
  refine r_icmp_eq h.ok 22 dX1_hasRightAt_6 (by decide) (fun c_6 => ?_) (fun c_6 => ?_)
  · refine r_iconst (v := 1) h.ok dX1_hasRightAt_22 (by decide) ?_
    refine r_goto h.ok 27 dX1_hasRightAt_23 (by decide) ?_
    refine r_zret h dX1_hasRightAt_27 ⟨by decide, by decide⟩ (by simp) ⟨(by unfold bRight_r; simp only [if_pos c_6]), rfl, rfl⟩
  · refine r_iload_n h.ok dX1_hasRightAt_9 1 rfl ?_
    refine r_aload_n h.ok dX1_hasRightAt_10 0 rfl ?_
    refine r_get (v := .int (I 4 i 10)) h.ok 10 dX1_hasRightAt_11 (xo_4 hi _) rfl inX1 (by decide) wfl_X1_18 rfl ?_
    refine r_isub h.ok dX1_hasRightAt_14 ?_
    refine r_aload_n h.ok dX1_hasRightAt_15 0 rfl ?_
    refine r_get (v := .int (I 4 i 2)) h.ok 2 dX1_hasRightAt_16 (xo_4 hi _) rfl inX1 (by decide) wfl_X1_28 rfl ?_
    refine r_icmp_lt h.ok 26 dX1_hasRightAt_19 (by decide) (fun c_19 => ?_) (fun c_19 => ?_)
    · refine r_iconst (v := 0) h.ok dX1_hasRightAt_26 (by decide) ?_
      refine r_zret h dX1_hasRightAt_27 ⟨by decide, by decide⟩ (by simp) ⟨(by unfold bRight_r; simp only [if_neg c_6, if_pos c_19]), rfl, rfl⟩
    · refine r_iconst (v := 1) h.ok dX1_hasRightAt_22 (by decide) ?_
      refine r_goto h.ok 27 dX1_hasRightAt_23 (by decide) ?_
      refine r_zret h dX1_hasRightAt_27 ⟨by decide, by decide⟩ (by simp) ⟨(by unfold bRight_r; simp only [if_neg c_6, if_neg c_19]), rfl, rfl⟩
noncomputable def bHeld_r (I : gI) (F : gF) (i : Nat) (m : Int32) : Int32 := (if (I 4 i 0) = 2 then 1 else (if (I 4 i 7) ≤ m then 0 else 1))
set_option maxHeartbeats 4000000 in
set_option maxRecDepth 100000 in
theorem c_X1_isWithheldAt (D : va_G) (E : gEc) (ad : gAd) (I : gI) (F : gF) (lc ln : Nat) (i : Nat) (hi : i < lc) (m : Int32) : gCon D E yX1_isWithheldAt cX1_isWithheldAt 2 (some .boolean) 0 0 0 [.ref (ad 4 i), .int m] ad (cX E ad I F lc ln) (gPd (some (.int (bHeld_r I F i m))) ad (cX E ad I F lc ln)) := by
  refine gCon.of (by decide) (Nat.le_of_ble_eq_true rfl) ?_
  intro l A Rn h
  show Rn 0 [(0, .ref (ad 4 i)), (1, .int m)] [] ad (cX E ad I F lc ln) 0 0
  refine r_aload_n h.ok dX1_isWithheldAt_0 0 rfl ?_
  refine r_get (v := .int (I 4 i 0)) h.ok 0 dX1_isWithheldAt_1 (xo_4 hi _) rfl inX1 (by decide) wfl_X1_22 rfl ?_
  refine r_iconst (v := 2) h.ok dX1_isWithheldAt_4 (by decide) ?_
  refine r_icmp_eq h.ok 16 dX1_isWithheldAt_5 (by decide) (fun c_5 => ?_) (fun c_5 => ?_)
  · refine r_iconst (v := 1) h.ok dX1_isWithheldAt_16 (by decide) ?_
    refine r_goto h.ok 21 dX1_isWithheldAt_17 (by decide) ?_
    refine r_zret h dX1_isWithheldAt_21 ⟨by decide, by decide⟩ (by simp) ⟨(by unfold bHeld_r; simp only [if_pos c_5]), rfl, rfl⟩
  · refine r_aload_n h.ok dX1_isWithheldAt_8 0 rfl ?_
    refine r_get (v := .int (I 4 i 7)) h.ok 7 dX1_isWithheldAt_9 (xo_4 hi _) rfl inX1 (by decide) wfl_X1_50 rfl ?_
    refine r_iload_n h.ok dX1_isWithheldAt_12 1 rfl ?_
    refine r_icmp_le h.ok 20 dX1_isWithheldAt_13 (by decide) (fun c_13 => ?_) (fun c_13 => ?_)
    · refine r_iconst (v := 0) h.ok dX1_isWithheldAt_20 (by decide) ?_
      refine r_zret h dX1_isWithheldAt_21 ⟨by decide, by decide⟩ (by simp) ⟨(by unfold bHeld_r; simp only [if_neg c_5, if_pos c_13]), rfl, rfl⟩
    · refine r_iconst (v := 1) h.ok dX1_isWithheldAt_16 (by decide) ?_
      refine r_goto h.ok 21 dX1_isWithheldAt_17 (by decide) ?_
      refine r_zret h dX1_isWithheldAt_21 ⟨by decide, by decide⟩ (by simp) ⟨(by unfold bHeld_r; simp only [if_neg c_5, if_neg c_13]), rfl, rfl⟩
noncomputable def bFedOn_r (I : gI) (F : gF) (i : Nat) (m : Int32) : Int32 := (if (I 4 i 13) = m then I 4 i 12 else 0)
set_option maxHeartbeats 4000000 in
set_option maxRecDepth 100000 in
theorem c_X1_fedOn (D : va_G) (E : gEc) (ad : gAd) (I : gI) (F : gF) (lc ln : Nat) (i : Nat) (hi : i < lc) (m : Int32) : gCon D E yX1_fedOn cX1_fedOn 2 (some .int) 0 0 0 [.ref (ad 4 i), .int m] ad (cX E ad I F lc ln) (gPd (some (.int (bFedOn_r I F i m))) ad (cX E ad I F lc ln)) := by
  refine gCon.of (by decide) (Nat.le_of_ble_eq_true rfl) ?_
  intro l A Rn h
  show Rn 0 [(0, .ref (ad 4 i)), (1, .int m)] [] ad (cX E ad I F lc ln) 0 0
  refine r_aload_n h.ok dX1_fedOn_0 0 rfl ?_
  refine r_get (v := .int (I 4 i 13)) h.ok 13 dX1_fedOn_1 (xo_4 hi _) rfl inX1 (by decide) wfl_X1_53 rfl ?_
  refine r_iload_n h.ok dX1_fedOn_4 1 rfl ?_
  refine r_icmp_ne h.ok 15 dX1_fedOn_5 (by decide) (fun c_5 => ?_) (fun c_5 => ?_)
  · refine r_iconst (v := 0) h.ok dX1_fedOn_15 (by decide) ?_
    refine r_iret h dX1_fedOn_16 ⟨by decide, by decide⟩ ⟨(by unfold bFedOn_r; simp only [if_neg c_5]), rfl, rfl⟩
  · refine r_aload_n h.ok dX1_fedOn_8 0 rfl ?_
    refine r_get (v := .int (I 4 i 12)) h.ok 12 dX1_fedOn_9 (xo_4 hi _) rfl inX1 (by decide) wfl_X1_56 rfl ?_
    refine r_goto h.ok 16 dX1_fedOn_12 (by decide) ?_
    refine r_iret h dX1_fedOn_16 ⟨by decide, by decide⟩ ⟨(by unfold bFedOn_r; simp only [if_pos c_5]), rfl, rfl⟩
noncomputable def bAlarm_r (I : gI) (F : gF) (i : Nat) (m : Int32) : Int32 := (if 3 ≤ (I 4 i 6) then (if ((10 * m) * (if 5 < (I 4 i 6) then 5 else I 4 i 6)) ≤ (12 * (((((0 + (I 6 i 0)) + (I 6 i 1)) + (I 6 i 2)) + (I 6 i 3)) + (I 6 i 4))) then 0 else 1) else 0)
set_option maxHeartbeats 4000000 in
set_option maxRecDepth 100000 in
theorem c_X1_isAlarming (D : va_G) (E : gEc) (ad : gAd) (I : gI) (F : gF) (lc ln : Nat) (i : Nat) (hi : i < lc) (m : Int32) : gCon D E yX1_isAlarming cX1_isAlarming 4 (some .boolean) 1 0 0 [.ref (ad 4 i), .int m] ad (cX E ad I F lc ln) (gPd (some (.int (bAlarm_r I F i m))) ad (cX E ad I F lc ln)) := by
  refine gCon.of (by decide) (Nat.le_of_ble_eq_true rfl) ?_
  intro l A Rn h
  show Rn 0 [(0, .ref (ad 4 i)), (1, .int m)] [] ad (cX E ad I F lc ln) 0 0
  refine r_aload_n h.ok dX1_isAlarming_0 0 rfl ?_
  refine r_get (v := .int (I 4 i 6)) h.ok 6 dX1_isAlarming_1 (xo_4 hi _) rfl inX1 (by decide) wfl_X1_62 rfl ?_
  refine r_iconst (v := 3) h.ok dX1_isAlarming_4 (by decide) ?_
  refine r_icmp_ge h.ok 10 dX1_isAlarming_5 (by decide) (fun c_5 => ?_) (fun c_5 => ?_)
  · refine r_iconst (v := 0) h.ok dX1_isAlarming_10 (by decide) ?_
    refine r_istore_n (lv' := [(2, .int 0), (0, .ref (ad 4 i)), (1, .int m)]) h.ok dX1_isAlarming_11 (by decide) rfl ?_
    refine r_iconst (v := 0) h.ok dX1_isAlarming_12 (by decide) ?_
    refine r_istore_n (lv' := [(3, .int 0), (2, .int 0), (0, .ref (ad 4 i)), (1, .int m)]) h.ok dX1_isAlarming_13 (by decide) rfl ?_
    refine r_iload_n h.ok dX1_isAlarming_14 0 rfl ?_
    refine r_aload_n h.ok dX1_isAlarming_15 2 rfl ?_
    refine r_get h.ok 5 dX1_isAlarming_16 (xo_4 hi _) rfl inX1 (by decide) wfl_X1_15 rfl ?_
    refine r_alen (t0 := 0) (v := 5) h.ok dX1_isAlarming_19 (xo_6 hi _) rfl (show Int32.ofNat 5 = 5 by decide) ?_
    refine r_icmp_ge h.ok 38 dX1_isAlarming_20 (by decide) (fun q => absurd q (by decide)) (fun _ => ?_)
    refine r_iload_n h.ok dX1_isAlarming_23 1 rfl ?_
    refine r_aload_n h.ok dX1_isAlarming_24 2 rfl ?_
    refine r_get h.ok 5 dX1_isAlarming_25 (xo_4 hi _) rfl inX1 (by decide) wfl_X1_15 rfl ?_
    refine r_iload_n h.ok dX1_isAlarming_28 0 rfl ?_
    refine x_iald (v := I 6 i 0) h.ok 0 dX1_isAlarming_29 (xo_6 hi _) (by decide) (by decide) (by decide) rfl ?_
    refine r_iadd h.ok dX1_isAlarming_30 ?_
    refine r_istore_n (lv' := [(2, .int (0 + (I 6 i 0))), (3, .int 0), (0, .ref (ad 4 i)), (1, .int m)]) h.ok dX1_isAlarming_31 (by decide) rfl ?_
    refine r_iinc (v := 1) (lv' := [(3, .int 1), (2, .int (0 + (I 6 i 0))), (0, .ref (ad 4 i)), (1, .int m)]) h.ok dX1_isAlarming_32 1 rfl (by decide) (by decide) rfl ?_
    refine r_goto h.ok 14 dX1_isAlarming_35 (by decide) ?_
    refine r_iload_n h.ok dX1_isAlarming_14 0 rfl ?_
    refine r_aload_n h.ok dX1_isAlarming_15 2 rfl ?_
    refine r_get h.ok 5 dX1_isAlarming_16 (xo_4 hi _) rfl inX1 (by decide) wfl_X1_15 rfl ?_
    refine r_alen (t0 := 0) (v := 5) h.ok dX1_isAlarming_19 (xo_6 hi _) rfl (show Int32.ofNat 5 = 5 by decide) ?_
    refine r_icmp_ge h.ok 38 dX1_isAlarming_20 (by decide) (fun q => absurd q (by decide)) (fun _ => ?_)
    refine r_iload_n h.ok dX1_isAlarming_23 1 rfl ?_
    refine r_aload_n h.ok dX1_isAlarming_24 2 rfl ?_
    refine r_get h.ok 5 dX1_isAlarming_25 (xo_4 hi _) rfl inX1 (by decide) wfl_X1_15 rfl ?_
    refine r_iload_n h.ok dX1_isAlarming_28 0 rfl ?_
    refine x_iald (v := I 6 i 1) h.ok 1 dX1_isAlarming_29 (xo_6 hi _) (by decide) (by decide) (by decide) rfl ?_
    refine r_iadd h.ok dX1_isAlarming_30 ?_
    refine r_istore_n (lv' := [(2, .int ((0 + (I 6 i 0)) + (I 6 i 1))), (3, .int 1), (0, .ref (ad 4 i)), (1, .int m)]) h.ok dX1_isAlarming_31 (by decide) rfl ?_
    refine r_iinc (v := 2) (lv' := [(3, .int 2), (2, .int ((0 + (I 6 i 0)) + (I 6 i 1))), (0, .ref (ad 4 i)), (1, .int m)]) h.ok dX1_isAlarming_32 1 rfl (by decide) (by decide) rfl ?_
    refine r_goto h.ok 14 dX1_isAlarming_35 (by decide) ?_
    refine r_iload_n h.ok dX1_isAlarming_14 0 rfl ?_
    refine r_aload_n h.ok dX1_isAlarming_15 2 rfl ?_
    refine r_get h.ok 5 dX1_isAlarming_16 (xo_4 hi _) rfl inX1 (by decide) wfl_X1_15 rfl ?_
    refine r_alen (t0 := 0) (v := 5) h.ok dX1_isAlarming_19 (xo_6 hi _) rfl (show Int32.ofNat 5 = 5 by decide) ?_
    refine r_icmp_ge h.ok 38 dX1_isAlarming_20 (by decide) (fun q => absurd q (by decide)) (fun _ => ?_)
    refine r_iload_n h.ok dX1_isAlarming_23 1 rfl ?_
    refine r_aload_n h.ok dX1_isAlarming_24 2 rfl ?_
    refine r_get h.ok 5 dX1_isAlarming_25 (xo_4 hi _) rfl inX1 (by decide) wfl_X1_15 rfl ?_
    refine r_iload_n h.ok dX1_isAlarming_28 0 rfl ?_
    refine x_iald (v := I 6 i 2) h.ok 2 dX1_isAlarming_29 (xo_6 hi _) (by decide) (by decide) (by decide) rfl ?_
    refine r_iadd h.ok dX1_isAlarming_30 ?_
    refine r_istore_n (lv' := [(2, .int (((0 + (I 6 i 0)) + (I 6 i 1)) + (I 6 i 2))), (3, .int 2), (0, .ref (ad 4 i)), (1, .int m)]) h.ok dX1_isAlarming_31 (by decide) rfl ?_
    refine r_iinc (v := 3) (lv' := [(3, .int 3), (2, .int (((0 + (I 6 i 0)) + (I 6 i 1)) + (I 6 i 2))), (0, .ref (ad 4 i)), (1, .int m)]) h.ok dX1_isAlarming_32 1 rfl (by decide) (by decide) rfl ?_
    refine r_goto h.ok 14 dX1_isAlarming_35 (by decide) ?_
    refine r_iload_n h.ok dX1_isAlarming_14 0 rfl ?_
    refine r_aload_n h.ok dX1_isAlarming_15 2 rfl ?_
    refine r_get h.ok 5 dX1_isAlarming_16 (xo_4 hi _) rfl inX1 (by decide) wfl_X1_15 rfl ?_
    refine r_alen (t0 := 0) (v := 5) h.ok dX1_isAlarming_19 (xo_6 hi _) rfl (show Int32.ofNat 5 = 5 by decide) ?_
    refine r_icmp_ge h.ok 38 dX1_isAlarming_20 (by decide) (fun q => absurd q (by decide)) (fun _ => ?_)
    refine r_iload_n h.ok dX1_isAlarming_23 1 rfl ?_
    refine r_aload_n h.ok dX1_isAlarming_24 2 rfl ?_
    refine r_get h.ok 5 dX1_isAlarming_25 (xo_4 hi _) rfl inX1 (by decide) wfl_X1_15 rfl ?_
    refine r_iload_n h.ok dX1_isAlarming_28 0 rfl ?_
    refine x_iald (v := I 6 i 3) h.ok 3 dX1_isAlarming_29 (xo_6 hi _) (by decide) (by decide) (by decide) rfl ?_
    refine r_iadd h.ok dX1_isAlarming_30 ?_
    refine r_istore_n (lv' := [(2, .int ((((0 + (I 6 i 0)) + (I 6 i 1)) + (I 6 i 2)) + (I 6 i 3))), (3, .int 3), (0, .ref (ad 4 i)), (1, .int m)]) h.ok dX1_isAlarming_31 (by decide) rfl ?_
    refine r_iinc (v := 4) (lv' := [(3, .int 4), (2, .int ((((0 + (I 6 i 0)) + (I 6 i 1)) + (I 6 i 2)) + (I 6 i 3))), (0, .ref (ad 4 i)), (1, .int m)]) h.ok dX1_isAlarming_32 1 rfl (by decide) (by decide) rfl ?_
    refine r_goto h.ok 14 dX1_isAlarming_35 (by decide) ?_
    refine r_iload_n h.ok dX1_isAlarming_14 0 rfl ?_
    refine r_aload_n h.ok dX1_isAlarming_15 2 rfl ?_
    refine r_get h.ok 5 dX1_isAlarming_16 (xo_4 hi _) rfl inX1 (by decide) wfl_X1_15 rfl ?_
    refine r_alen (t0 := 0) (v := 5) h.ok dX1_isAlarming_19 (xo_6 hi _) rfl (show Int32.ofNat 5 = 5 by decide) ?_
    refine r_icmp_ge h.ok 38 dX1_isAlarming_20 (by decide) (fun q => absurd q (by decide)) (fun _ => ?_)
    refine r_iload_n h.ok dX1_isAlarming_23 1 rfl ?_
    refine r_aload_n h.ok dX1_isAlarming_24 2 rfl ?_
    refine r_get h.ok 5 dX1_isAlarming_25 (xo_4 hi _) rfl inX1 (by decide) wfl_X1_15 rfl ?_
    refine r_iload_n h.ok dX1_isAlarming_28 0 rfl ?_
    refine x_iald (v := I 6 i 4) h.ok 4 dX1_isAlarming_29 (xo_6 hi _) (by decide) (by decide) (by decide) rfl ?_
    refine r_iadd h.ok dX1_isAlarming_30 ?_
    refine r_istore_n (lv' := [(2, .int (((((0 + (I 6 i 0)) + (I 6 i 1)) + (I 6 i 2)) + (I 6 i 3)) + (I 6 i 4))), (3, .int 4), (0, .ref (ad 4 i)), (1, .int m)]) h.ok dX1_isAlarming_31 (by decide) rfl ?_
    refine r_iinc (v := 5) (lv' := [(3, .int 5), (2, .int (((((0 + (I 6 i 0)) + (I 6 i 1)) + (I 6 i 2)) + (I 6 i 3)) + (I 6 i 4))), (0, .ref (ad 4 i)), (1, .int m)]) h.ok dX1_isAlarming_32 1 rfl (by decide) (by decide) rfl ?_
    refine r_goto h.ok 14 dX1_isAlarming_35 (by decide) ?_
    refine r_iload_n h.ok dX1_isAlarming_14 0 rfl ?_
    refine r_aload_n h.ok dX1_isAlarming_15 2 rfl ?_
    refine r_get h.ok 5 dX1_isAlarming_16 (xo_4 hi _) rfl inX1 (by decide) wfl_X1_15 rfl ?_
    refine r_alen (t0 := 0) (v := 5) h.ok dX1_isAlarming_19 (xo_6 hi _) rfl (show Int32.ofNat 5 = 5 by decide) ?_
    refine r_icmp_ge h.ok 38 dX1_isAlarming_20 (by decide) (fun _ => ?_) (fun q => absurd q (by decide))
    refine r_bipush (v := 10) h.ok dX1_isAlarming_38 (by decide) ?_
    refine r_iload_n h.ok dX1_isAlarming_40 3 rfl ?_
    refine r_imul h.ok dX1_isAlarming_41 ?_
    refine r_aload_n h.ok dX1_isAlarming_42 2 rfl ?_
    refine r_get (v := .int (I 4 i 6)) h.ok 6 dX1_isAlarming_43 (xo_4 hi _) rfl inX1 (by decide) wfl_X1_62 rfl ?_
    refine r_iconst (v := 5) h.ok dX1_isAlarming_46 (by decide) ?_
    refine r_mmin h.ok dX1_isAlarming_47 wml_X1_40 ⟨by decide, Nat.le_of_ble_eq_true rfl, by decide, by decide⟩ ?_
    refine r_imul h.ok dX1_isAlarming_50 ?_
    refine r_bipush (v := 12) h.ok dX1_isAlarming_51 (by decide) ?_
    refine r_iload_n h.ok dX1_isAlarming_53 1 rfl ?_
    refine r_imul h.ok dX1_isAlarming_54 ?_
    refine r_icmp_le h.ok 62 dX1_isAlarming_55 (by decide) (fun c_55 => ?_) (fun c_55 => ?_)
    · refine r_iconst (v := 0) h.ok dX1_isAlarming_62 (by decide) ?_
      refine r_zret h dX1_isAlarming_63 ⟨by decide, by decide⟩ (by simp) ⟨(by unfold bAlarm_r; simp only [if_pos c_5, if_pos c_55]), rfl, rfl⟩
    · refine r_iconst (v := 1) h.ok dX1_isAlarming_58 (by decide) ?_
      refine r_goto h.ok 63 dX1_isAlarming_59 (by decide) ?_
      refine r_zret h dX1_isAlarming_63 ⟨by decide, by decide⟩ (by simp) ⟨(by unfold bAlarm_r; simp only [if_pos c_5, if_neg c_55]), rfl, rfl⟩
  · refine r_iconst (v := 0) h.ok dX1_isAlarming_8 (by decide) ?_
    refine r_zret h dX1_isAlarming_9 ⟨by decide, by decide⟩ (by simp) ⟨(by unfold bAlarm_r; simp only [if_neg c_5]), rfl, rfl⟩
noncomputable def bFeed_r (I : gI) (F : gF) (i : Nat) (m d : Int32) : Int32 := (if ((I 4 i 3) - (bFedOn_r I F i d)) < (10 * m) then (I 4 i 3) - (bFedOn_r I F i d) else 10 * m)
noncomputable def bFeed_I (I : gI) (F : gF) (i : Nat) (m d : Int32) : gI := gs (gs I 4 i 13 d) 4 i 12 ((bFedOn_r I F i d) + (if ((I 4 i 3) - (bFedOn_r I F i d)) < (10 * m) then (I 4 i 3) - (bFedOn_r I F i d) else 10 * m))
set_option maxHeartbeats 4000000 in
set_option maxRecDepth 100000 in
theorem c_X1_feedFor (D : va_G) (E : gEc) (ad : gAd) (I : gI) (F : gF) (lc ln : Nat) (i : Nat) (hi : i < lc) (m d : Int32) : gCon D E yX1_feedFor cX1_feedFor 5 (some .int) 1 0 0 [.ref (ad 4 i), .int m, .int d] ad (cX E ad I F lc ln) (gPd (some (.int (bFeed_r I F i m d))) ad (cX E ad (bFeed_I I F i m d) F lc ln)) := by
  refine gCon.of (by decide) (Nat.le_of_ble_eq_true rfl) ?_
  intro l A Rn h
  show Rn 0 [(0, .ref (ad 4 i)), (1, .int m), (2, .int d)] [] ad (cX E ad I F lc ln) 0 0
  refine r_aload_n h.ok dX1_feedFor_0 0 rfl ?_
  refine r_iload_n h.ok dX1_feedFor_1 2 rfl ?_
  refine r_callV h.ok [.int d] [] dX1_feedFor_2 (c_X1_fedOn D E ad I F lc ln i hi d) wml_X1_59 wim_X1_fedOn wse_X1_fedOn win_X1 wco_X1_fedOn yok_X1_fedOn (xo_4 hi _) rfl rfl ⟨by decide, by decide, by simp [gRm], by simp [gRm]⟩ (Nat.le_of_ble_eq_true rfl) rfl ?_
  show Rn 5 [(0, .ref (ad 4 i)), (1, .int m), (2, .int d)] [.int (bFedOn_r I F i d)] ad (cX E ad I F lc ln) 0 0
  refine r_istore_n (lv' := [(3, .int (bFedOn_r I F i d)), (0, .ref (ad 4 i)), (1, .int m), (2, .int d)]) h.ok dX1_feedFor_5 (by decide) rfl ?_
  refine r_bipush (v := 10) h.ok dX1_feedFor_6 (by decide) ?_
  refine r_iload_n h.ok dX1_feedFor_8 2 rfl ?_
  refine r_imul h.ok dX1_feedFor_9 ?_
  refine r_aload_n h.ok dX1_feedFor_10 1 rfl ?_
  refine r_get (v := .int (I 4 i 3)) h.ok 3 dX1_feedFor_11 (xo_4 hi _) rfl inX1 (by decide) wfl_X1_31 rfl ?_
  refine r_iload_n h.ok dX1_feedFor_14 0 rfl ?_
  refine r_isub h.ok dX1_feedFor_15 ?_
  refine r_mmin h.ok dX1_feedFor_16 wml_X1_40 ⟨by decide, Nat.le_of_ble_eq_true rfl, by decide, by decide⟩ ?_
  refine r_topi (fun g e_g => ?_)
  refine r_istore (lv' := [(4, .int g), (3, .int (bFedOn_r I F i d)), (0, .ref (ad 4 i)), (1, .int m), (2, .int d)]) h.ok dX1_feedFor_19 (by decide) rfl ?_
  refine r_aload_n h.ok dX1_feedFor_21 2 rfl ?_
  refine r_iload_n h.ok dX1_feedFor_22 4 rfl ?_
  refine r_put (ty := tyX1) h.ok 13 dX1_feedFor_23 (xo_4 hi _) rfl inX1 tyX1_ok nmX1 (by decide) wfl_X1_53 rfl rfl rfl (by simp) (cX_put (r' := upd (I 4 i) 13 d) (xo_4 hi _)) ?_
  refine r_aload_n h.ok dX1_feedFor_26 2 rfl ?_
  refine r_iload_n h.ok dX1_feedFor_27 1 rfl ?_
  refine r_iload h.ok dX1_feedFor_28 0 rfl ?_
  refine r_iadd h.ok dX1_feedFor_30 ?_
  refine r_put (ty := tyX1) h.ok 12 dX1_feedFor_31 (xo_4 hi _) rfl inX1 tyX1_ok nmX1 (by decide) wfl_X1_56 rfl rfl rfl (by simp) (cX_put (r' := upd ((gs I 4 i 13 d) 4 i) 12 ((bFedOn_r I F i d) + g)) (xo_4 hi _)) ?_
  refine r_iload h.ok dX1_feedFor_34 0 rfl ?_
  refine r_iret h dX1_feedFor_36 ⟨by decide, by decide⟩ ⟨(by subst e_g; unfold bFeed_r; rfl), rfl, (by subst e_g; unfold bFeed_I; rfl)⟩
theorem vp_b {x : Int32} {n : Nat} (hn : n < 2 ^ 31) (h1 : ¬ x < 0) (h2 : ¬ nI n ≤ x) : vp_in x n := by
  obtain ⟨j, hj, rfl⟩ := nI_of h1
  rw [nI_leI hn hj] at h2
  exact vp_in_nI (by omega) hn
noncomputable def bKeep_I (I : gI) (F : gF) (i : Nat) (m : Int32) : gI := (if ((I 4 i 6) - (I 4 i 6) / 5 * 5) < 0 then gs I 4 i 6 ((I 4 i 6) + 1) else (if 5 ≤ ((I 4 i 6) - (I 4 i 6) / 5 * 5) then gs I 4 i 6 ((I 4 i 6) + 1) else gs (gs I 6 i (((I 4 i 6) - (I 4 i 6) / 5 * 5).toNatClampNeg) m) 4 i 6 ((I 4 i 6) + 1)))
set_option maxHeartbeats 4000000 in
set_option maxRecDepth 100000 in
theorem c_X1_keepReading (D : va_G) (E : gEc) (ad : gAd) (I : gI) (F : gF) (lc ln : Nat) (i : Nat) (hi : i < lc) (m : Int32) : gCon D E yX1_keepReading cX1_keepReading 3 none 0 0 0 [.ref (ad 4 i), .int m] ad (cX E ad I F lc ln) (gPd none ad (cX E ad (bKeep_I I F i m) F lc ln)) := by
  refine gCon.of (by decide) (Nat.le_of_ble_eq_true rfl) ?_
  intro l A Rn h
  show Rn 0 [(0, .ref (ad 4 i)), (1, .int m)] [] ad (cX E ad I F lc ln) 0 0
  refine r_aload_n h.ok dX1_keepReading_0 0 rfl ?_
  refine r_get (v := .int (I 4 i 6)) h.ok 6 dX1_keepReading_1 (xo_4 hi _) rfl inX1 (by decide) wfl_X1_62 rfl ?_
  refine r_iconst (v := 5) h.ok dX1_keepReading_4 (by decide) ?_
  refine r_irem h.ok dX1_keepReading_5 (by decide) ?_
  refine r_istore_n (lv' := [(2, .int ((I 4 i 6) - (I 4 i 6) / 5 * 5)), (0, .ref (ad 4 i)), (1, .int m)]) h.ok dX1_keepReading_6 (by decide) rfl ?_
  refine r_iload_n h.ok dX1_keepReading_7 0 rfl ?_
  refine r_if_lt h.ok 27 dX1_keepReading_8 (by decide) (fun c_8 => ?_) (fun c_8 => ?_)
  · refine r_aload_n h.ok dX1_keepReading_27 1 rfl ?_
    refine r_dup h.ok dX1_keepReading_28 rfl ?_
    refine r_get (v := .int (I 4 i 6)) h.ok 6 dX1_keepReading_29 (xo_4 hi _) rfl inX1 (by decide) wfl_X1_62 rfl ?_
    refine r_iconst (v := 1) h.ok dX1_keepReading_32 (by decide) ?_
    refine r_iadd h.ok dX1_keepReading_33 ?_
    refine r_put (ty := tyX1) h.ok 6 dX1_keepReading_34 (xo_4 hi _) rfl inX1 tyX1_ok nmX1 (by decide) wfl_X1_62 rfl rfl rfl (by simp) (cX_put (r' := upd (I 4 i) 6 ((I 4 i 6) + 1)) (xo_4 hi _)) ?_
    refine r_vret h dX1_keepReading_37 ⟨by decide, by decide⟩ ⟨rfl, rfl, (by unfold bKeep_I; simp only [if_pos c_8])⟩
  · refine r_iload_n h.ok dX1_keepReading_11 0 rfl ?_
    refine r_aload_n h.ok dX1_keepReading_12 1 rfl ?_
    refine r_get h.ok 5 dX1_keepReading_13 (xo_4 hi _) rfl inX1 (by decide) wfl_X1_15 rfl ?_
    refine r_alen (t0 := 0) (v := 5) h.ok dX1_keepReading_16 (xo_6 hi _) rfl (show Int32.ofNat 5 = 5 by decide) ?_
    refine r_icmp_ge h.ok 27 dX1_keepReading_17 (by decide) (fun c_17 => ?_) (fun c_17 => ?_)
    · refine r_aload_n h.ok dX1_keepReading_27 1 rfl ?_
      refine r_dup h.ok dX1_keepReading_28 rfl ?_
      refine r_get (v := .int (I 4 i 6)) h.ok 6 dX1_keepReading_29 (xo_4 hi _) rfl inX1 (by decide) wfl_X1_62 rfl ?_
      refine r_iconst (v := 1) h.ok dX1_keepReading_32 (by decide) ?_
      refine r_iadd h.ok dX1_keepReading_33 ?_
      refine r_put (ty := tyX1) h.ok 6 dX1_keepReading_34 (xo_4 hi _) rfl inX1 tyX1_ok nmX1 (by decide) wfl_X1_62 rfl rfl rfl (by simp) (cX_put (r' := upd (I 4 i) 6 ((I 4 i 6) + 1)) (xo_4 hi _)) ?_
      refine r_vret h dX1_keepReading_37 ⟨by decide, by decide⟩ ⟨rfl, rfl, (by unfold bKeep_I; simp only [if_neg c_8, if_pos c_17])⟩
    · refine r_aload_n h.ok dX1_keepReading_20 1 rfl ?_
      refine r_get h.ok 5 dX1_keepReading_21 (xo_4 hi _) rfl inX1 (by decide) wfl_X1_15 rfl ?_
      refine r_iload_n h.ok dX1_keepReading_24 0 rfl ?_
      refine r_iload_n h.ok dX1_keepReading_25 2 rfl ?_
      refine x_iasp h.ok dX1_keepReading_26 (xo_6 hi) (vp_b (by decide) c_8 c_17) ?_
      refine r_aload_n h.ok dX1_keepReading_27 1 rfl ?_
      refine r_dup h.ok dX1_keepReading_28 rfl ?_
      refine r_get (v := .int (I 4 i 6)) h.ok 6 dX1_keepReading_29 (xo_4 hi _) rfl inX1 (by decide) wfl_X1_62 rfl ?_
      refine r_iconst (v := 1) h.ok dX1_keepReading_32 (by decide) ?_
      refine r_iadd h.ok dX1_keepReading_33 ?_
      refine r_put (ty := tyX1) h.ok 6 dX1_keepReading_34 (xo_4 hi _) rfl inX1 tyX1_ok nmX1 (by decide) wfl_X1_62 rfl rfl rfl (by simp) (cX_put (r' := upd ((gs I 6 i (((I 4 i 6) - (I 4 i 6) / 5 * 5).toNatClampNeg) m) 4 i) 6 ((I 4 i 6) + 1)) (xo_4 hi _)) ?_
      refine r_vret h dX1_keepReading_37 ⟨by decide, by decide⟩ ⟨rfl, rfl, (by unfold bKeep_I; simp only [if_neg c_8, if_neg c_17])⟩
noncomputable def bBegun_I (I : gI) (F : gF) (i : Nat) (m : Int32) : gI := gs (gs (gs (gs (gs (gs (gs I 4 i 10 m) 4 i 8 m) 4 i 9 0) 5 i 0 0) 5 i 1 0) 5 i 2 0) 5 i 3 0
set_option maxHeartbeats 4000000 in
set_option maxRecDepth 100000 in
theorem c_X1_beginMilking (D : va_G) (E : gEc) (ad : gAd) (I : gI) (F : gF) (lc ln : Nat) (i : Nat) (hi : i < lc) (m : Int32) : gCon D E yX1_beginMilking cX1_beginMilking 3 none 0 0 0 [.ref (ad 4 i), .int m] ad (cX E ad I F lc ln) (gPd none ad (cX E ad (bBegun_I I F i m) F lc ln)) := by
  refine gCon.of (by decide) (Nat.le_of_ble_eq_true rfl) ?_
  intro l A Rn h
  show Rn 0 [(0, .ref (ad 4 i)), (1, .int m)] [] ad (cX E ad I F lc ln) 0 0
  refine r_aload_n h.ok dX1_beginMilking_0 0 rfl ?_
  refine r_iload_n h.ok dX1_beginMilking_1 1 rfl ?_
  refine r_put (ty := tyX1) h.ok 10 dX1_beginMilking_2 (xo_4 hi _) rfl inX1 tyX1_ok nmX1 (by decide) wfl_X1_18 rfl rfl rfl (by simp) (cX_put (r' := upd (I 4 i) 10 m) (xo_4 hi _)) ?_
  refine r_aload_n h.ok dX1_beginMilking_5 0 rfl ?_
  refine r_iload_n h.ok dX1_beginMilking_6 1 rfl ?_
  refine r_put (ty := tyX1) h.ok 8 dX1_beginMilking_7 (xo_4 hi _) rfl inX1 tyX1_ok nmX1 (by decide) wfl_X1_34 rfl rfl rfl (by simp) (cX_put (r' := upd ((gs I 4 i 10 m) 4 i) 8 m) (xo_4 hi _)) ?_
  refine r_aload_n h.ok dX1_beginMilking_10 0 rfl ?_
  refine r_iconst (v := 0) h.ok dX1_beginMilking_11 (by decide) ?_
  refine r_put (ty := tyX1) h.ok 9 dX1_beginMilking_12 (xo_4 hi _) rfl inX1 tyX1_ok nmX1 (by decide) wfl_X1_37 rfl rfl rfl (by simp) (cX_put (r' := upd ((gs (gs I 4 i 10 m) 4 i 8 m) 4 i) 9 0) (xo_4 hi _)) ?_
  refine r_iconst (v := 0) h.ok dX1_beginMilking_15 (by decide) ?_
  refine r_istore_n (lv' := [(2, .int 0), (0, .ref (ad 4 i)), (1, .int m)]) h.ok dX1_beginMilking_16 (by decide) rfl ?_
  refine r_iload_n h.ok dX1_beginMilking_17 0 rfl ?_
  refine r_aload_n h.ok dX1_beginMilking_18 1 rfl ?_
  refine r_get h.ok 4 dX1_beginMilking_19 (xo_4 hi _) rfl inX1 (by decide) wfl_X1_9 rfl ?_
  refine r_alen (t0 := 0) (v := 4) h.ok dX1_beginMilking_22 (xo_5 hi _) rfl (show Int32.ofNat 4 = 4 by decide) ?_
  refine r_icmp_ge h.ok 39 dX1_beginMilking_23 (by decide) (fun q => absurd q (by decide)) (fun _ => ?_)
  refine r_aload_n h.ok dX1_beginMilking_26 1 rfl ?_
  refine r_get h.ok 4 dX1_beginMilking_27 (xo_4 hi _) rfl inX1 (by decide) wfl_X1_9 rfl ?_
  refine r_iload_n h.ok dX1_beginMilking_30 0 rfl ?_
  refine r_iconst (v := 0) h.ok dX1_beginMilking_31 (by decide) ?_
  refine x_iast h.ok 0 dX1_beginMilking_32 (xo_5 hi) (by decide) (by decide) (by decide) ?_
  refine r_iinc (v := 1) (lv' := [(2, .int 1), (0, .ref (ad 4 i)), (1, .int m)]) h.ok dX1_beginMilking_33 0 rfl (by decide) (by decide) rfl ?_
  refine r_goto h.ok 17 dX1_beginMilking_36 (by decide) ?_
  refine r_iload_n h.ok dX1_beginMilking_17 0 rfl ?_
  refine r_aload_n h.ok dX1_beginMilking_18 1 rfl ?_
  refine r_get h.ok 4 dX1_beginMilking_19 (xo_4 hi _) rfl inX1 (by decide) wfl_X1_9 rfl ?_
  refine r_alen (t0 := 0) (v := 4) h.ok dX1_beginMilking_22 (xo_5 hi _) rfl (show Int32.ofNat 4 = 4 by decide) ?_
  refine r_icmp_ge h.ok 39 dX1_beginMilking_23 (by decide) (fun q => absurd q (by decide)) (fun _ => ?_)
  refine r_aload_n h.ok dX1_beginMilking_26 1 rfl ?_
  refine r_get h.ok 4 dX1_beginMilking_27 (xo_4 hi _) rfl inX1 (by decide) wfl_X1_9 rfl ?_
  refine r_iload_n h.ok dX1_beginMilking_30 0 rfl ?_
  refine r_iconst (v := 0) h.ok dX1_beginMilking_31 (by decide) ?_
  refine x_iast h.ok 1 dX1_beginMilking_32 (xo_5 hi) (by decide) (by decide) (by decide) ?_
  refine r_iinc (v := 2) (lv' := [(2, .int 2), (0, .ref (ad 4 i)), (1, .int m)]) h.ok dX1_beginMilking_33 0 rfl (by decide) (by decide) rfl ?_
  refine r_goto h.ok 17 dX1_beginMilking_36 (by decide) ?_
  refine r_iload_n h.ok dX1_beginMilking_17 0 rfl ?_
  refine r_aload_n h.ok dX1_beginMilking_18 1 rfl ?_
  refine r_get h.ok 4 dX1_beginMilking_19 (xo_4 hi _) rfl inX1 (by decide) wfl_X1_9 rfl ?_
  refine r_alen (t0 := 0) (v := 4) h.ok dX1_beginMilking_22 (xo_5 hi _) rfl (show Int32.ofNat 4 = 4 by decide) ?_
  refine r_icmp_ge h.ok 39 dX1_beginMilking_23 (by decide) (fun q => absurd q (by decide)) (fun _ => ?_)
  refine r_aload_n h.ok dX1_beginMilking_26 1 rfl ?_
  refine r_get h.ok 4 dX1_beginMilking_27 (xo_4 hi _) rfl inX1 (by decide) wfl_X1_9 rfl ?_
  refine r_iload_n h.ok dX1_beginMilking_30 0 rfl ?_
  refine r_iconst (v := 0) h.ok dX1_beginMilking_31 (by decide) ?_
  refine x_iast h.ok 2 dX1_beginMilking_32 (xo_5 hi) (by decide) (by decide) (by decide) ?_
  refine r_iinc (v := 3) (lv' := [(2, .int 3), (0, .ref (ad 4 i)), (1, .int m)]) h.ok dX1_beginMilking_33 0 rfl (by decide) (by decide) rfl ?_
  refine r_goto h.ok 17 dX1_beginMilking_36 (by decide) ?_
  refine r_iload_n h.ok dX1_beginMilking_17 0 rfl ?_
  refine r_aload_n h.ok dX1_beginMilking_18 1 rfl ?_
  refine r_get h.ok 4 dX1_beginMilking_19 (xo_4 hi _) rfl inX1 (by decide) wfl_X1_9 rfl ?_
  refine r_alen (t0 := 0) (v := 4) h.ok dX1_beginMilking_22 (xo_5 hi _) rfl (show Int32.ofNat 4 = 4 by decide) ?_
  refine r_icmp_ge h.ok 39 dX1_beginMilking_23 (by decide) (fun q => absurd q (by decide)) (fun _ => ?_)
  refine r_aload_n h.ok dX1_beginMilking_26 1 rfl ?_
  refine r_get h.ok 4 dX1_beginMilking_27 (xo_4 hi _) rfl inX1 (by decide) wfl_X1_9 rfl ?_
  refine r_iload_n h.ok dX1_beginMilking_30 0 rfl ?_
  refine r_iconst (v := 0) h.ok dX1_beginMilking_31 (by decide) ?_
  refine x_iast h.ok 3 dX1_beginMilking_32 (xo_5 hi) (by decide) (by decide) (by decide) ?_
  refine r_iinc (v := 4) (lv' := [(2, .int 4), (0, .ref (ad 4 i)), (1, .int m)]) h.ok dX1_beginMilking_33 0 rfl (by decide) (by decide) rfl ?_
  refine r_goto h.ok 17 dX1_beginMilking_36 (by decide) ?_
  refine r_iload_n h.ok dX1_beginMilking_17 0 rfl ?_
  refine r_aload_n h.ok dX1_beginMilking_18 1 rfl ?_
  refine r_get h.ok 4 dX1_beginMilking_19 (xo_4 hi _) rfl inX1 (by decide) wfl_X1_9 rfl ?_
  refine r_alen (t0 := 0) (v := 4) h.ok dX1_beginMilking_22 (xo_5 hi _) rfl (show Int32.ofNat 4 = 4 by decide) ?_
  refine r_icmp_ge h.ok 39 dX1_beginMilking_23 (by decide) (fun _ => ?_) (fun q => absurd q (by decide))
  refine r_vret h dX1_beginMilking_39 ⟨by decide, by decide⟩ ⟨rfl, rfl, (by unfold bBegun_I; rfl)⟩
noncomputable def bPut_r (I : gI) (F : gF) (m b : Int32) : Int32 := (if b = 0 then (if ((I 3 0 0) - (I 3 0 1)) < m then 2 else 0) else 1)
noncomputable def bPut_I (I : gI) (F : gF) (m b : Int32) : gI := (if b = 0 then (if ((I 3 0 0) - (I 3 0 1)) < m then gs I 3 0 3 ((I 3 0 3) + m) else gs I 3 0 1 ((I 3 0 1) + m)) else gs I 3 0 2 ((I 3 0 2) + m))
set_option maxHeartbeats 4000000 in
set_option maxRecDepth 100000 in
theorem c_X3_put (D : va_G) (E : gEc) (ad : gAd) (I : gI) (F : gF) (lc ln : Nat) (m b : Int32) : gCon D E yX3_put cX3_put 3 (some .int) 0 0 0 [.ref (ad 3 0), .int m, .int b] ad (cX E ad I F lc ln) (gPd (some (.int (bPut_r I F m b))) ad (cX E ad (bPut_I I F m b) F lc ln)) := by
  refine gCon.of (by decide) (Nat.le_of_ble_eq_true rfl) ?_
  intro l A Rn h
  show Rn 0 [(0, .ref (ad 3 0)), (1, .int m), (2, .int b)] [] ad (cX E ad I F lc ln) 0 0
  refine r_iload_n h.ok dX3_put_0 2 rfl ?_
  refine r_if_eq h.ok 16 dX3_put_1 (by decide) (fun c_1 => ?_) (fun c_1 => ?_)
  · refine r_iload_n h.ok dX3_put_16 1 rfl ?_
    refine r_aload_n h.ok dX3_put_17 0 rfl ?_
    refine r_get (v := .int (I 3 0 0)) h.ok 0 dX3_put_18 (xo_3 _) rfl inX3 (by decide) wfl_X3_9 rfl ?_
    refine r_aload_n h.ok dX3_put_21 0 rfl ?_
    refine r_get (v := .int (I 3 0 1)) h.ok 1 dX3_put_22 (xo_3 _) rfl inX3 (by decide) wfl_X3_18 rfl ?_
    refine r_isub h.ok dX3_put_25 ?_
    refine r_icmp_gt h.ok 41 dX3_put_26 (by decide) (fun c_26 => ?_) (fun c_26 => ?_)
    · refine r_aload_n h.ok dX3_put_41 0 rfl ?_
      refine r_dup h.ok dX3_put_42 rfl ?_
      refine r_get (v := .int (I 3 0 3)) h.ok 3 dX3_put_43 (xo_3 _) rfl inX3 (by decide) wfl_X3_21 rfl ?_
      refine r_iload_n h.ok dX3_put_46 1 rfl ?_
      refine r_iadd h.ok dX3_put_47 ?_
      refine r_put (ty := tyX3) h.ok 3 dX3_put_48 (xo_3 _) rfl inX3 tyX3_ok nmX3 (by decide) wfl_X3_21 rfl rfl rfl (by simp) (cX_put (r' := upd (I 3 0) 3 ((I 3 0 3) + m)) (xo_3 _)) ?_
      refine r_iconst (v := 2) h.ok dX3_put_51 (by decide) ?_
      refine r_iret h dX3_put_52 ⟨by decide, by decide⟩ ⟨(by unfold bPut_r; simp only [if_pos c_1, if_pos c_26]), rfl, (by unfold bPut_I; simp only [if_pos c_1, if_pos c_26])⟩
    · refine r_aload_n h.ok dX3_put_29 0 rfl ?_
      refine r_dup h.ok dX3_put_30 rfl ?_
      refine r_get (v := .int (I 3 0 1)) h.ok 1 dX3_put_31 (xo_3 _) rfl inX3 (by decide) wfl_X3_18 rfl ?_
      refine r_iload_n h.ok dX3_put_34 1 rfl ?_
      refine r_iadd h.ok dX3_put_35 ?_
      refine r_put (ty := tyX3) h.ok 1 dX3_put_36 (xo_3 _) rfl inX3 tyX3_ok nmX3 (by decide) wfl_X3_18 rfl rfl rfl (by simp) (cX_put (r' := upd (I 3 0) 1 ((I 3 0 1) + m)) (xo_3 _)) ?_
      refine r_iconst (v := 0) h.ok dX3_put_39 (by decide) ?_
      refine r_iret h dX3_put_40 ⟨by decide, by decide⟩ ⟨(by unfold bPut_r; simp only [if_pos c_1, if_neg c_26]), rfl, (by unfold bPut_I; simp only [if_pos c_1, if_neg c_26])⟩
  · refine r_aload_n h.ok dX3_put_4 0 rfl ?_
    refine r_dup h.ok dX3_put_5 rfl ?_
    refine r_get (v := .int (I 3 0 2)) h.ok 2 dX3_put_6 (xo_3 _) rfl inX3 (by decide) wfl_X3_15 rfl ?_
    refine r_iload_n h.ok dX3_put_9 1 rfl ?_
    refine r_iadd h.ok dX3_put_10 ?_
    refine r_put (ty := tyX3) h.ok 2 dX3_put_11 (xo_3 _) rfl inX3 tyX3_ok nmX3 (by decide) wfl_X3_15 rfl rfl rfl (by simp) (cX_put (r' := upd (I 3 0) 2 ((I 3 0 2) + m)) (xo_3 _)) ?_
    refine r_iconst (v := 1) h.ok dX3_put_14 (by decide) ?_
    refine r_iret h dX3_put_15 ⟨by decide, by decide⟩ ⟨(by unfold bPut_r; simp only [if_neg c_1]), rfl, (by unfold bPut_I; simp only [if_neg c_1])⟩
noncomputable def bTake_r (I : gI) (F : gF) (m : Int32) : Int32 := (if (I 3 0 1) < m then I 3 0 1 else m)
noncomputable def bTake_I (I : gI) (F : gF) (m : Int32) : gI := gs (gs I 3 0 1 ((I 3 0 1) - (if (I 3 0 1) < m then I 3 0 1 else m))) 3 0 4 ((I 3 0 4) + (if (I 3 0 1) < m then I 3 0 1 else m))
set_option maxHeartbeats 4000000 in
set_option maxRecDepth 100000 in
theorem c_X3_takeAway (D : va_G) (E : gEc) (ad : gAd) (I : gI) (F : gF) (lc ln : Nat) (m : Int32) : gCon D E yX3_takeAway cX3_takeAway 3 (some .int) 1 0 0 [.ref (ad 3 0), .int m] ad (cX E ad I F lc ln) (gPd (some (.int (bTake_r I F m))) ad (cX E ad (bTake_I I F m) F lc ln)) := by
  refine gCon.of (by decide) (Nat.le_of_ble_eq_true rfl) ?_
  intro l A Rn h
  show Rn 0 [(0, .ref (ad 3 0)), (1, .int m)] [] ad (cX E ad I F lc ln) 0 0
  refine r_iload_n h.ok dX3_takeAway_0 1 rfl ?_
  refine r_aload_n h.ok dX3_takeAway_1 0 rfl ?_
  refine r_get (v := .int (I 3 0 1)) h.ok 1 dX3_takeAway_2 (xo_3 _) rfl inX3 (by decide) wfl_X3_18 rfl ?_
  refine r_mmin h.ok dX3_takeAway_5 wml_X3_24 ⟨by decide, Nat.le_of_ble_eq_true rfl, by decide, by decide⟩ ?_
  refine r_topi (fun g e_g => ?_)
  refine r_istore_n (lv' := [(2, .int g), (0, .ref (ad 3 0)), (1, .int m)]) h.ok dX3_takeAway_8 (by decide) rfl ?_
  refine r_aload_n h.ok dX3_takeAway_9 1 rfl ?_
  refine r_dup h.ok dX3_takeAway_10 rfl ?_
  refine r_get (v := .int (I 3 0 1)) h.ok 1 dX3_takeAway_11 (xo_3 _) rfl inX3 (by decide) wfl_X3_18 rfl ?_
  refine r_iload_n h.ok dX3_takeAway_14 0 rfl ?_
  refine r_isub h.ok dX3_takeAway_15 ?_
  refine r_put (ty := tyX3) h.ok 1 dX3_takeAway_16 (xo_3 _) rfl inX3 tyX3_ok nmX3 (by decide) wfl_X3_18 rfl rfl rfl (by simp) (cX_put (r' := upd (I 3 0) 1 ((I 3 0 1) - g)) (xo_3 _)) ?_
  refine r_aload_n h.ok dX3_takeAway_19 1 rfl ?_
  refine r_dup h.ok dX3_takeAway_20 rfl ?_
  refine r_get (v := .int (I 3 0 4)) h.ok 4 dX3_takeAway_21 (xo_3 _) rfl inX3 (by decide) wfl_X3_30 (congrArg (fun z => some (Value.int z)) (by simp [gr, upd] : (gs I 3 0 1 ((I 3 0 1) - g)) 3 0 4 = I 3 0 4)) ?_
  refine r_iload_n h.ok dX3_takeAway_24 0 rfl ?_
  refine r_iadd h.ok dX3_takeAway_25 ?_
  refine r_put (ty := tyX3) h.ok 4 dX3_takeAway_26 (xo_3 _) rfl inX3 tyX3_ok nmX3 (by decide) wfl_X3_30 rfl rfl rfl (by simp) (cX_put (r' := upd ((gs I 3 0 1 ((I 3 0 1) - g)) 3 0) 4 ((I 3 0 4) + g)) (xo_3 _)) ?_
  refine r_iload_n h.ok dX3_takeAway_29 0 rfl ?_
  refine r_iret h dX3_takeAway_30 ⟨by decide, by decide⟩ ⟨(by subst e_g; unfold bTake_r; rfl), rfl, (by subst e_g; unfold bTake_I; rfl)⟩
noncomputable def bOfKind_r (I : gI) (F : gF) (j : Nat) (m : Int32) : Int32 := (if m = 3 then 1 else (if m = (I 7 j 5) then 1 else (if m = 1 then (if (I 7 j 5) = 2 then 1 else 0) else 0)))
set_option maxHeartbeats 4000000 in
set_option maxRecDepth 100000 in
theorem c_X4_isOfKind (D : va_G) (E : gEc) (ad : gAd) (I : gI) (F : gF) (lc ln : Nat) (j : Nat) (hj : j < ln) (m : Int32) : gCon D E yX4_isOfKind cX4_isOfKind 2 (some .boolean) 0 0 0 [.ref (ad 7 j), .int m] ad (cX E ad I F lc ln) (gPd (some (.int (bOfKind_r I F j m))) ad (cX E ad I F lc ln)) := by
  refine gCon.of (by decide) (Nat.le_of_ble_eq_true rfl) ?_
  intro l A Rn h
  show Rn 0 [(0, .ref (ad 7 j)), (1, .int m)] [] ad (cX E ad I F lc ln) 0 0
  refine r_iload_n h.ok dX4_isOfKind_0 1 rfl ?_
  refine r_iconst (v := 3) h.ok dX4_isOfKind_1 (by decide) ?_
  refine r_icmp_eq h.ok 26 dX4_isOfKind_2 (by decide) (fun c_2 => ?_) (fun c_2 => ?_)
  · refine r_iconst (v := 1) h.ok dX4_isOfKind_26 (by decide) ?_
    refine r_goto h.ok 31 dX4_isOfKind_27 (by decide) ?_
    refine r_zret h dX4_isOfKind_31 ⟨by decide, by decide⟩ (by simp) ⟨(by unfold bOfKind_r; simp only [if_pos c_2]), rfl, rfl⟩
  · refine r_iload_n h.ok dX4_isOfKind_5 1 rfl ?_
    refine r_aload_n h.ok dX4_isOfKind_6 0 rfl ?_
    refine r_get (v := .int (I 7 j 5)) h.ok 5 dX4_isOfKind_7 (xo_7 hj _) rfl inX4 (by decide) wfl_X4_9 rfl ?_
    refine r_icmp_eq h.ok 26 dX4_isOfKind_10 (by decide) (fun c_10 => ?_) (fun c_10 => ?_)
    · refine r_iconst (v := 1) h.ok dX4_isOfKind_26 (by decide) ?_
      refine r_goto h.ok 31 dX4_isOfKind_27 (by decide) ?_
      refine r_zret h dX4_isOfKind_31 ⟨by decide, by decide⟩ (by simp) ⟨(by unfold bOfKind_r; simp only [if_neg c_2, if_pos c_10]), rfl, rfl⟩
    · refine r_iload_n h.ok dX4_isOfKind_13 1 rfl ?_
      refine r_iconst (v := 1) h.ok dX4_isOfKind_14 (by decide) ?_
      refine r_icmp_ne h.ok 30 dX4_isOfKind_15 (by decide) (fun c_15 => ?_) (fun c_15 => ?_)
      · refine r_iconst (v := 0) h.ok dX4_isOfKind_30 (by decide) ?_
        refine r_zret h dX4_isOfKind_31 ⟨by decide, by decide⟩ (by simp) ⟨(by unfold bOfKind_r; simp only [if_neg c_2, if_neg c_10, if_neg c_15]), rfl, rfl⟩
      · refine r_aload_n h.ok dX4_isOfKind_18 0 rfl ?_
        refine r_get (v := .int (I 7 j 5)) h.ok 5 dX4_isOfKind_19 (xo_7 hj _) rfl inX4 (by decide) wfl_X4_9 rfl ?_
        refine r_iconst (v := 2) h.ok dX4_isOfKind_22 (by decide) ?_
        refine r_icmp_ne h.ok 30 dX4_isOfKind_23 (by decide) (fun c_23 => ?_) (fun c_23 => ?_)
        · refine r_iconst (v := 0) h.ok dX4_isOfKind_30 (by decide) ?_
          refine r_zret h dX4_isOfKind_31 ⟨by decide, by decide⟩ (by simp) ⟨(by unfold bOfKind_r; simp only [if_neg c_2, if_neg c_10, if_pos c_15, if_neg c_23]), rfl, rfl⟩
        · refine r_iconst (v := 1) h.ok dX4_isOfKind_26 (by decide) ?_
          refine r_goto h.ok 31 dX4_isOfKind_27 (by decide) ?_
          refine r_zret h dX4_isOfKind_31 ⟨by decide, by decide⟩ (by simp) ⟨(by unfold bOfKind_r; simp only [if_neg c_2, if_neg c_10, if_pos c_15, if_pos c_23]), rfl, rfl⟩
noncomputable def bEndedOn_r (I : gI) (F : gF) (j : Nat) (m : Int32) : Int32 := (if (I 7 j 7) = (-9) then 0 else (if ((I 7 j 7) / 1440) = m then 1 else 0))
set_option maxHeartbeats 4000000 in
set_option maxRecDepth 100000 in
theorem c_X4_endedOn (D : va_G) (E : gEc) (ad : gAd) (I : gI) (F : gF) (lc ln : Nat) (j : Nat) (hj : j < ln) (m : Int32) : gCon D E yX4_endedOn cX4_endedOn 2 (some .boolean) 0 0 0 [.ref (ad 7 j), .int m] ad (cX E ad I F lc ln) (gPd (some (.int (bEndedOn_r I F j m))) ad (cX E ad I F lc ln)) := by
  refine gCon.of (by decide) (Nat.le_of_ble_eq_true rfl) ?_
  intro l A Rn h
  show Rn 0 [(0, .ref (ad 7 j)), (1, .int m)] [] ad (cX E ad I F lc ln) 0 0
  refine r_aload_n h.ok dX4_endedOn_0 0 rfl ?_
  refine r_get (v := .int (I 7 j 7)) h.ok 7 dX4_endedOn_1 (xo_7 hj _) rfl inX4 (by decide) wfl_X4_18 rfl ?_
  refine r_bipush (v := (-9)) h.ok dX4_endedOn_4 (by decide) ?_
  refine r_icmp_eq h.ok 25 dX4_endedOn_6 (by decide) (fun c_6 => ?_) (fun c_6 => ?_)
  · refine r_iconst (v := 0) h.ok dX4_endedOn_25 (by decide) ?_
    refine r_zret h dX4_endedOn_26 ⟨by decide, by decide⟩ (by simp) ⟨(by unfold bEndedOn_r; simp only [if_pos c_6]), rfl, rfl⟩
  · refine r_aload_n h.ok dX4_endedOn_9 0 rfl ?_
    refine r_get (v := .int (I 7 j 7)) h.ok 7 dX4_endedOn_10 (xo_7 hj _) rfl inX4 (by decide) wfl_X4_18 rfl ?_
    refine r_sipush (v := 1440) h.ok dX4_endedOn_13 (by decide) ?_
    refine r_idiv h.ok dX4_endedOn_16 (by decide) ?_
    refine r_iload_n h.ok dX4_endedOn_17 1 rfl ?_
    refine r_icmp_ne h.ok 25 dX4_endedOn_18 (by decide) (fun c_18 => ?_) (fun c_18 => ?_)
    · refine r_iconst (v := 0) h.ok dX4_endedOn_25 (by decide) ?_
      refine r_zret h dX4_endedOn_26 ⟨by decide, by decide⟩ (by simp) ⟨(by unfold bEndedOn_r; simp only [if_neg c_6, if_neg c_18]), rfl, rfl⟩
    · refine r_iconst (v := 1) h.ok dX4_endedOn_21 (by decide) ?_
      refine r_goto h.ok 26 dX4_endedOn_22 (by decide) ?_
      refine r_zret h dX4_endedOn_26 ⟨by decide, by decide⟩ (by simp) ⟨(by unfold bEndedOn_r; simp only [if_neg c_6, if_pos c_18]), rfl, rfl⟩
set_option maxHeartbeats 4000000 in
set_option maxRecDepth 100000 in
theorem c_X5_within (D : va_G) (E : gEc) (ad : gAd) (I : gI) (F : gF) (lc ln : Nat) (x y z : Int32) : gCon D E yX5_within cX5_within 3 (some .boolean) 0 0 0 [.int x, .int y, .int z] ad (cX E ad I F lc ln) (gPd (some (.int (pI (mIn x y z)))) ad (cX E ad I F lc ln)) := by
  refine gCon.of (by decide) (Nat.le_of_ble_eq_true rfl) ?_
  intro l A Rn h
  show Rn 0 [(0, .int x), (1, .int y), (2, .int z)] [] ad (cX E ad I F lc ln) 0 0
  refine r_iload_n h.ok dX5_within_0 0 rfl ?_
  refine r_iload_n h.ok dX5_within_1 1 rfl ?_
  refine r_icmp_lt h.ok 14 dX5_within_2 (by decide) (fun c_2 => ?_) (fun c_2 => ?_)
  · refine r_iconst (v := 0) h.ok dX5_within_14 (by decide) ?_
    refine r_zret h dX5_within_15 ⟨by decide, by decide⟩ (by simp) ⟨by rw [pI_f (show ¬ mIn x y z from fun q => q.1 c_2)], rfl, rfl⟩
  · refine r_iload_n h.ok dX5_within_5 0 rfl ?_
    refine r_iload_n h.ok dX5_within_6 2 rfl ?_
    refine r_icmp_gt h.ok 14 dX5_within_7 (by decide) (fun c_7 => ?_) (fun c_7 => ?_)
    · refine r_iconst (v := 0) h.ok dX5_within_14 (by decide) ?_
      refine r_zret h dX5_within_15 ⟨by decide, by decide⟩ (by simp) ⟨by rw [pI_f (show ¬ mIn x y z from fun q => q.2 c_7)], rfl, rfl⟩
    · refine r_iconst (v := 1) h.ok dX5_within_10 (by decide) ?_
      refine r_goto h.ok 15 dX5_within_11 (by decide) ?_
      refine r_zret h dX5_within_15 ⟨by decide, by decide⟩ (by simp) ⟨by rw [pI_t (show mIn x y z from ⟨c_2, c_7⟩)], rfl, rfl⟩
noncomputable def bNum_r (I : gI) (F : gF) (x : Int32) : Int32 := (if x = 0 then 0 else 1)
set_option maxHeartbeats 4000000 in
set_option maxRecDepth 100000 in
theorem c_X5_asNumber (D : va_G) (E : gEc) (ad : gAd) (I : gI) (F : gF) (lc ln : Nat) (x : Int32) : gCon D E yX5_asNumber cX5_asNumber 1 (some .int) 0 0 0 [.int x] ad (cX E ad I F lc ln) (gPd (some (.int (bNum_r I F x))) ad (cX E ad I F lc ln)) := by
  refine gCon.of (by decide) (Nat.le_of_ble_eq_true rfl) ?_
  intro l A Rn h
  show Rn 0 [(0, .int x)] [] ad (cX E ad I F lc ln) 0 0
  refine r_iload_n h.ok dX5_asNumber_0 0 rfl ?_
  refine r_if_eq h.ok 8 dX5_asNumber_1 (by decide) (fun c_1 => ?_) (fun c_1 => ?_)
  · refine r_iconst (v := 0) h.ok dX5_asNumber_8 (by decide) ?_
    refine r_iret h dX5_asNumber_9 ⟨by decide, by decide⟩ ⟨(by unfold bNum_r; simp only [if_pos c_1]), rfl, rfl⟩
  · refine r_iconst (v := 1) h.ok dX5_asNumber_4 (by decide) ?_
    refine r_goto h.ok 9 dX5_asNumber_5 (by decide) ?_
    refine r_iret h dX5_asNumber_9 ⟨by decide, by decide⟩ ⟨(by unfold bNum_r; simp only [if_neg c_1]), rfl, rfl⟩
noncomputable def bTell_r (I : gI) (F : gF) (j : Nat) (m : Int32) : Int32 := (if m = 0 then I 7 j 5 else (if m = 1 then I 7 j 0 else (if m = 2 then I 7 j 2 else (if m = 3 then I 7 j 3 else (if m = 4 then bNum_r I F (I 7 j 4) else (if m = 5 then I 7 j 6 else (if m = 6 then I 7 j 7 else (if m = 7 then I 7 j 8 else (if m = 8 then I 7 j 9 else (if m = 9 then I 7 j 10 else I 7 j 11))))))))))
set_option maxHeartbeats 4000000 in
set_option maxRecDepth 100000 in
theorem c_X4_tell (D : va_G) (E : gEc) (ad : gAd) (I : gI) (F : gF) (lc ln : Nat) (j : Nat) (hj : j < ln) (m : Int32) : gCon D E yX4_tell cX4_tell 2 (some .int) 1 0 0 [.ref (ad 7 j), .int m] ad (cX E ad I F lc ln) (gPd (some (.int (bTell_r I F j m))) ad (cX E ad I F lc ln)) := by
  refine gCon.of (by decide) (Nat.le_of_ble_eq_true rfl) ?_
  intro l A Rn h
  show Rn 0 [(0, .ref (ad 7 j)), (1, .int m)] [] ad (cX E ad I F lc ln) 0 0
  refine r_iload_n h.ok dX4_tell_0 1 rfl ?_
  by_cases s_0 : m = 0
  · refine r_tableIn (off := 55) h.ok 56 dX4_tell_1 (by rw [s_0]; decide) (by rw [s_0]; decide) (by rw [s_0]; rfl) (by decide) ?_
    refine r_aload_n h.ok dX4_tell_56 0 rfl ?_
    refine r_get (v := .int (I 7 j 5)) h.ok 5 dX4_tell_57 (xo_7 hj _) rfl inX4 (by decide) wfl_X4_9 rfl ?_
    refine r_iret h dX4_tell_60 ⟨by decide, by decide⟩ ⟨(by unfold bTell_r; simp only [if_pos s_0]), rfl, rfl⟩
  by_cases s_1 : m = 1
  · refine r_tableIn (off := 60) h.ok 61 dX4_tell_1 (by rw [s_1]; decide) (by rw [s_1]; decide) (by rw [s_1]; rfl) (by decide) ?_
    refine r_aload_n h.ok dX4_tell_61 0 rfl ?_
    refine r_get (v := .int (I 7 j 0)) h.ok 0 dX4_tell_62 (xo_7 hj _) rfl inX4 (by decide) wfl_X4_33 rfl ?_
    refine r_iret h dX4_tell_65 ⟨by decide, by decide⟩ ⟨(by unfold bTell_r; simp only [if_neg s_0, if_pos s_1]), rfl, rfl⟩
  by_cases s_2 : m = 2
  · refine r_tableIn (off := 65) h.ok 66 dX4_tell_1 (by rw [s_2]; decide) (by rw [s_2]; decide) (by rw [s_2]; rfl) (by decide) ?_
    refine r_aload_n h.ok dX4_tell_66 0 rfl ?_
    refine r_get (v := .int (I 7 j 2)) h.ok 2 dX4_tell_67 (xo_7 hj _) rfl inX4 (by decide) wfl_X4_40 rfl ?_
    refine r_iret h dX4_tell_70 ⟨by decide, by decide⟩ ⟨(by unfold bTell_r; simp only [if_neg s_0, if_neg s_1, if_pos s_2]), rfl, rfl⟩
  by_cases s_3 : m = 3
  · refine r_tableIn (off := 70) h.ok 71 dX4_tell_1 (by rw [s_3]; decide) (by rw [s_3]; decide) (by rw [s_3]; rfl) (by decide) ?_
    refine r_aload_n h.ok dX4_tell_71 0 rfl ?_
    refine r_get (v := .int (I 7 j 3)) h.ok 3 dX4_tell_72 (xo_7 hj _) rfl inX4 (by decide) wfl_X4_43 rfl ?_
    refine r_iret h dX4_tell_75 ⟨by decide, by decide⟩ ⟨(by unfold bTell_r; simp only [if_neg s_0, if_neg s_1, if_neg s_2, if_pos s_3]), rfl, rfl⟩
  by_cases s_4 : m = 4
  · refine r_tableIn (off := 75) h.ok 76 dX4_tell_1 (by rw [s_4]; decide) (by rw [s_4]; decide) (by rw [s_4]; rfl) (by decide) ?_
    refine r_aload_n h.ok dX4_tell_76 0 rfl ?_
    refine r_get (v := .int (I 7 j 4)) h.ok 4 dX4_tell_77 (xo_7 hj _) rfl inX4 (by decide) wfl_X4_46 rfl ?_
    refine r_callSN h.ok [.int (I 7 j 4)] [] dX4_tell_80 (c_X5_asNumber D E ad I F lc ln (I 7 j 4)) (fun _ hn => hn.2.2.2) wst_X5_asNumber win_X5 wco_X5_asNumber yok_X5_asNumber ⟨by decide, by decide, by simp [gRm], by simp [gRm]⟩ (Nat.le_of_ble_eq_true rfl) rfl ?_
    show Rn 83 [(0, .ref (ad 7 j)), (1, .int m)] [.int (bNum_r I F (I 7 j 4))] ad (cX E ad I F lc ln) 0 0
    refine r_iret h dX4_tell_83 ⟨by decide, by decide⟩ ⟨(by unfold bTell_r; simp only [if_neg s_0, if_neg s_1, if_neg s_2, if_neg s_3, if_pos s_4]), rfl, rfl⟩
  by_cases s_5 : m = 5
  · refine r_tableIn (off := 83) h.ok 84 dX4_tell_1 (by rw [s_5]; decide) (by rw [s_5]; decide) (by rw [s_5]; rfl) (by decide) ?_
    refine r_aload_n h.ok dX4_tell_84 0 rfl ?_
    refine r_get (v := .int (I 7 j 6)) h.ok 6 dX4_tell_85 (xo_7 hj _) rfl inX4 (by decide) wfl_X4_15 rfl ?_
    refine r_iret h dX4_tell_88 ⟨by decide, by decide⟩ ⟨(by unfold bTell_r; simp only [if_neg s_0, if_neg s_1, if_neg s_2, if_neg s_3, if_neg s_4, if_pos s_5]), rfl, rfl⟩
  by_cases s_6 : m = 6
  · refine r_tableIn (off := 88) h.ok 89 dX4_tell_1 (by rw [s_6]; decide) (by rw [s_6]; decide) (by rw [s_6]; rfl) (by decide) ?_
    refine r_aload_n h.ok dX4_tell_89 0 rfl ?_
    refine r_get (v := .int (I 7 j 7)) h.ok 7 dX4_tell_90 (xo_7 hj _) rfl inX4 (by decide) wfl_X4_18 rfl ?_
    refine r_iret h dX4_tell_93 ⟨by decide, by decide⟩ ⟨(by unfold bTell_r; simp only [if_neg s_0, if_neg s_1, if_neg s_2, if_neg s_3, if_neg s_4, if_neg s_5, if_pos s_6]), rfl, rfl⟩
  by_cases s_7 : m = 7
  · refine r_tableIn (off := 93) h.ok 94 dX4_tell_1 (by rw [s_7]; decide) (by rw [s_7]; decide) (by rw [s_7]; rfl) (by decide) ?_
    refine r_aload_n h.ok dX4_tell_94 0 rfl ?_
    refine r_get (v := .int (I 7 j 8)) h.ok 8 dX4_tell_95 (xo_7 hj _) rfl inX4 (by decide) wfl_X4_21 rfl ?_
    refine r_iret h dX4_tell_98 ⟨by decide, by decide⟩ ⟨(by unfold bTell_r; simp only [if_neg s_0, if_neg s_1, if_neg s_2, if_neg s_3, if_neg s_4, if_neg s_5, if_neg s_6, if_pos s_7]), rfl, rfl⟩
  by_cases s_8 : m = 8
  · refine r_tableIn (off := 98) h.ok 99 dX4_tell_1 (by rw [s_8]; decide) (by rw [s_8]; decide) (by rw [s_8]; rfl) (by decide) ?_
    refine r_aload_n h.ok dX4_tell_99 0 rfl ?_
    refine r_get (v := .int (I 7 j 9)) h.ok 9 dX4_tell_100 (xo_7 hj _) rfl inX4 (by decide) wfl_X4_24 rfl ?_
    refine r_iret h dX4_tell_103 ⟨by decide, by decide⟩ ⟨(by unfold bTell_r; simp only [if_neg s_0, if_neg s_1, if_neg s_2, if_neg s_3, if_neg s_4, if_neg s_5, if_neg s_6, if_neg s_7, if_pos s_8]), rfl, rfl⟩
  by_cases s_9 : m = 9
  · refine r_tableIn (off := 103) h.ok 104 dX4_tell_1 (by rw [s_9]; decide) (by rw [s_9]; decide) (by rw [s_9]; rfl) (by decide) ?_
    refine r_aload_n h.ok dX4_tell_104 0 rfl ?_
    refine r_get (v := .int (I 7 j 10)) h.ok 10 dX4_tell_105 (xo_7 hj _) rfl inX4 (by decide) wfl_X4_27 rfl ?_
    refine r_iret h dX4_tell_108 ⟨by decide, by decide⟩ ⟨(by unfold bTell_r; simp only [if_neg s_0, if_neg s_1, if_neg s_2, if_neg s_3, if_neg s_4, if_neg s_5, if_neg s_6, if_neg s_7, if_neg s_8, if_pos s_9]), rfl, rfl⟩
  refine r_tableOut h.ok 109 dX4_tell_1 (gOut9 s_0 s_1 s_2 s_3 s_4 s_5 s_6 s_7 s_8 s_9) (by decide) ?_
  refine r_aload_n h.ok dX4_tell_109 0 rfl ?_
  refine r_get (v := .int (I 7 j 11)) h.ok 11 dX4_tell_110 (xo_7 hj _) rfl inX4 (by decide) wfl_X4_30 rfl ?_
  refine r_iret h dX4_tell_113 ⟨by decide, by decide⟩ ⟨(by unfold bTell_r; simp only [if_neg s_0, if_neg s_1, if_neg s_2, if_neg s_3, if_neg s_4, if_neg s_5, if_neg s_6, if_neg s_7, if_neg s_8, if_neg s_9]), rfl, rfl⟩
noncomputable def bBusy_r (I : gI) (F : gF)  : Int32 := (if F 1 0 = none then 0 else 1)
set_option maxHeartbeats 4000000 in
set_option maxRecDepth 100000 in
theorem c_X0_isBusy (D : va_G) (E : gEc) (ad : gAd) (I : gI) (F : gF) (lc ln : Nat) (hbv : ¬ F 1 0 = none → F 1 0 = some (bv F) ∧ bv F < ln) : gCon D E yX0_isBusy cX0_isBusy 1 (some .boolean) 0 0 0 [.ref (ad 2 0)] ad (cX E ad I F lc ln) (gPd (some (.int (bBusy_r I F ))) ad (cX E ad I F lc ln)) := by
  refine gCon.of (by decide) (Nat.le_of_ble_eq_true rfl) ?_
  intro l A Rn h
  show Rn 0 [(0, .ref (ad 2 0))] [] ad (cX E ad I F lc ln) 0 0
  refine r_aload_n h.ok dX0_isBusy_0 0 rfl ?_
  by_cases c_1 : F 1 0 = none
  · refine r_get (v := .null) h.ok 0 dX0_isBusy_1 (xo_2 _) rfl inX0 (by decide) wfl_X0_9 (by simp [c_1, va_rf, gf]) ?_
    refine r_ifnullN h.ok 11 dX0_isBusy_4 (by decide) ?_
    refine r_iconst (v := 0) h.ok dX0_isBusy_11 (by decide) ?_
    refine r_zret h dX0_isBusy_12 ⟨by decide, by decide⟩ (by simp) ⟨(by unfold bBusy_r; simp only [if_pos c_1]), rfl, rfl⟩
  · refine r_get (v := .ref (ad 7 (bv F))) h.ok 0 dX0_isBusy_1 (xo_2 _) rfl inX0 (by decide) wfl_X0_9 (by simp [(hbv c_1).1, va_rf, gf]) ?_
    refine r_ifnull h.ok dX0_isBusy_4 ?_
    refine r_iconst (v := 1) h.ok dX0_isBusy_7 (by decide) ?_
    refine r_goto h.ok 12 dX0_isBusy_8 (by decide) ?_
    refine r_zret h dX0_isBusy_12 ⟨by decide, by decide⟩ (by simp) ⟨(by unfold bBusy_r; simp only [if_neg c_1]), rfl, rfl⟩
noncomputable def bHolds_r (I : gI) (F : gF) (c : Int32) : Int32 := (if F 1 0 = none then 0 else (if (I 7 (bv F) 0) = c then 1 else 0))
set_option maxHeartbeats 4000000 in
set_option maxRecDepth 100000 in
theorem c_X0_holds (D : va_G) (E : gEc) (ad : gAd) (I : gI) (F : gF) (lc ln : Nat) (hbv : ¬ F 1 0 = none → F 1 0 = some (bv F) ∧ bv F < ln) (c : Int32) : gCon D E yX0_holds cX0_holds 3 (some .boolean) 0 0 0 [.ref (ad 2 0), .int c] ad (cX E ad I F lc ln) (gPd (some (.int (bHolds_r I F c))) ad (cX E ad I F lc ln)) := by
  refine gCon.of (by decide) (Nat.le_of_ble_eq_true rfl) ?_
  intro l A Rn h
  show Rn 0 [(0, .ref (ad 2 0)), (1, .int c)] [] ad (cX E ad I F lc ln) 0 0
  refine r_aload_n h.ok dX0_holds_0 0 rfl ?_
  by_cases c_1 : F 1 0 = none
  · refine r_get (v := .null) h.ok 0 dX0_holds_1 (xo_2 _) rfl inX0 (by decide) wfl_X0_9 (by simp [c_1, va_rf, gf]) ?_
    refine r_astore_nN (lv' := [(2, .null), (0, .ref (ad 2 0)), (1, .int c)]) h.ok dX0_holds_4 (by decide) rfl ?_
    refine r_aload_nN h.ok dX0_holds_5 0 rfl ?_
    refine r_ifnullN h.ok 21 dX0_holds_6 (by decide) ?_
    refine r_iconst (v := 0) h.ok dX0_holds_21 (by decide) ?_
    refine r_zret h dX0_holds_22 ⟨by decide, by decide⟩ (by simp) ⟨(by unfold bHolds_r; simp only [if_pos c_1]), rfl, rfl⟩
  · refine r_get (v := .ref (ad 7 (bv F))) h.ok 0 dX0_holds_1 (xo_2 _) rfl inX0 (by decide) wfl_X0_9 (by simp [(hbv c_1).1, va_rf, gf]) ?_
    refine r_astore_n (lv' := [(2, .ref (ad 7 (bv F))), (0, .ref (ad 2 0)), (1, .int c)]) h.ok dX0_holds_4 (by decide) rfl ?_
    refine r_aload_n h.ok dX0_holds_5 0 rfl ?_
    refine r_ifnull h.ok dX0_holds_6 ?_
    refine r_aload_n h.ok dX0_holds_9 0 rfl ?_
    refine r_get (v := .int (I 7 (bv F) 0)) h.ok 0 dX0_holds_10 (xo_7 (hbv c_1).2 _) rfl inX4 (by decide) wfl_X0_15 rfl ?_
    refine r_iload_n h.ok dX0_holds_13 2 rfl ?_
    refine r_icmp_ne h.ok 21 dX0_holds_14 (by decide) (fun c_14 => ?_) (fun c_14 => ?_)
    · refine r_iconst (v := 0) h.ok dX0_holds_21 (by decide) ?_
      refine r_zret h dX0_holds_22 ⟨by decide, by decide⟩ (by simp) ⟨(by unfold bHolds_r; simp only [if_neg c_1, if_neg c_14]), rfl, rfl⟩
    · refine r_iconst (v := 1) h.ok dX0_holds_17 (by decide) ?_
      refine r_goto h.ok 22 dX0_holds_18 (by decide) ?_
      refine r_zret h dX0_holds_22 ⟨by decide, by decide⟩ (by simp) ⟨(by unfold bHolds_r; simp only [if_neg c_1, if_pos c_14]), rfl, rfl⟩
noncomputable def bMilkedBy_r (I : gI) (F : gF) (m : Int32) : Int32 := if (20 * (if 0 < (m - (I 2 0 3)) then m - (I 2 0 3) else 0)) < (I 2 0 2) then 20 * (if 0 < (m - (I 2 0 3)) then m - (I 2 0 3) else 0) else I 2 0 2
set_option maxHeartbeats 4000000 in
set_option maxRecDepth 100000 in
theorem c_X0_milkedBy (D : va_G) (E : gEc) (ad : gAd) (I : gI) (F : gF) (lc ln : Nat) (m : Int32) : gCon D E yX0_milkedBy cX0_milkedBy 2 (some .int) 1 0 0 [.ref (ad 2 0), .int m] ad (cX E ad I F lc ln) (gPd (some (.int (bMilkedBy_r I F m))) ad (cX E ad I F lc ln)) := by
  refine gCon.of (by decide) (Nat.le_of_ble_eq_true rfl) ?_
  intro l A Rn h
  show Rn 0 [(0, .ref (ad 2 0)), (1, .int m)] [] ad (cX E ad I F lc ln) 0 0
  refine r_aload_n h.ok dX0_milkedBy_0 0 rfl ?_
  refine r_get (v := .int (I 2 0 2)) h.ok 2 dX0_milkedBy_1 (xo_2 _) rfl inX0 (by decide) wfl_X0_30 rfl ?_
  refine r_bipush (v := 20) h.ok dX0_milkedBy_4 (by decide) ?_
  refine r_iconst (v := 0) h.ok dX0_milkedBy_6 (by decide) ?_
  refine r_iload_n h.ok dX0_milkedBy_7 1 rfl ?_
  refine r_aload_n h.ok dX0_milkedBy_8 0 rfl ?_
  refine r_get (v := .int (I 2 0 3)) h.ok 3 dX0_milkedBy_9 (xo_2 _) rfl inX0 (by decide) wfl_X0_33 rfl ?_
  refine r_isub h.ok dX0_milkedBy_12 ?_
  refine r_mmax h.ok dX0_milkedBy_13 wml_X0_58 ⟨by decide, Nat.le_of_ble_eq_true rfl, by decide, by decide⟩ ?_
  refine r_topi (fun g e_g => ?_)
  refine r_imul h.ok dX0_milkedBy_16 ?_
  refine r_mmin h.ok dX0_milkedBy_17 wml_X0_40 ⟨by decide, Nat.le_of_ble_eq_true rfl, by decide, by decide⟩ ?_
  refine r_iret h dX0_milkedBy_20 ⟨by decide, by decide⟩ ⟨(by subst e_g; unfold bMilkedBy_r; rfl), rfl, rfl⟩
noncomputable def bTeat_r (I : gI) (F : gF) (m : Int32) : Int32 := (if m = 0 then ((I 2 0 1) / 4) + ((I 2 0 1) - (I 2 0 1) / 4 * 4) else (I 2 0 1) / 4)
set_option maxHeartbeats 4000000 in
set_option maxRecDepth 100000 in
theorem c_X0_milkOfTeat (D : va_G) (E : gEc) (ad : gAd) (I : gI) (F : gF) (lc ln : Nat) (m : Int32) : gCon D E yX0_milkOfTeat cX0_milkOfTeat 3 (some .int) 0 0 0 [.ref (ad 2 0), .int m] ad (cX E ad I F lc ln) (gPd (some (.int (bTeat_r I F m))) ad (cX E ad I F lc ln)) := by
  refine gCon.of (by decide) (Nat.le_of_ble_eq_true rfl) ?_
  intro l A Rn h
  show Rn 0 [(0, .ref (ad 2 0)), (1, .int m)] [] ad (cX E ad I F lc ln) 0 0
  refine r_aload_n h.ok dX0_milkOfTeat_0 0 rfl ?_
  refine r_get (v := .int (I 2 0 1)) h.ok 1 dX0_milkOfTeat_1 (xo_2 _) rfl inX0 (by decide) wfl_X0_27 rfl ?_
  refine r_iconst (v := 4) h.ok dX0_milkOfTeat_4 (by decide) ?_
  refine r_idiv h.ok dX0_milkOfTeat_5 (by decide) ?_
  refine r_istore_n (lv' := [(2, .int ((I 2 0 1) / 4)), (0, .ref (ad 2 0)), (1, .int m)]) h.ok dX0_milkOfTeat_6 (by decide) rfl ?_
  refine r_iload_n h.ok dX0_milkOfTeat_7 2 rfl ?_
  refine r_if_ne h.ok 22 dX0_milkOfTeat_8 (by decide) (fun c_8 => ?_) (fun c_8 => ?_)
  · refine r_iload_n h.ok dX0_milkOfTeat_22 0 rfl ?_
    refine r_iret h dX0_milkOfTeat_23 ⟨by decide, by decide⟩ ⟨(by unfold bTeat_r; simp only [if_neg c_8]), rfl, rfl⟩
  · refine r_iload_n h.ok dX0_milkOfTeat_11 0 rfl ?_
    refine r_aload_n h.ok dX0_milkOfTeat_12 1 rfl ?_
    refine r_get (v := .int (I 2 0 1)) h.ok 1 dX0_milkOfTeat_13 (xo_2 _) rfl inX0 (by decide) wfl_X0_27 rfl ?_
    refine r_iconst (v := 4) h.ok dX0_milkOfTeat_16 (by decide) ?_
    refine r_irem h.ok dX0_milkOfTeat_17 (by decide) ?_
    refine r_iadd h.ok dX0_milkOfTeat_18 ?_
    refine r_goto h.ok 23 dX0_milkOfTeat_19 (by decide) ?_
    refine r_iret h dX0_milkOfTeat_23 ⟨by decide, by decide⟩ ⟨(by unfold bTeat_r; simp only [if_pos c_8]), rfl, rfl⟩
end
section
/-- what the class needs of itself to run -/
def CI (I : gI) (F : gF) (lc ln nc nv nw : Nat) : Prop := I 0 0 5 = nI nc ∧ nc ≤ 12 ∧ nc ≤ lc ∧ (∀ j : Nat, j < nc → F 2 j = some j) ∧ I 0 0 6 = nI nv ∧ nv ≤ 500 ∧ nv ≤ ln ∧ (∀ j : Nat, j < nv → F 3 j = some j) ∧ I 1 0 1 = nI nw ∧ nw ≤ 12 ∧ (∀ j : Nat, j < nw → F 0 j = some (qv F j) ∧ qv F j < nv) ∧ (¬ F 1 0 = none → F 1 0 = some (bv F) ∧ bv F < nv) ∧ (∀ v : Nat, v < nv → vp_in (I 7 v 0) nc)
theorem CI.hbv {I : gI} {F : gF} {lc ln nc nv nw : Nat} (h : CI I F lc ln nc nv nw) : ¬ F 1 0 = none → F 1 0 = some (bv F) ∧ bv F < ln := fun q => by
  obtain ⟨kn, k12, klc, kf2, kv, k500, kln, kf3, kw, kw12, kq, kb, kc⟩ := h
  exact ⟨(kb q).1, Nat.lt_of_lt_of_le (kb q).2 kln⟩
theorem in_mIn {w x : Int32} {n : Nat} (hw : w = nI n) (hn : n ≤ 1000) (h : vp_in x n) : mIn x 0 (w - 1) := by
  rw [vp_in_iff] at h
  have e1 : (nI n - 1).toInt = (n : Int) - 1 := pk_sub_toInt (a := n) (b := 1) (by omega) (by decide)
  have e0 : (0 : Int32).toInt = 0 := by decide
  refine ⟨?_, ?_⟩
  · rw [Int32.lt_iff_toInt_lt, e0]; omega
  · rw [hw, Int32.lt_iff_toInt_lt, e1]; omega
theorem j_nle {x : Int32} {j n : Nat} (hx : x = nI j) (hj : j < n) (hn : n < 2 ^ 31) : ¬ nI n ≤ x := by
  rw [hx, nI_leI hn (by omega)]
  omega
theorem gSt_mono {P : Nat → Prop} {a : Nat} : ∀ {w j : Nat}, gSt P j = some a → j ≤ w → gSt P w = some a
  | 0, j, h, hj => by rw [show j = 0 by omega] at h; exact h
  | w + 1, j, h, hj => by
    by_cases q : j = w + 1
    · rw [← q]; exact h
    · exact gSt_keep (gSt_mono h (by omega))
def bCowAt (I : gI) (F : gF) (c : Int32) (j : Nat) : Prop := I 7 (qv F j) 0 = c
noncomputable def bPlace (I : gI) (F : gF) (nw : Nat) (c : Int32) : Int32 := gFind (bCowAt I F c) (nw - 0) 0
def bShy (I : gI) (F : gF) (m : Int32) (j : Nat) : Prop := ¬ I 7 (qv F j) 1 = 0 ∧ ¬ m - I 7 (qv F j) 2 < 30
noncomputable def bCh (I : gI) (F : gF) (nw : Nat) (m : Int32) : Nat := (gSt (bShy I F m) nw).getD 0
def gSh (F : gF) (a w : Nat) : gF := fun k i => if k = 0 ∧ a ≤ i ∧ i < w then F 0 (i + 1) else F k i
theorem gSh_0 (F : gF) (a : Nat) : gSh F a a = F := by
  funext k i
  unfold gSh
  rw [if_neg (by omega)]
theorem gSh_step {F : gF} {a j v : Nat} (ha : a ≤ j) (hv : F 0 (j + 1) = some v) : gf (gSh F a j) 0 j (some v) = gSh F a (j + 1) := by
  funext k i
  unfold gf gSh
  by_cases h : k = 0 ∧ i = j
  · obtain ⟨rfl, rfl⟩ := h
    rw [if_pos ⟨rfl, rfl⟩, if_pos (by omega), hv]
  · rw [if_neg h]
    by_cases h1 : k = 0 ∧ a ≤ i ∧ i < j
    · rw [if_pos h1, if_pos (by omega)]
    · rw [if_neg h1, if_neg (by omega)]
set_option maxHeartbeats 4000000 in
set_option maxRecDepth 100000 in
theorem c_X5_cowAt_s (D : va_G) (E : gEc) (ad : gAd) (I : gI) (F : gF) (lc ln : Nat) (nc nv nw : Nat) (hC : CI I F lc ln nc nv nw) (c : Int32) (j : Nat) (hx : c = nI j) (hj : j < nc) : gCon D E yX5_cowAt cX5_cowAt 2 (some (.object "MilkBox$Cow")) 1 0 0 [.ref (ad 0 0), .int c] ad (cX E ad I F lc ln) (gPd (some (.ref (ad 4 j))) ad (cX E ad I F lc ln)) := by
  refine gCon.of (by decide) (Nat.le_of_ble_eq_true rfl) ?_
  intro l A Rn h
  obtain ⟨kn, k12, klc, kf2, kv, k500, kln, kf3, kw, kw12, kq, kb, kc⟩ := hC
  show Rn 0 [(0, .ref (ad 0 0)), (1, .int c)] [] ad (cX E ad I F lc ln) 0 0
  refine r_iload_n h.ok dX5_cowAt_0 1 rfl ?_
  refine r_iconst (v := 0) h.ok dX5_cowAt_1 (by decide) ?_
  refine r_aload_n h.ok dX5_cowAt_2 0 rfl ?_
  refine r_get (v := .int (I 0 0 5)) h.ok 5 dX5_cowAt_3 (xo_0 _) rfl inX5 (by decide) wfl_X5_50 rfl ?_
  refine r_iconst (v := 1) h.ok dX5_cowAt_6 (by decide) ?_
  refine r_isub h.ok dX5_cowAt_7 ?_
  refine r_callS h.ok [.int c, .int 0, .int ((I 0 0 5) - 1)] [] dX5_cowAt_8 (c_X5_within D E ad I F lc ln c 0 ((I 0 0 5) - 1)) wml_X5_46 wst_X5_within win_X5 wco_X5_within yok_X5_within ⟨by decide, by decide, by simp [gRm], by simp [gRm]⟩ (Nat.le_of_ble_eq_true rfl) rfl ?_
  show Rn 11 [(0, .ref (ad 0 0)), (1, .int c)] [.int (pI (mIn c 0 ((I 0 0 5) - 1)))] ad (cX E ad I F lc ln) 0 0
  refine r_if_eq h.ok 32 dX5_cowAt_11 (by decide) (fun q => absurd q (pI_n0.mpr (in_mIn kn (by omega) (by rw [hx]; exact vp_in_nI hj (by omega))))) (fun _ => ?_)
  refine r_iload_n h.ok dX5_cowAt_14 1 rfl ?_
  refine r_aload_n h.ok dX5_cowAt_15 0 rfl ?_
  refine r_get h.ok 0 dX5_cowAt_16 (xo_0 _) rfl inX5 (by decide) wfl_X5_11 rfl ?_
  refine r_alen (t0 := 2) (v := 12) h.ok dX5_cowAt_19 (xo_8 _) rfl (show Int32.ofNat 12 = 12 by decide) ?_
  refine r_icmp_ge h.ok 32 dX5_cowAt_20 (by decide) (fun q => absurd q (fun q => j_nle hx (Nat.lt_of_lt_of_le hj k12) (by decide) (by rw [show nI 12 = 12 by decide]; exact q))) (fun _ => ?_)
  refine r_aload_n h.ok dX5_cowAt_23 0 rfl ?_
  refine r_get h.ok 0 dX5_cowAt_24 (xo_0 _) rfl inX5 (by decide) wfl_X5_11 rfl ?_
  refine r_iload_n h.ok dX5_cowAt_27 1 rfl ?_
  refine r_aaldv (v := .ref (ad 4 j)) (t0 := 2) h.ok dX5_cowAt_28 (xo_8 _) rfl (by rw [hx]; exact vp_in_nI (Nat.lt_of_lt_of_le hj k12) (by decide)) (by simp [show F 2 c.toNatClampNeg = some j by rw [hx, nI_clamp (by omega)]; exact kf2 j hj, va_rf]) ?_
  refine r_goto h.ok 33 dX5_cowAt_29 (by decide) ?_
  refine r_aret h dX5_cowAt_33 ⟨by decide, by decide⟩ (Or.inr ⟨_, rfl⟩) ⟨rfl, rfl, rfl⟩
set_option maxHeartbeats 4000000 in
set_option maxRecDepth 100000 in
theorem c_X5_cowAt_n (D : va_G) (E : gEc) (ad : gAd) (I : gI) (F : gF) (lc ln : Nat) (nc nv nw : Nat) (hC : CI I F lc ln nc nv nw) (c : Int32) (hv : ¬ vp_in c nc) : gCon D E yX5_cowAt cX5_cowAt 2 (some (.object "MilkBox$Cow")) 1 0 0 [.ref (ad 0 0), .int c] ad (cX E ad I F lc ln) (gPd (some (.null)) ad (cX E ad I F lc ln)) := by
  refine gCon.of (by decide) (Nat.le_of_ble_eq_true rfl) ?_
  intro l A Rn h
  obtain ⟨kn, k12, klc, kf2, kv, k500, kln, kf3, kw, kw12, kq, kb, kc⟩ := hC
  show Rn 0 [(0, .ref (ad 0 0)), (1, .int c)] [] ad (cX E ad I F lc ln) 0 0
  refine r_iload_n h.ok dX5_cowAt_0 1 rfl ?_
  refine r_iconst (v := 0) h.ok dX5_cowAt_1 (by decide) ?_
  refine r_aload_n h.ok dX5_cowAt_2 0 rfl ?_
  refine r_get (v := .int (I 0 0 5)) h.ok 5 dX5_cowAt_3 (xo_0 _) rfl inX5 (by decide) wfl_X5_50 rfl ?_
  refine r_iconst (v := 1) h.ok dX5_cowAt_6 (by decide) ?_
  refine r_isub h.ok dX5_cowAt_7 ?_
  refine r_callS h.ok [.int c, .int 0, .int ((I 0 0 5) - 1)] [] dX5_cowAt_8 (c_X5_within D E ad I F lc ln c 0 ((I 0 0 5) - 1)) wml_X5_46 wst_X5_within win_X5 wco_X5_within yok_X5_within ⟨by decide, by decide, by simp [gRm], by simp [gRm]⟩ (Nat.le_of_ble_eq_true rfl) rfl ?_
  show Rn 11 [(0, .ref (ad 0 0)), (1, .int c)] [.int (pI (mIn c 0 ((I 0 0 5) - 1)))] ad (cX E ad I F lc ln) 0 0
  refine r_if_eq h.ok 32 dX5_cowAt_11 (by decide) (fun _ => ?_) (fun q => absurd q (fun z => z (pI_f (fun m => hv (mIn_in kn (by omega) m)))))
  refine r_null h.ok dX5_cowAt_32 ?_
  refine r_aret h dX5_cowAt_33 ⟨by decide, by decide⟩ (Or.inl rfl) ⟨rfl, rfl, rfl⟩
set_option maxHeartbeats 4000000 in
set_option maxRecDepth 100000 in
theorem c_X5_visitAt_s (D : va_G) (E : gEc) (ad : gAd) (I : gI) (F : gF) (lc ln : Nat) (nc nv nw : Nat) (hC : CI I F lc ln nc nv nw) (c : Int32) (j : Nat) (hx : c = nI j) (hj : j < nv) : gCon D E yX5_visitAt cX5_visitAt 2 (some (.object "MilkBox$Visit")) 1 0 0 [.ref (ad 0 0), .int c] ad (cX E ad I F lc ln) (gPd (some (.ref (ad 7 j))) ad (cX E ad I F lc ln)) := by
  refine gCon.of (by decide) (Nat.le_of_ble_eq_true rfl) ?_
  intro l A Rn h
  obtain ⟨kn, k12, klc, kf2, kv, k500, kln, kf3, kw, kw12, kq, kb, kc⟩ := hC
  show Rn 0 [(0, .ref (ad 0 0)), (1, .int c)] [] ad (cX E ad I F lc ln) 0 0
  refine r_iload_n h.ok dX5_visitAt_0 1 rfl ?_
  refine r_iconst (v := 0) h.ok dX5_visitAt_1 (by decide) ?_
  refine r_aload_n h.ok dX5_visitAt_2 0 rfl ?_
  refine r_get (v := .int (I 0 0 6)) h.ok 6 dX5_visitAt_3 (xo_0 _) rfl inX5 (by decide) wfl_X5_129 rfl ?_
  refine r_iconst (v := 1) h.ok dX5_visitAt_6 (by decide) ?_
  refine r_isub h.ok dX5_visitAt_7 ?_
  refine r_callS h.ok [.int c, .int 0, .int ((I 0 0 6) - 1)] [] dX5_visitAt_8 (c_X5_within D E ad I F lc ln c 0 ((I 0 0 6) - 1)) wml_X5_46 wst_X5_within win_X5 wco_X5_within yok_X5_within ⟨by decide, by decide, by simp [gRm], by simp [gRm]⟩ (Nat.le_of_ble_eq_true rfl) rfl ?_
  show Rn 11 [(0, .ref (ad 0 0)), (1, .int c)] [.int (pI (mIn c 0 ((I 0 0 6) - 1)))] ad (cX E ad I F lc ln) 0 0
  refine r_if_eq h.ok 32 dX5_visitAt_11 (by decide) (fun q => absurd q (pI_n0.mpr (in_mIn kv (by omega) (by rw [hx]; exact vp_in_nI hj (by omega))))) (fun _ => ?_)
  refine r_iload_n h.ok dX5_visitAt_14 1 rfl ?_
  refine r_aload_n h.ok dX5_visitAt_15 0 rfl ?_
  refine r_get h.ok 1 dX5_visitAt_16 (xo_0 _) rfl inX5 (by decide) wfl_X5_17 rfl ?_
  refine r_alen (t0 := 3) (v := 500) h.ok dX5_visitAt_19 (xo_9 _) rfl (show Int32.ofNat 500 = 500 by decide) ?_
  refine r_icmp_ge h.ok 32 dX5_visitAt_20 (by decide) (fun q => absurd q (fun q => j_nle hx (Nat.lt_of_lt_of_le hj k500) (by decide) (by rw [show nI 500 = 500 by decide]; exact q))) (fun _ => ?_)
  refine r_aload_n h.ok dX5_visitAt_23 0 rfl ?_
  refine r_get h.ok 1 dX5_visitAt_24 (xo_0 _) rfl inX5 (by decide) wfl_X5_17 rfl ?_
  refine r_iload_n h.ok dX5_visitAt_27 1 rfl ?_
  refine r_aaldv (v := .ref (ad 7 j)) (t0 := 3) h.ok dX5_visitAt_28 (xo_9 _) rfl (by rw [hx]; exact vp_in_nI (Nat.lt_of_lt_of_le hj k500) (by decide)) (by simp [show F 3 c.toNatClampNeg = some j by rw [hx, nI_clamp (by omega)]; exact kf3 j hj, va_rf]) ?_
  refine r_goto h.ok 33 dX5_visitAt_29 (by decide) ?_
  refine r_aret h dX5_visitAt_33 ⟨by decide, by decide⟩ (Or.inr ⟨_, rfl⟩) ⟨rfl, rfl, rfl⟩
set_option maxHeartbeats 4000000 in
set_option maxRecDepth 100000 in
theorem c_X5_visitAt_n (D : va_G) (E : gEc) (ad : gAd) (I : gI) (F : gF) (lc ln : Nat) (nc nv nw : Nat) (hC : CI I F lc ln nc nv nw) (c : Int32) (hv : ¬ vp_in c nv) : gCon D E yX5_visitAt cX5_visitAt 2 (some (.object "MilkBox$Visit")) 1 0 0 [.ref (ad 0 0), .int c] ad (cX E ad I F lc ln) (gPd (some (.null)) ad (cX E ad I F lc ln)) := by
  refine gCon.of (by decide) (Nat.le_of_ble_eq_true rfl) ?_
  intro l A Rn h
  obtain ⟨kn, k12, klc, kf2, kv, k500, kln, kf3, kw, kw12, kq, kb, kc⟩ := hC
  show Rn 0 [(0, .ref (ad 0 0)), (1, .int c)] [] ad (cX E ad I F lc ln) 0 0
  refine r_iload_n h.ok dX5_visitAt_0 1 rfl ?_
  refine r_iconst (v := 0) h.ok dX5_visitAt_1 (by decide) ?_
  refine r_aload_n h.ok dX5_visitAt_2 0 rfl ?_
  refine r_get (v := .int (I 0 0 6)) h.ok 6 dX5_visitAt_3 (xo_0 _) rfl inX5 (by decide) wfl_X5_129 rfl ?_
  refine r_iconst (v := 1) h.ok dX5_visitAt_6 (by decide) ?_
  refine r_isub h.ok dX5_visitAt_7 ?_
  refine r_callS h.ok [.int c, .int 0, .int ((I 0 0 6) - 1)] [] dX5_visitAt_8 (c_X5_within D E ad I F lc ln c 0 ((I 0 0 6) - 1)) wml_X5_46 wst_X5_within win_X5 wco_X5_within yok_X5_within ⟨by decide, by decide, by simp [gRm], by simp [gRm]⟩ (Nat.le_of_ble_eq_true rfl) rfl ?_
  show Rn 11 [(0, .ref (ad 0 0)), (1, .int c)] [.int (pI (mIn c 0 ((I 0 0 6) - 1)))] ad (cX E ad I F lc ln) 0 0
  refine r_if_eq h.ok 32 dX5_visitAt_11 (by decide) (fun _ => ?_) (fun q => absurd q (fun z => z (pI_f (fun m => hv (mIn_in kv (by omega) m)))))
  refine r_null h.ok dX5_visitAt_32 ?_
  refine r_aret h dX5_visitAt_33 ⟨by decide, by decide⟩ (Or.inl rfl) ⟨rfl, rfl, rfl⟩
set_option maxHeartbeats 4000000 in
set_option maxRecDepth 100000 in
theorem c_X2_at_s (D : va_G) (E : gEc) (ad : gAd) (I : gI) (F : gF) (lc ln : Nat) (nc nv nw : Nat) (hC : CI I F lc ln nc nv nw) (c : Int32) (j : Nat) (hx : c = nI j) (hj : j < nw) : gCon D E yX2_at cX2_at 2 (some (.object "MilkBox$Visit")) 0 0 0 [.ref (ad 1 0), .int c] ad (cX E ad I F lc ln) (gPd (some (.ref (ad 7 (qv F j)))) ad (cX E ad I F lc ln)) := by
  refine gCon.of (by decide) (Nat.le_of_ble_eq_true rfl) ?_
  intro l A Rn h
  obtain ⟨kn, k12, klc, kf2, kv, k500, kln, kf3, kw, kw12, kq, kb, kc⟩ := hC
  show Rn 0 [(0, .ref (ad 1 0)), (1, .int c)] [] ad (cX E ad I F lc ln) 0 0
  refine r_iload_n h.ok dX2_at_0 1 rfl ?_
  refine r_if_lt h.ok 30 dX2_at_1 (by decide) (fun q => absurd q (by rw [hx]; exact nI_pos (by omega))) (fun _ => ?_)
  refine r_iload_n h.ok dX2_at_4 1 rfl ?_
  refine r_aload_n h.ok dX2_at_5 0 rfl ?_
  refine r_get (v := .int (I 1 0 1)) h.ok 1 dX2_at_6 (xo_1 _) rfl inX2 (by decide) wfl_X2_17 rfl ?_
  refine r_icmp_ge h.ok 30 dX2_at_9 (by decide) (fun q => absurd q (fun q => j_nle hx hj (by omega) (kw ▸ q))) (fun _ => ?_)
  refine r_iload_n h.ok dX2_at_12 1 rfl ?_
  refine r_aload_n h.ok dX2_at_13 0 rfl ?_
  refine r_get h.ok 0 dX2_at_14 (xo_1 _) rfl inX2 (by decide) wfl_X2_11 rfl ?_
  refine r_alen (t0 := 3) (v := 12) h.ok dX2_at_17 (xo_10 _) rfl (show Int32.ofNat 12 = 12 by decide) ?_
  refine r_icmp_ge h.ok 30 dX2_at_18 (by decide) (fun q => absurd q (fun q => j_nle hx (Nat.lt_of_lt_of_le hj kw12) (by decide) (by rw [show nI 12 = 12 by decide]; exact q))) (fun _ => ?_)
  refine r_aload_n h.ok dX2_at_21 0 rfl ?_
  refine r_get h.ok 0 dX2_at_22 (xo_1 _) rfl inX2 (by decide) wfl_X2_11 rfl ?_
  refine r_iload_n h.ok dX2_at_25 1 rfl ?_
  refine r_aaldv (v := .ref (ad 7 (qv F j))) (t0 := 3) h.ok dX2_at_26 (xo_10 _) rfl (by rw [hx]; exact vp_in_nI (Nat.lt_of_lt_of_le hj kw12) (by decide)) (by simp [show F 0 c.toNatClampNeg = some (qv F j) by rw [hx, nI_clamp (by omega)]; exact (kq j hj).1, va_rf]) ?_
  refine r_goto h.ok 31 dX2_at_27 (by decide) ?_
  refine r_aret h dX2_at_31 ⟨by decide, by decide⟩ (Or.inr ⟨_, rfl⟩) ⟨rfl, rfl, rfl⟩
set_option maxHeartbeats 4000000 in
set_option maxRecDepth 100000 in
theorem c_X2_at_n (D : va_G) (E : gEc) (ad : gAd) (I : gI) (F : gF) (lc ln : Nat) (nc nv nw : Nat) (hC : CI I F lc ln nc nv nw) (c : Int32) (hv : ¬ vp_in c nw) : gCon D E yX2_at cX2_at 2 (some (.object "MilkBox$Visit")) 0 0 0 [.ref (ad 1 0), .int c] ad (cX E ad I F lc ln) (gPd (some (.null)) ad (cX E ad I F lc ln)) := by
  refine gCon.of (by decide) (Nat.le_of_ble_eq_true rfl) ?_
  intro l A Rn h
  obtain ⟨kn, k12, klc, kf2, kv, k500, kln, kf3, kw, kw12, kq, kb, kc⟩ := hC
  show Rn 0 [(0, .ref (ad 1 0)), (1, .int c)] [] ad (cX E ad I F lc ln) 0 0
  refine r_iload_n h.ok dX2_at_0 1 rfl ?_
  refine r_if_lt h.ok 30 dX2_at_1 (by decide) (fun c_1 => ?_) (fun c_1 => ?_)
  · refine r_null h.ok dX2_at_30 ?_
    refine r_aret h dX2_at_31 ⟨by decide, by decide⟩ (Or.inl rfl) ⟨rfl, rfl, rfl⟩
  · refine r_iload_n h.ok dX2_at_4 1 rfl ?_
    refine r_aload_n h.ok dX2_at_5 0 rfl ?_
    refine r_get (v := .int (I 1 0 1)) h.ok 1 dX2_at_6 (xo_1 _) rfl inX2 (by decide) wfl_X2_17 rfl ?_
    refine r_icmp_ge h.ok 30 dX2_at_9 (by decide) (fun _ => ?_) (fun q => absurd q (fun z => hv (vp_b (by omega) c_1 (kw ▸ z))))
    refine r_null h.ok dX2_at_30 ?_
    refine r_aret h dX2_at_31 ⟨by decide, by decide⟩ (Or.inl rfl) ⟨rfl, rfl, rfl⟩
set_option maxHeartbeats 4000000 in
set_option maxRecDepth 100000 in
theorem c_X2_placeOf (D : va_G) (E : gEc) (ad : gAd) (I : gI) (F : gF) (lc ln : Nat) (nc nv nw : Nat) (hC : CI I F lc ln nc nv nw) (c : Int32) : gCon D E yX2_placeOf cX2_placeOf 4 (some .int) 1 0 0 [.ref (ad 1 0), .int c] ad (cX E ad I F lc ln) (gPd (some (.int (bPlace I F nw c))) ad (cX E ad I F lc ln)) := by
  refine gCon.of (by decide) (Nat.le_of_ble_eq_true rfl) ?_
  intro l A Rn h
  have hC0 := hC
  obtain ⟨kn, k12, klc, kf2, kv, k500, kln, kf3, kw, kw12, kq, kb, kc⟩ := hC
  show Rn 0 [(0, .ref (ad 1 0)), (1, .int c)] [] ad (cX E ad I F lc ln) 0 0
  refine r_iconst (v := 0) h.ok dX2_placeOf_0 (by decide) ?_
  refine r_istore_n (lv' := [(2, .int 0), (0, .ref (ad 1 0)), (1, .int c)]) h.ok dX2_placeOf_1 (by decide) rfl ?_
  have lp2 : ∀ (n : Nat) (j : Nat) (x : Int32), (j ≤ nw) → (nw + 1 ≤ j + n) → (x = nI j) → (bPlace I F nw c = gFind (bCowAt I F c) (nw - j) j) → Rn 2 [(2, .int x), (0, .ref (ad 1 0)), (1, .int c)] [] ad (cX E ad I F lc ln) 0 0 := by
    intro n
    induction n with
    | zero => intro j  x  hj hf hx hs; exfalso; omega
    | succ n ih2 =>
      intro j  x  hj hf hx hs
      refine r_iload_n h.ok dX2_placeOf_2 0 rfl ?_
      refine r_aload_n h.ok dX2_placeOf_3 1 rfl ?_
      refine r_get (v := .int (I 1 0 1)) h.ok 1 dX2_placeOf_4 (xo_1 _) rfl inX2 (by decide) wfl_X2_17 rfl ?_
      rw [kw]
      refine r_icmp_ge h.ok 36 dX2_placeOf_7 (by decide) (fun c_7 => ?_) (fun c_7 => ?_)
      · have jw : j = nw := ge_nI hx (by omega) hj c_7
        refine r_bipush (v := (-9)) h.ok dX2_placeOf_36 (by decide) ?_
        refine r_iret h dX2_placeOf_38 ⟨by decide, by decide⟩ ⟨by rw [hs, gFind_end (by omega)], rfl, rfl⟩
      · have jw : j < nw := lt_nI hx (by omega) hj c_7
        refine r_aload_n h.ok dX2_placeOf_10 1 rfl ?_
        refine r_iload_n h.ok dX2_placeOf_11 0 rfl ?_
        refine r_callV h.ok [.int x] [] dX2_placeOf_12 (c_X2_at_s D E ad I F lc ln nc nv nw hC0 x j hx jw) wml_X2_21 wim_X2_at wse_X2_at win_X2 wco_X2_at yok_X2_at (xo_1 _) rfl rfl ⟨by decide, by decide, by simp [gRm], by simp [gRm]⟩ (Nat.le_of_ble_eq_true rfl) rfl ?_
        show Rn 15 [(2, .int x), (0, .ref (ad 1 0)), (1, .int c)] [.ref (ad 7 (qv F j))] ad (cX E ad I F lc ln) 0 0
        refine r_astore_n (lv' := [(3, .ref (ad 7 (qv F j))), (2, .int x), (0, .ref (ad 1 0)), (1, .int c)]) h.ok dX2_placeOf_15 (by decide) rfl ?_
        refine r_aload_n h.ok dX2_placeOf_16 0 rfl ?_
        refine r_ifnull h.ok dX2_placeOf_17 ?_
        refine r_aload_n h.ok dX2_placeOf_20 0 rfl ?_
        refine r_get (v := .int (I 7 (qv F j) 0)) h.ok 0 dX2_placeOf_21 (xo_7 (Nat.lt_of_lt_of_le (kq j jw).2 kln) _) rfl inX4 (by decide) wfl_X2_25 rfl ?_
        refine r_iload_n h.ok dX2_placeOf_24 3 rfl ?_
        refine r_icmp_ne h.ok 30 dX2_placeOf_25 (by decide) (fun c_25 => ?_) (fun c_25 => ?_)
        · refine r_iinc (v := x + 1) (lv' := [(2, .int (x + 1)), (3, .ref (ad 7 (qv F j))), (0, .ref (ad 1 0)), (1, .int c)]) h.ok dX2_placeOf_30 1 rfl rfl (by decide) rfl ?_
          refine r_goto h.ok 2 dX2_placeOf_33 (by decide) ?_
          refine r_lv (lv' := [(2, .int (x + 1)), (0, .ref (ad 1 0)), (1, .int c)]) h.ok [0, 2, 3] rfl ?_
          exact ih2 (j + 1) _ (by omega) (by omega) (by rw [hx]; exact nI_1 j) (by rw [hs]; exact gFind_miss jw (show ¬ bCowAt I F c j from c_25))
        · refine r_iload_n h.ok dX2_placeOf_28 1 rfl ?_
          refine r_iret h dX2_placeOf_29 ⟨by decide, by decide⟩ ⟨by rw [hs, gFind_hit jw (show bCowAt I F c j from c_25), hx], rfl, rfl⟩
  exact lp2 (nw + 1) 0 0 (Nat.zero_le _) (by omega) rfl rfl
set_option maxHeartbeats 4000000 in
set_option maxRecDepth 100000 in
theorem c_X2_choose (D : va_G) (E : gEc) (ad : gAd) (I : gI) (F : gF) (lc ln : Nat) (nc nv nw : Nat) (hC : CI I F lc ln nc nv nw) (m : Int32) : gCon D E yX2_choose cX2_choose 4 (some .int) 1 0 0 [.ref (ad 1 0), .int m] ad (cX E ad I F lc ln) (gPd (some (.int (nI (bCh I F nw m)))) ad (cX E ad I F lc ln)) := by
  refine gCon.of (by decide) (Nat.le_of_ble_eq_true rfl) ?_
  intro l A Rn h
  have hC0 := hC
  obtain ⟨kn, k12, klc, kf2, kv, k500, kln, kf3, kw, kw12, kq, kb, kc⟩ := hC
  show Rn 0 [(0, .ref (ad 1 0)), (1, .int m)] [] ad (cX E ad I F lc ln) 0 0
  refine r_iconst (v := 0) h.ok dX2_choose_0 (by decide) ?_
  refine r_istore_n (lv' := [(2, .int 0), (0, .ref (ad 1 0)), (1, .int m)]) h.ok dX2_choose_1 (by decide) rfl ?_
  have lp2 : ∀ (n : Nat) (j : Nat) (x : Int32), (j ≤ nw) → (nw + 1 ≤ j + n) → (x = nI j) → (gSt (bShy I F m) j = none) → Rn 2 [(2, .int x), (0, .ref (ad 1 0)), (1, .int m)] [] ad (cX E ad I F lc ln) 0 0 := by
    intro n
    induction n with
    | zero => intro j  x  hj hf hx hs; exfalso; omega
    | succ n ih2 =>
      intro j  x  hj hf hx hs
      refine r_iload_n h.ok dX2_choose_2 0 rfl ?_
      refine r_aload_n h.ok dX2_choose_3 1 rfl ?_
      refine r_get (v := .int (I 1 0 1)) h.ok 1 dX2_choose_4 (xo_1 _) rfl inX2 (by decide) wfl_X2_17 rfl ?_
      rw [kw]
      refine r_icmp_ge h.ok 46 dX2_choose_7 (by decide) (fun c_7 => ?_) (fun c_7 => ?_)
      · have jw : j = nw := ge_nI hx (by omega) hj c_7
        refine r_iconst (v := 0) h.ok dX2_choose_46 (by decide) ?_
        refine r_iret h dX2_choose_47 ⟨by decide, by decide⟩ ⟨by unfold bCh; rw [← jw, hs]; rfl, rfl, rfl⟩
      · have jw : j < nw := lt_nI hx (by omega) hj c_7
        refine r_aload_n h.ok dX2_choose_10 1 rfl ?_
        refine r_iload_n h.ok dX2_choose_11 0 rfl ?_
        refine r_callV h.ok [.int x] [] dX2_choose_12 (c_X2_at_s D E ad I F lc ln nc nv nw hC0 x j hx jw) wml_X2_21 wim_X2_at wse_X2_at win_X2 wco_X2_at yok_X2_at (xo_1 _) rfl rfl ⟨by decide, by decide, by simp [gRm], by simp [gRm]⟩ (Nat.le_of_ble_eq_true rfl) rfl ?_
        show Rn 15 [(2, .int x), (0, .ref (ad 1 0)), (1, .int m)] [.ref (ad 7 (qv F j))] ad (cX E ad I F lc ln) 0 0
        refine r_astore_n (lv' := [(3, .ref (ad 7 (qv F j))), (2, .int x), (0, .ref (ad 1 0)), (1, .int m)]) h.ok dX2_choose_15 (by decide) rfl ?_
        refine r_aload_n h.ok dX2_choose_16 0 rfl ?_
        refine r_ifnull h.ok dX2_choose_17 ?_
        refine r_aload_n h.ok dX2_choose_20 0 rfl ?_
        refine r_get (v := .int (I 7 (qv F j) 1)) h.ok 1 dX2_choose_21 (xo_7 (Nat.lt_of_lt_of_le (kq j jw).2 kln) _) rfl inX4 (by decide) wfl_X2_36 rfl ?_
        refine r_if_eq h.ok 40 dX2_choose_24 (by decide) (fun c_24 => ?_) (fun c_24 => ?_)
        · refine r_iinc (v := x + 1) (lv' := [(2, .int (x + 1)), (3, .ref (ad 7 (qv F j))), (0, .ref (ad 1 0)), (1, .int m)]) h.ok dX2_choose_40 1 rfl rfl (by decide) rfl ?_
          refine r_goto h.ok 2 dX2_choose_43 (by decide) ?_
          refine r_lv (lv' := [(2, .int (x + 1)), (0, .ref (ad 1 0)), (1, .int m)]) h.ok [0, 2, 3] rfl ?_
          exact ih2 (j + 1) _ (by omega) (by omega) (by rw [hx]; exact nI_1 j) (gSt_miss hs (show ¬ bShy I F m j from (fun q => q.1 c_24)))
        · refine r_iload_n h.ok dX2_choose_27 3 rfl ?_
          refine r_aload_n h.ok dX2_choose_28 0 rfl ?_
          refine r_get (v := .int (I 7 (qv F j) 2)) h.ok 2 dX2_choose_29 (xo_7 (Nat.lt_of_lt_of_le (kq j jw).2 kln) _) rfl inX4 (by decide) wfl_X2_40 rfl ?_
          refine r_isub h.ok dX2_choose_32 ?_
          refine r_bipush (v := 30) h.ok dX2_choose_33 (by decide) ?_
          refine r_icmp_lt h.ok 40 dX2_choose_35 (by decide) (fun c_35 => ?_) (fun c_35 => ?_)
          · refine r_iinc (v := x + 1) (lv' := [(2, .int (x + 1)), (3, .ref (ad 7 (qv F j))), (0, .ref (ad 1 0)), (1, .int m)]) h.ok dX2_choose_40 1 rfl rfl (by decide) rfl ?_
            refine r_goto h.ok 2 dX2_choose_43 (by decide) ?_
            refine r_lv (lv' := [(2, .int (x + 1)), (0, .ref (ad 1 0)), (1, .int m)]) h.ok [0, 2, 3] rfl ?_
            exact ih2 (j + 1) _ (by omega) (by omega) (by rw [hx]; exact nI_1 j) (gSt_miss hs (show ¬ bShy I F m j from (fun q => q.2 c_35)))
          · refine r_iload_n h.ok dX2_choose_38 1 rfl ?_
            refine r_iret h dX2_choose_39 ⟨by decide, by decide⟩ ⟨by unfold bCh; rw [gSt_mono (gSt_hit hs (show bShy I F m j from ⟨c_24, c_35⟩)) jw, hx]; rfl, rfl, rfl⟩
  exact lp2 (nw + 1) 0 0 (Nat.zero_le _) (by omega) rfl rfl
set_option maxHeartbeats 4000000 in
set_option maxRecDepth 100000 in
theorem c_X2_addLast (D : va_G) (E : gEc) (ad : gAd) (I : gI) (F : gF) (lc ln : Nat) (nc nv nw : Nat) (hC : CI I F lc ln nc nv nw) (v : Nat) (hv : v < ln) (hw : nw < 12) : gCon D E yX2_addLast cX2_addLast 2 none 0 0 0 [.ref (ad 1 0), .ref (ad 7 v)] ad (cX E ad I F lc ln) (gPd none ad (cX E ad (gs I 1 0 1 (I 1 0 1 + 1)) (gf F 0 (I 1 0 1).toNatClampNeg (some v)) lc ln)) := by
  refine gCon.of (by decide) (Nat.le_of_ble_eq_true rfl) ?_
  intro l A Rn h
  have hC0 := hC
  obtain ⟨kn, k12, klc, kf2, kv, k500, kln, kf3, kw, kw12, kq, kb, kc⟩ := hC
  show Rn 0 [(0, .ref (ad 1 0)), (1, .ref (ad 7 v))] [] ad (cX E ad I F lc ln) 0 0
  refine r_aload_n h.ok dX2_addLast_0 0 rfl ?_
  refine r_get (v := .int (I 1 0 1)) h.ok 1 dX2_addLast_1 (xo_1 _) rfl inX2 (by decide) wfl_X2_17 rfl ?_
  refine r_if_lt h.ok 39 dX2_addLast_4 (by decide) (fun q => absurd q (by rw [kw]; exact nI_pos (by omega))) (fun _ => ?_)
  refine r_aload_n h.ok dX2_addLast_7 0 rfl ?_
  refine r_get (v := .int (I 1 0 1)) h.ok 1 dX2_addLast_8 (xo_1 _) rfl inX2 (by decide) wfl_X2_17 rfl ?_
  refine r_aload_n h.ok dX2_addLast_11 0 rfl ?_
  refine r_get h.ok 0 dX2_addLast_12 (xo_1 _) rfl inX2 (by decide) wfl_X2_11 rfl ?_
  refine r_alen (t0 := 3) (v := 12) h.ok dX2_addLast_15 (xo_10 _) rfl (show Int32.ofNat 12 = 12 by decide) ?_
  refine r_icmp_ge h.ok 39 dX2_addLast_16 (by decide) (fun q => absurd q (fun q => j_nle kw hw (by decide) (by rw [show nI 12 = 12 by decide]; exact q))) (fun _ => ?_)
  refine r_aload_n h.ok dX2_addLast_19 0 rfl ?_
  refine r_get h.ok 0 dX2_addLast_20 (xo_1 _) rfl inX2 (by decide) wfl_X2_11 rfl ?_
  refine r_aload_n h.ok dX2_addLast_23 0 rfl ?_
  refine r_get (v := .int (I 1 0 1)) h.ok 1 dX2_addLast_24 (xo_1 _) rfl inX2 (by decide) wfl_X2_17 rfl ?_
  refine r_aload_n h.ok dX2_addLast_27 1 rfl ?_
  refine r_aast (t0 := 3) h.ok dX2_addLast_28 (xo_10 _) rfl (xo_7 hv _) rfl (by rw [kw]; exact vp_in_nI hw (by decide)) (cX_put10 (I 1 0 1).toNatClampNeg (some v)) ?_
  refine r_aload_n h.ok dX2_addLast_29 0 rfl ?_
  refine r_dup h.ok dX2_addLast_30 rfl ?_
  refine r_get (v := .int (I 1 0 1)) h.ok 1 dX2_addLast_31 (xo_1 _) rfl inX2 (by decide) wfl_X2_17 rfl ?_
  refine r_iconst (v := 1) h.ok dX2_addLast_34 (by decide) ?_
  refine r_iadd h.ok dX2_addLast_35 ?_
  refine r_put (ty := tyX2) h.ok 1 dX2_addLast_36 (xo_1 _) rfl inX2 tyX2_ok nmX2 (by decide) wfl_X2_17 rfl rfl rfl (by simp) (cX_put (r' := upd (I 1 0) 1 ((I 1 0 1) + 1)) (xo_1 _)) ?_
  refine r_vret h dX2_addLast_39 ⟨by decide, by decide⟩ ⟨rfl, rfl, rfl⟩
theorem nI_not_pos {a : Nat} (ha : a < 2 ^ 31) (h : ¬ (0 : Int32) < nI a) : (0 : Int32) = nI a := by
  rcases Nat.eq_zero_or_pos a with q | q
  · rw [q]; rfl
  · exact absurd (show nI 0 < nI a from nI_lt q ha) h
theorem max0 {c : Int32} {a : Nat} (hc : c = nI a) (ha : a < 2 ^ 31) : (if 0 < c then c else 0) = nI a := by
  by_cases h : 0 < c
  · rw [if_pos h, hc]
  · rw [if_neg h]
    exact nI_not_pos ha (hc ▸ h)
set_option maxHeartbeats 4000000 in
set_option maxRecDepth 100000 in
theorem c_X2_closeUp (D : va_G) (E : gEc) (ad : gAd) (I : gI) (F : gF) (lc ln : Nat) (nc nv nw : Nat) (hC : CI I F lc ln nc nv nw) (c : Int32) (a : Nat) (hxa : c = nI a) (ha : a < nw) : gCon D E yX2_closeUp cX2_closeUp 3 none 1 0 0 [.ref (ad 1 0), .int c] ad (cX E ad I F lc ln) (gPd none ad (cX E ad (gs I 1 0 1 (I 1 0 1 - 1)) (gSh F a (nw - 1)) lc ln)) := by
  refine gCon.of (by decide) (Nat.le_of_ble_eq_true rfl) ?_
  intro l A Rn h
  have hC0 := hC
  obtain ⟨kn, k12, klc, kf2, kv, k500, kln, kf3, kw, kw12, kq, kb, kc⟩ := hC
  show Rn 0 [(0, .ref (ad 1 0)), (1, .int c)] [] ad (cX E ad I F lc ln) 0 0
  refine r_iconst (v := 0) h.ok dX2_closeUp_0 (by decide) ?_
  refine r_iload_n h.ok dX2_closeUp_1 1 rfl ?_
  refine r_mmax h.ok dX2_closeUp_2 wml_X2_43 ⟨by decide, Nat.le_of_ble_eq_true rfl, by decide, by decide⟩ ?_
  refine r_topi (fun g e_g => ?_)
  refine r_istore_n (lv' := [(2, .int g), (0, .ref (ad 1 0)), (1, .int c)]) h.ok dX2_closeUp_5 (by decide) rfl ?_
  have lp6 : ∀ (n : Nat) (j : Nat) (x : Int32), (a ≤ j) → (j ≤ nw - 1) → (nw ≤ j + n) → (x = nI j) → Rn 6 [(2, .int x), (0, .ref (ad 1 0))] [] ad (cX E ad I (gSh F a j) lc ln) 0 0 := by
    intro n
    induction n with
    | zero => intro j  x  ha hj hf hx; exfalso; omega
    | succ n ih6 =>
      intro j  x  ha hj hf hx
      refine r_iload_n h.ok dX2_closeUp_6 0 rfl ?_
      refine r_iconst (v := 1) h.ok dX2_closeUp_7 (by decide) ?_
      refine r_iadd h.ok dX2_closeUp_8 ?_
      refine r_aload_n h.ok dX2_closeUp_9 1 rfl ?_
      refine r_get (v := .int (I 1 0 1)) h.ok 1 dX2_closeUp_10 (xo_1 _) rfl inX2 (by decide) wfl_X2_17 rfl ?_
      rw [kw]
      refine r_icmp_ge h.ok 47 dX2_closeUp_13 (by decide) (fun c_13 => ?_) (fun c_13 => ?_)
      · have jw : j = nw - 1 := by have := ge_nI (x := x + 1) (j := j + 1) (by rw [hx]; exact nI_1 j) (by omega) (by omega) c_13; omega
        refine r_aload_n h.ok dX2_closeUp_47 1 rfl ?_
        refine r_dup h.ok dX2_closeUp_48 rfl ?_
        refine r_get (v := .int (I 1 0 1)) h.ok 1 dX2_closeUp_49 (xo_1 _) rfl inX2 (by decide) wfl_X2_17 rfl ?_
        refine r_iconst (v := 1) h.ok dX2_closeUp_52 (by decide) ?_
        refine r_isub h.ok dX2_closeUp_53 ?_
        refine r_put (ty := tyX2) h.ok 1 dX2_closeUp_54 (xo_1 _) rfl inX2 tyX2_ok nmX2 (by decide) wfl_X2_17 rfl rfl rfl (by simp) (cX_put (r' := upd (I 1 0) 1 ((I 1 0 1) - 1)) (xo_1 _)) ?_
        refine r_vret h dX2_closeUp_57 ⟨by decide, by decide⟩ ⟨rfl, rfl, by rw [jw]⟩
      · have jw : j + 1 < nw := lt_nI (x := x + 1) (by rw [hx]; exact nI_1 j) (by omega) (by omega) c_13
        refine r_iload_n h.ok dX2_closeUp_16 0 rfl ?_
        refine r_iconst (v := 1) h.ok dX2_closeUp_17 (by decide) ?_
        refine r_iadd h.ok dX2_closeUp_18 ?_
        refine r_aload_n h.ok dX2_closeUp_19 1 rfl ?_
        refine r_get h.ok 0 dX2_closeUp_20 (xo_1 _) rfl inX2 (by decide) wfl_X2_11 rfl ?_
        refine r_alen (t0 := 3) (v := 12) h.ok dX2_closeUp_23 (xo_10 _) rfl (show Int32.ofNat 12 = 12 by decide) ?_
        refine r_icmp_ge h.ok 47 dX2_closeUp_24 (by decide) (fun q => absurd q (fun q => j_nle (n := 12) (x := x + 1) (j := j + 1) (by rw [hx]; exact nI_1 j) (by omega) (by decide) (by rw [show nI 12 = 12 by decide]; exact q))) (fun _ => ?_)
        refine r_aload_n h.ok dX2_closeUp_27 1 rfl ?_
        refine r_get h.ok 0 dX2_closeUp_28 (xo_1 _) rfl inX2 (by decide) wfl_X2_11 rfl ?_
        refine r_iload_n h.ok dX2_closeUp_31 0 rfl ?_
        refine r_aload_n h.ok dX2_closeUp_32 1 rfl ?_
        refine r_get h.ok 0 dX2_closeUp_33 (xo_1 _) rfl inX2 (by decide) wfl_X2_11 rfl ?_
        refine r_iload_n h.ok dX2_closeUp_36 0 rfl ?_
        refine r_iconst (v := 1) h.ok dX2_closeUp_37 (by decide) ?_
        refine r_iadd h.ok dX2_closeUp_38 ?_
        refine r_aaldv (v := .ref (ad 7 (qv F (j + 1)))) (t0 := 3) h.ok dX2_closeUp_39 (xo_10 _) rfl (by rw [hx, nI_1]; exact vp_in_nI (by omega) (by decide)) (by simp [show (gSh F a j) 0 (x + 1).toNatClampNeg = some (qv F (j + 1)) by rw [hx, nI_1, nI_clamp (by omega)]; unfold gSh; rw [if_neg (by omega)]; exact (kq (j + 1) jw).1, va_rf]) ?_
        refine r_aast (t0 := 3) h.ok dX2_closeUp_40 (xo_10 _) rfl (xo_7 (Nat.lt_of_lt_of_le (kq (j + 1) jw).2 kln) _) rfl (by rw [hx]; exact vp_in_nI (by omega) (by decide)) (cX_put10 x.toNatClampNeg (some (qv F (j + 1)))) ?_
        refine r_iinc (v := x + 1) (lv' := [(2, .int (x + 1)), (0, .ref (ad 1 0))]) h.ok dX2_closeUp_41 0 rfl rfl (by decide) rfl ?_
        refine r_goto h.ok 6 dX2_closeUp_44 (by decide) ?_
        rw [show gf (gSh F a j) 0 x.toNatClampNeg (some (qv F (j + 1))) = gSh F a (j + 1) from by rw [show x.toNatClampNeg = j by rw [hx, nI_clamp (by omega)]]; exact gSh_step ha (kq (j + 1) (by omega)).1]
        exact ih6 (j + 1) _ (by omega) (by omega) (by omega) (by rw [hx]; exact nI_1 j)
  refine r_lv (lv' := [(2, .int g), (0, .ref (ad 1 0))]) h.ok [0, 1] rfl ?_
  rw [show F = gSh F a a from (gSh_0 F a).symm]
  exact lp6 nw a _ (Nat.le_refl _) (by omega) (by omega) (by rw [e_g]; exact max0 hxa (by omega))
end
section
theorem bCh_0 {I : gI} {F : gF} {m : Int32} : bCh I F 0 m = 0 := rfl
set_option maxHeartbeats 4000000 in
set_option maxRecDepth 100000 in
theorem c_X2_takeNext_n (D : va_G) (E : gEc) (ad : gAd) (I : gI) (F : gF) (lc ln : Nat) (nc nv nw : Nat) (hC : CI I F lc ln nc nv nw) (m : Int32) (h0 : nw = 0) : gCon D E yX2_takeNext cX2_takeNext 4 (some (.object "MilkBox$Visit")) 2 0 0 [.ref (ad 1 0), .int m] ad (cX E ad I F lc ln) (gPd (some (.null)) ad (cX E ad I F lc ln)) := by
  refine gCon.of (by decide) (Nat.le_of_ble_eq_true rfl) ?_
  intro l A Rn h
  have hC0 := hC
  obtain ⟨kn, k12, klc, kf2, kv, k500, kln, kf3, kw, kw12, kq, kb, kc⟩ := hC
  show Rn 0 [(0, .ref (ad 1 0)), (1, .int m)] [] ad (cX E ad I F lc ln) 0 0
  refine r_aload_n h.ok dX2_takeNext_0 0 rfl ?_
  refine r_iload_n h.ok dX2_takeNext_1 1 rfl ?_
  refine r_callV h.ok [.int m] [] dX2_takeNext_2 (c_X2_choose D E ad I F lc ln nc nv nw hC0 m) wml_X2_28 wim_X2_choose wse_X2_choose win_X2 wco_X2_choose yok_X2_choose (xo_1 _) rfl rfl ⟨by decide, by decide, by simp [gRm], by simp [gRm]⟩ (Nat.le_of_ble_eq_true rfl) rfl ?_
  show Rn 5 [(0, .ref (ad 1 0)), (1, .int m)] [.int (nI (bCh I F nw m))] ad (cX E ad I F lc ln) 0 0
  refine r_istore_n (lv' := [(2, .int (nI (bCh I F nw m))), (0, .ref (ad 1 0)), (1, .int m)]) h.ok dX2_takeNext_5 (by decide) rfl ?_
  refine r_aload_n h.ok dX2_takeNext_6 1 rfl ?_
  refine r_iload_n h.ok dX2_takeNext_7 0 rfl ?_
  refine r_callV h.ok [.int (nI (bCh I F nw m))] [] dX2_takeNext_8 (c_X2_at_n D E ad I F lc ln nc nv nw hC0 (nI (bCh I F nw m)) (fun q => absurd (vp_lt q) (by omega))) wml_X2_21 wim_X2_at wse_X2_at win_X2 wco_X2_at yok_X2_at (xo_1 _) rfl rfl ⟨by decide, by decide, by simp [gRm], by simp [gRm]⟩ (Nat.le_of_ble_eq_true rfl) rfl ?_
  show Rn 11 [(2, .int (nI (bCh I F nw m))), (0, .ref (ad 1 0)), (1, .int m)] [.null] ad (cX E ad I F lc ln) 0 0
  refine r_astore_nN (lv' := [(3, .null), (2, .int (nI (bCh I F nw m))), (0, .ref (ad 1 0)), (1, .int m)]) h.ok dX2_takeNext_11 (by decide) rfl ?_
  refine r_aload_nN h.ok dX2_takeNext_12 0 rfl ?_
  refine r_ifnullN h.ok 21 dX2_takeNext_13 (by decide) ?_
  refine r_aload_nN h.ok dX2_takeNext_21 0 rfl ?_
  refine r_aret h dX2_takeNext_22 ⟨by decide, by decide⟩ (Or.inl rfl) ⟨rfl, rfl, rfl⟩
set_option maxHeartbeats 4000000 in
set_option maxRecDepth 100000 in
theorem c_X2_takeNext_s (D : va_G) (E : gEc) (ad : gAd) (I : gI) (F : gF) (lc ln : Nat) (nc nv nw : Nat) (hC : CI I F lc ln nc nv nw) (m : Int32) (h0 : 0 < nw) : gCon D E yX2_takeNext cX2_takeNext 4 (some (.object "MilkBox$Visit")) 2 0 0 [.ref (ad 1 0), .int m] ad (cX E ad I F lc ln) (gPd (some (.ref (ad 7 (qv F (bCh I F nw m))))) ad (cX E ad (gs I 1 0 1 (I 1 0 1 - 1)) (gSh F (bCh I F nw m) (nw - 1)) lc ln)) := by
  refine gCon.of (by decide) (Nat.le_of_ble_eq_true rfl) ?_
  intro l A Rn h
  have hC0 := hC
  obtain ⟨kn, k12, klc, kf2, kv, k500, kln, kf3, kw, kw12, kq, kb, kc⟩ := hC
  show Rn 0 [(0, .ref (ad 1 0)), (1, .int m)] [] ad (cX E ad I F lc ln) 0 0
  refine r_aload_n h.ok dX2_takeNext_0 0 rfl ?_
  refine r_iload_n h.ok dX2_takeNext_1 1 rfl ?_
  refine r_callV h.ok [.int m] [] dX2_takeNext_2 (c_X2_choose D E ad I F lc ln nc nv nw hC0 m) wml_X2_28 wim_X2_choose wse_X2_choose win_X2 wco_X2_choose yok_X2_choose (xo_1 _) rfl rfl ⟨by decide, by decide, by simp [gRm], by simp [gRm]⟩ (Nat.le_of_ble_eq_true rfl) rfl ?_
  show Rn 5 [(0, .ref (ad 1 0)), (1, .int m)] [.int (nI (bCh I F nw m))] ad (cX E ad I F lc ln) 0 0
  obtain ⟨x2, hx2⟩ : ∃ z : Int32, z = nI (bCh I F nw m) := ⟨_, rfl⟩
  rw [← hx2]
  refine r_istore_n (lv' := [(2, .int x2), (0, .ref (ad 1 0)), (1, .int m)]) h.ok dX2_takeNext_5 (by decide) rfl ?_
  refine r_aload_n h.ok dX2_takeNext_6 1 rfl ?_
  refine r_iload_n h.ok dX2_takeNext_7 0 rfl ?_
  refine r_callV h.ok [.int x2] [] dX2_takeNext_8 (c_X2_at_s D E ad I F lc ln nc nv nw hC0 x2 (bCh I F nw m) hx2 (gSt_getD h0)) wml_X2_21 wim_X2_at wse_X2_at win_X2 wco_X2_at yok_X2_at (xo_1 _) rfl rfl ⟨by decide, by decide, by simp [gRm], by simp [gRm]⟩ (Nat.le_of_ble_eq_true rfl) rfl ?_
  show Rn 11 [(2, .int x2), (0, .ref (ad 1 0)), (1, .int m)] [.ref (ad 7 (qv F (bCh I F nw m)))] ad (cX E ad I F lc ln) 0 0
  refine r_astore_n (lv' := [(3, .ref (ad 7 (qv F (bCh I F nw m)))), (2, .int x2), (0, .ref (ad 1 0)), (1, .int m)]) h.ok dX2_takeNext_11 (by decide) rfl ?_
  refine r_aload_n h.ok dX2_takeNext_12 0 rfl ?_
  refine r_ifnull h.ok dX2_takeNext_13 ?_
  refine r_aload_n h.ok dX2_takeNext_16 2 rfl ?_
  refine r_iload_n h.ok dX2_takeNext_17 1 rfl ?_
  refine r_callV h.ok [.int x2] [] dX2_takeNext_18 (c_X2_closeUp D E ad I F lc ln nc nv nw hC0 x2 (bCh I F nw m) hx2 (gSt_getD h0)) wml_X2_32 wim_X2_closeUp wse_X2_closeUp win_X2 wco_X2_closeUp yok_X2_closeUp (xo_1 _) rfl rfl ⟨by decide, by decide, by simp [gRm], by simp [gRm]⟩ (Nat.le_of_ble_eq_true rfl) rfl ?_
  show Rn 21 [(3, .ref (ad 7 (qv F (bCh I F nw m)))), (2, .int x2), (0, .ref (ad 1 0)), (1, .int m)] [] ad (cX E ad (gs I 1 0 1 (I 1 0 1 - 1)) (gSh F (bCh I F nw m) (nw - 1)) lc ln) 0 0
  refine r_aload_n h.ok dX2_takeNext_21 0 rfl ?_
  refine r_aret h dX2_takeNext_22 ⟨by decide, by decide⟩ (Or.inr ⟨_, rfl⟩) ⟨rfl, rfl, rfl⟩
theorem gs_same {I : gI} {k i s : Nat} {v : Int32} (h : I k i s = v) : gs I k i s v = I := by
  funext k' i' s'
  by_cases hk : k' = k ∧ i' = i
  · obtain ⟨rfl, rfl⟩ := hk
    by_cases hs : s' = s
    · subst hs; simp [gr, upd, h]
    · simp [gr, upd, hs]
  · simp [gr, hk]
noncomputable def bArm_I (I : gI) (F : gF) (v i : Nat) (m h0 : Int32) : gI := gs (gs (gs (gs (gs (gs (gs (gs (gs (gs (gs (gs (gs (gs I 2 0 1 h0) 2 0 2 0) 2 0 3 (m + 2)) 2 0 3 ((m + 2) + (if 3 < (I 5 i 0) then 3 else (I 5 i 0)))) 2 0 2 (0 + (if (I 5 i 0) ≤ 3 then h0 / 4 + (h0 - h0 / 4 * 4) else 0))) 2 0 3 (((m + 2) + (if 3 < (I 5 i 0) then 3 else (I 5 i 0))) + (if 3 < (I 5 i 1) then 3 else (I 5 i 1)))) 2 0 2 ((0 + (if (I 5 i 0) ≤ 3 then h0 / 4 + (h0 - h0 / 4 * 4) else 0)) + (if (I 5 i 1) ≤ 3 then h0 / 4 else 0))) 2 0 3 ((((m + 2) + (if 3 < (I 5 i 0) then 3 else (I 5 i 0))) + (if 3 < (I 5 i 1) then 3 else (I 5 i 1))) + (if 3 < (I 5 i 2) then 3 else (I 5 i 2)))) 2 0 2 (((0 + (if (I 5 i 0) ≤ 3 then h0 / 4 + (h0 - h0 / 4 * 4) else 0)) + (if (I 5 i 1) ≤ 3 then h0 / 4 else 0)) + (if (I 5 i 2) ≤ 3 then h0 / 4 else 0))) 2 0 3 (((((m + 2) + (if 3 < (I 5 i 0) then 3 else (I 5 i 0))) + (if 3 < (I 5 i 1) then 3 else (I 5 i 1))) + (if 3 < (I 5 i 2) then 3 else (I 5 i 2))) + (if 3 < (I 5 i 3) then 3 else (I 5 i 3)))) 2 0 2 ((((0 + (if (I 5 i 0) ≤ 3 then h0 / 4 + (h0 - h0 / 4 * 4) else 0)) + (if (I 5 i 1) ≤ 3 then h0 / 4 else 0)) + (if (I 5 i 2) ≤ 3 then h0 / 4 else 0)) + (if (I 5 i 3) ≤ 3 then h0 / 4 else 0))) 2 0 4 ((((((m + 2) + (if 3 < (I 5 i 0) then 3 else (I 5 i 0))) + (if 3 < (I 5 i 1) then 3 else (I 5 i 1))) + (if 3 < (I 5 i 2) then 3 else (I 5 i 2))) + (if 3 < (I 5 i 3) then 3 else (I 5 i 3))) + (((((((0 + (if (I 5 i 0) ≤ 3 then h0 / 4 + (h0 - h0 / 4 * 4) else 0)) + (if (I 5 i 1) ≤ 3 then h0 / 4 else 0)) + (if (I 5 i 2) ≤ 3 then h0 / 4 else 0)) + (if (I 5 i 3) ≤ 3 then h0 / 4 else 0)) + 20) - 1) / 20))) 7 v 6 m) 7 v 10 ((((0 + (if (I 5 i 0) ≤ 3 then 0 else 1)) + (if (I 5 i 1) ≤ 3 then 0 else 1)) + (if (I 5 i 2) ≤ 3 then 0 else 1)) + (if (I 5 i 3) ≤ 3 then 0 else 1))
noncomputable def bArm_F (I : gI) (F : gF) (v i : Nat) (m h0 : Int32) : gF := gf F 1 0 (some v)
set_option maxHeartbeats 4000000 in
set_option maxRecDepth 100000 in
theorem c_X0_begin (D : va_G) (E : gEc) (ad : gAd) (I : gI) (F : gF) (lc ln : Nat) (v i : Nat) (hv : v < ln) (hi : i < lc) (m h0 : Int32) (hh0 : h0 = bMilkAt_r I F i m) : gCon D E yX0_begin cX0_begin 7 none 2 0 0 [.ref (ad 2 0), .ref (ad 7 v), .ref (ad 4 i), .int m] ad (cX E ad I F lc ln) (gPd none ad (cX E ad (bArm_I I F v i m h0) (bArm_F I F v i m h0) lc ln)) := by
  refine gCon.of (by decide) (Nat.le_of_ble_eq_true rfl) ?_
  intro l A Rn h
  show Rn 0 [(0, .ref (ad 2 0)), (1, .ref (ad 7 v)), (2, .ref (ad 4 i)), (3, .int m)] [] ad (cX E ad I F lc ln) 0 0
  refine r_aload_n h.ok dX0_begin_0 0 rfl ?_
  refine r_aload_n h.ok dX0_begin_1 1 rfl ?_
  refine r_put (ty := tyX0) h.ok 0 dX0_begin_2 (xo_2 _) rfl inX0 tyX0_ok nmX0 (by decide) wfl_X0_9 rfl rfl rfl (by simp) (cX_put2 (some v)) ?_
  refine r_aload_n h.ok dX0_begin_5 0 rfl ?_
  refine r_aload_n h.ok dX0_begin_6 2 rfl ?_
  refine r_iload_n h.ok dX0_begin_7 3 rfl ?_
  refine r_callV h.ok [.int m] [.ref (ad 2 0)] dX0_begin_8 (c_X1_milkAt D E ad I (gf F 1 0 (some v)) lc ln i hi m) wml_X0_21 wim_X1_milkAt wse_X1_milkAt win_X1 wco_X1_milkAt yok_X1_milkAt (xo_4 hi _) rfl rfl ⟨by decide, by decide, by simp [gRm], by simp [gRm]⟩ (Nat.le_of_ble_eq_true rfl) rfl ?_
  show Rn 11 [(0, .ref (ad 2 0)), (1, .ref (ad 7 v)), (2, .ref (ad 4 i)), (3, .int m)] [.int (bMilkAt_r I (gf F 1 0 (some v)) i m), .ref (ad 2 0)] ad (cX E ad I (gf F 1 0 (some v)) lc ln) 0 0
  rw [show bMilkAt_r I (gf F 1 0 (some v)) i m = h0 from by rw [hh0]; simp [bMilkAt_r]]
  refine r_put (ty := tyX0) h.ok 1 dX0_begin_11 (xo_2 _) rfl inX0 tyX0_ok nmX0 (by decide) wfl_X0_27 rfl rfl rfl (by simp) (cX_put (r' := upd (I 2 0) 1 h0) (xo_2 _)) ?_
  refine r_aload_n h.ok dX0_begin_14 0 rfl ?_
  refine r_iconst (v := 0) h.ok dX0_begin_15 (by decide) ?_
  refine r_put (ty := tyX0) h.ok 2 dX0_begin_16 (xo_2 _) rfl inX0 tyX0_ok nmX0 (by decide) wfl_X0_30 rfl rfl rfl (by simp) (cX_put (r' := upd ((gs I 2 0 1 h0) 2 0) 2 0) (xo_2 _)) ?_
  refine r_aload_n h.ok dX0_begin_19 0 rfl ?_
  refine r_iload_n h.ok dX0_begin_20 3 rfl ?_
  refine r_iconst (v := 2) h.ok dX0_begin_21 (by decide) ?_
  refine r_iadd h.ok dX0_begin_22 ?_
  refine r_put (ty := tyX0) h.ok 3 dX0_begin_23 (xo_2 _) rfl inX0 tyX0_ok nmX0 (by decide) wfl_X0_33 rfl rfl rfl (by simp) (cX_put (r' := upd ((gs (gs I 2 0 1 h0) 2 0 2 0) 2 0) 3 (m + 2)) (xo_2 _)) ?_
  refine r_iconst (v := 0) h.ok dX0_begin_26 (by decide) ?_
  refine r_istore (lv' := [(4, .int 0), (0, .ref (ad 2 0)), (1, .ref (ad 7 v)), (2, .ref (ad 4 i)), (3, .int m)]) h.ok dX0_begin_27 (by decide) rfl ?_
  refine r_iconst (v := 0) h.ok dX0_begin_29 (by decide) ?_
  refine r_istore (lv' := [(5, .int 0), (4, .int 0), (0, .ref (ad 2 0)), (1, .ref (ad 7 v)), (2, .ref (ad 4 i)), (3, .int m)]) h.ok dX0_begin_30 (by decide) rfl ?_
  refine r_iload h.ok dX0_begin_32 0 rfl ?_
  refine r_aload_n h.ok dX0_begin_34 4 rfl ?_
  refine r_get h.ok 4 dX0_begin_35 (xo_4 hi _) rfl inX1 (by decide) wfl_X0_36 rfl ?_
  refine r_alen (t0 := 0) (v := 4) h.ok dX0_begin_38 (xo_5 hi _) rfl (show Int32.ofNat 4 = 4 by decide) ?_
  refine r_icmp_ge h.ok 99 dX0_begin_39 (by decide) (fun q => absurd q (by decide)) (fun _ => ?_)
  refine r_aload_n h.ok dX0_begin_42 4 rfl ?_
  refine r_get h.ok 4 dX0_begin_43 (xo_4 hi _) rfl inX1 (by decide) wfl_X0_36 rfl ?_
  refine r_iload h.ok dX0_begin_46 0 rfl ?_
  refine x_iald (v := I 5 i 0) h.ok 0 dX0_begin_48 (xo_5 hi _) (by decide) (by decide) (by decide) rfl ?_
  refine r_topi (fun n_0 e_n_0 => ?_)
  refine r_istore (lv' := [(6, .int n_0), (5, .int 0), (4, .int 0), (0, .ref (ad 2 0)), (1, .ref (ad 7 v)), (2, .ref (ad 4 i)), (3, .int m)]) h.ok dX0_begin_49 (by decide) rfl ?_
  refine r_aload_n h.ok dX0_begin_51 3 rfl ?_
  refine r_dup h.ok dX0_begin_52 rfl ?_
  refine r_get (v := .int (m + 2)) h.ok 3 dX0_begin_53 (xo_2 _) rfl inX0 (by decide) wfl_X0_33 (congrArg (fun z => some (Value.int z)) (by simp [gr, upd] : (gs (gs (gs I 2 0 1 h0) 2 0 2 0) 2 0 3 (m + 2)) 2 0 3 = m + 2)) ?_
  refine r_iload h.ok dX0_begin_56 0 rfl ?_
  refine r_iconst (v := 3) h.ok dX0_begin_58 (by decide) ?_
  refine r_mmin h.ok dX0_begin_59 wml_X0_40 ⟨by decide, Nat.le_of_ble_eq_true rfl, by decide, by decide⟩ ?_
  refine r_topi (fun p_0 e_p_0 => ?_)
  refine r_iadd h.ok dX0_begin_62 ?_
  refine r_put (ty := tyX0) h.ok 3 dX0_begin_63 (xo_2 _) rfl inX0 tyX0_ok nmX0 (by decide) wfl_X0_33 rfl rfl rfl (by simp) (cX_put (r' := upd ((gs (gs (gs I 2 0 1 h0) 2 0 2 0) 2 0 3 (m + 2)) 2 0) 3 ((m + 2) + p_0)) (xo_2 _)) ?_
  refine r_iload h.ok dX0_begin_66 0 rfl ?_
  refine r_iconst (v := 3) h.ok dX0_begin_68 (by decide) ?_
  have K_69_0 : ∀ (d_0 l_0 : Int32), (d_0 = (0 + (if n_0 ≤ 3 then h0 / 4 + (h0 - h0 / 4 * 4) else 0))) → (l_0 = (0 + (if n_0 ≤ 3 then 0 else 1))) → Rn 93 [(4, .int l_0), (6, .int n_0), (5, .int 0), (0, .ref (ad 2 0)), (1, .ref (ad 7 v)), (2, .ref (ad 4 i)), (3, .int m)] [] ad (cX E ad (gs (gs (gs (gs (gs I 2 0 1 h0) 2 0 2 0) 2 0 3 (m + 2)) 2 0 3 ((m + 2) + p_0)) 2 0 2 d_0) (gf F 1 0 (some v)) lc ln) 0 0 := by
    intro d_0 l_0  e_d_0 e_l_0
    refine r_iinc (v := 1) (lv' := [(5, .int 1), (4, .int l_0), (6, .int n_0), (0, .ref (ad 2 0)), (1, .ref (ad 7 v)), (2, .ref (ad 4 i)), (3, .int m)]) h.ok dX0_begin_93 2 rfl (by decide) (by decide) rfl ?_
    refine r_goto h.ok 32 dX0_begin_96 (by decide) ?_
    refine r_iload h.ok dX0_begin_32 0 rfl ?_
    refine r_aload_n h.ok dX0_begin_34 5 rfl ?_
    refine r_get h.ok 4 dX0_begin_35 (xo_4 hi _) rfl inX1 (by decide) wfl_X0_36 rfl ?_
    refine r_alen (t0 := 0) (v := 4) h.ok dX0_begin_38 (xo_5 hi _) rfl (show Int32.ofNat 4 = 4 by decide) ?_
    refine r_icmp_ge h.ok 99 dX0_begin_39 (by decide) (fun q => absurd q (by decide)) (fun _ => ?_)
    refine r_aload_n h.ok dX0_begin_42 5 rfl ?_
    refine r_get h.ok 4 dX0_begin_43 (xo_4 hi _) rfl inX1 (by decide) wfl_X0_36 rfl ?_
    refine r_iload h.ok dX0_begin_46 0 rfl ?_
    refine x_iald (v := I 5 i 1) h.ok 1 dX0_begin_48 (xo_5 hi _) (by decide) (by decide) (by decide) rfl ?_
    refine r_topi (fun n_1 e_n_1 => ?_)
    refine r_istore (lv' := [(6, .int n_1), (5, .int 1), (4, .int l_0), (0, .ref (ad 2 0)), (1, .ref (ad 7 v)), (2, .ref (ad 4 i)), (3, .int m)]) h.ok dX0_begin_49 (by decide) rfl ?_
    refine r_aload_n h.ok dX0_begin_51 3 rfl ?_
    refine r_dup h.ok dX0_begin_52 rfl ?_
    refine r_get (v := .int ((m + 2) + p_0)) h.ok 3 dX0_begin_53 (xo_2 _) rfl inX0 (by decide) wfl_X0_33 (congrArg (fun z => some (Value.int z)) (by simp [gr, upd] : (gs (gs (gs (gs (gs I 2 0 1 h0) 2 0 2 0) 2 0 3 (m + 2)) 2 0 3 ((m + 2) + p_0)) 2 0 2 d_0) 2 0 3 = (m + 2) + p_0)) ?_
    refine r_iload h.ok dX0_begin_56 0 rfl ?_
    refine r_iconst (v := 3) h.ok dX0_begin_58 (by decide) ?_
    refine r_mmin h.ok dX0_begin_59 wml_X0_40 ⟨by decide, Nat.le_of_ble_eq_true rfl, by decide, by decide⟩ ?_
    refine r_topi (fun p_1 e_p_1 => ?_)
    refine r_iadd h.ok dX0_begin_62 ?_
    refine r_put (ty := tyX0) h.ok 3 dX0_begin_63 (xo_2 _) rfl inX0 tyX0_ok nmX0 (by decide) wfl_X0_33 rfl rfl rfl (by simp) (cX_put (r' := upd ((gs (gs (gs (gs (gs I 2 0 1 h0) 2 0 2 0) 2 0 3 (m + 2)) 2 0 3 ((m + 2) + p_0)) 2 0 2 d_0) 2 0) 3 (((m + 2) + p_0) + p_1)) (xo_2 _)) ?_
    refine r_iload h.ok dX0_begin_66 0 rfl ?_
    refine r_iconst (v := 3) h.ok dX0_begin_68 (by decide) ?_
    have K_69_1 : ∀ (d_1 l_1 : Int32), (d_1 = (d_0 + (if n_1 ≤ 3 then h0 / 4 else 0))) → (l_1 = (l_0 + (if n_1 ≤ 3 then 0 else 1))) → Rn 93 [(4, .int l_1), (6, .int n_1), (5, .int 1), (0, .ref (ad 2 0)), (1, .ref (ad 7 v)), (2, .ref (ad 4 i)), (3, .int m)] [] ad (cX E ad (gs (gs (gs (gs (gs (gs (gs I 2 0 1 h0) 2 0 2 0) 2 0 3 (m + 2)) 2 0 3 ((m + 2) + p_0)) 2 0 2 d_0) 2 0 3 (((m + 2) + p_0) + p_1)) 2 0 2 d_1) (gf F 1 0 (some v)) lc ln) 0 0 := by
      intro d_1 l_1  e_d_1 e_l_1
      refine r_iinc (v := 2) (lv' := [(5, .int 2), (4, .int l_1), (6, .int n_1), (0, .ref (ad 2 0)), (1, .ref (ad 7 v)), (2, .ref (ad 4 i)), (3, .int m)]) h.ok dX0_begin_93 2 rfl (by decide) (by decide) rfl ?_
      refine r_goto h.ok 32 dX0_begin_96 (by decide) ?_
      refine r_iload h.ok dX0_begin_32 0 rfl ?_
      refine r_aload_n h.ok dX0_begin_34 5 rfl ?_
      refine r_get h.ok 4 dX0_begin_35 (xo_4 hi _) rfl inX1 (by decide) wfl_X0_36 rfl ?_
      refine r_alen (t0 := 0) (v := 4) h.ok dX0_begin_38 (xo_5 hi _) rfl (show Int32.ofNat 4 = 4 by decide) ?_
      refine r_icmp_ge h.ok 99 dX0_begin_39 (by decide) (fun q => absurd q (by decide)) (fun _ => ?_)
      refine r_aload_n h.ok dX0_begin_42 5 rfl ?_
      refine r_get h.ok 4 dX0_begin_43 (xo_4 hi _) rfl inX1 (by decide) wfl_X0_36 rfl ?_
      refine r_iload h.ok dX0_begin_46 0 rfl ?_
      refine x_iald (v := I 5 i 2) h.ok 2 dX0_begin_48 (xo_5 hi _) (by decide) (by decide) (by decide) rfl ?_
      refine r_topi (fun n_2 e_n_2 => ?_)
      refine r_istore (lv' := [(6, .int n_2), (5, .int 2), (4, .int l_1), (0, .ref (ad 2 0)), (1, .ref (ad 7 v)), (2, .ref (ad 4 i)), (3, .int m)]) h.ok dX0_begin_49 (by decide) rfl ?_
      refine r_aload_n h.ok dX0_begin_51 3 rfl ?_
      refine r_dup h.ok dX0_begin_52 rfl ?_
      refine r_get (v := .int (((m + 2) + p_0) + p_1)) h.ok 3 dX0_begin_53 (xo_2 _) rfl inX0 (by decide) wfl_X0_33 (congrArg (fun z => some (Value.int z)) (by simp [gr, upd] : (gs (gs (gs (gs (gs (gs (gs I 2 0 1 h0) 2 0 2 0) 2 0 3 (m + 2)) 2 0 3 ((m + 2) + p_0)) 2 0 2 d_0) 2 0 3 (((m + 2) + p_0) + p_1)) 2 0 2 d_1) 2 0 3 = ((m + 2) + p_0) + p_1)) ?_
      refine r_iload h.ok dX0_begin_56 0 rfl ?_
      refine r_iconst (v := 3) h.ok dX0_begin_58 (by decide) ?_
      refine r_mmin h.ok dX0_begin_59 wml_X0_40 ⟨by decide, Nat.le_of_ble_eq_true rfl, by decide, by decide⟩ ?_
      refine r_topi (fun p_2 e_p_2 => ?_)
      refine r_iadd h.ok dX0_begin_62 ?_
      refine r_put (ty := tyX0) h.ok 3 dX0_begin_63 (xo_2 _) rfl inX0 tyX0_ok nmX0 (by decide) wfl_X0_33 rfl rfl rfl (by simp) (cX_put (r' := upd ((gs (gs (gs (gs (gs (gs (gs I 2 0 1 h0) 2 0 2 0) 2 0 3 (m + 2)) 2 0 3 ((m + 2) + p_0)) 2 0 2 d_0) 2 0 3 (((m + 2) + p_0) + p_1)) 2 0 2 d_1) 2 0) 3 ((((m + 2) + p_0) + p_1) + p_2)) (xo_2 _)) ?_
      refine r_iload h.ok dX0_begin_66 0 rfl ?_
      refine r_iconst (v := 3) h.ok dX0_begin_68 (by decide) ?_
      have K_69_2 : ∀ (d_2 l_2 : Int32), (d_2 = (d_1 + (if n_2 ≤ 3 then h0 / 4 else 0))) → (l_2 = (l_1 + (if n_2 ≤ 3 then 0 else 1))) → Rn 93 [(4, .int l_2), (6, .int n_2), (5, .int 2), (0, .ref (ad 2 0)), (1, .ref (ad 7 v)), (2, .ref (ad 4 i)), (3, .int m)] [] ad (cX E ad (gs (gs (gs (gs (gs (gs (gs (gs (gs I 2 0 1 h0) 2 0 2 0) 2 0 3 (m + 2)) 2 0 3 ((m + 2) + p_0)) 2 0 2 d_0) 2 0 3 (((m + 2) + p_0) + p_1)) 2 0 2 d_1) 2 0 3 ((((m + 2) + p_0) + p_1) + p_2)) 2 0 2 d_2) (gf F 1 0 (some v)) lc ln) 0 0 := by
        intro d_2 l_2  e_d_2 e_l_2
        refine r_iinc (v := 3) (lv' := [(5, .int 3), (4, .int l_2), (6, .int n_2), (0, .ref (ad 2 0)), (1, .ref (ad 7 v)), (2, .ref (ad 4 i)), (3, .int m)]) h.ok dX0_begin_93 2 rfl (by decide) (by decide) rfl ?_
        refine r_goto h.ok 32 dX0_begin_96 (by decide) ?_
        refine r_iload h.ok dX0_begin_32 0 rfl ?_
        refine r_aload_n h.ok dX0_begin_34 5 rfl ?_
        refine r_get h.ok 4 dX0_begin_35 (xo_4 hi _) rfl inX1 (by decide) wfl_X0_36 rfl ?_
        refine r_alen (t0 := 0) (v := 4) h.ok dX0_begin_38 (xo_5 hi _) rfl (show Int32.ofNat 4 = 4 by decide) ?_
        refine r_icmp_ge h.ok 99 dX0_begin_39 (by decide) (fun q => absurd q (by decide)) (fun _ => ?_)
        refine r_aload_n h.ok dX0_begin_42 5 rfl ?_
        refine r_get h.ok 4 dX0_begin_43 (xo_4 hi _) rfl inX1 (by decide) wfl_X0_36 rfl ?_
        refine r_iload h.ok dX0_begin_46 0 rfl ?_
        refine x_iald (v := I 5 i 3) h.ok 3 dX0_begin_48 (xo_5 hi _) (by decide) (by decide) (by decide) rfl ?_
        refine r_topi (fun n_3 e_n_3 => ?_)
        refine r_istore (lv' := [(6, .int n_3), (5, .int 3), (4, .int l_2), (0, .ref (ad 2 0)), (1, .ref (ad 7 v)), (2, .ref (ad 4 i)), (3, .int m)]) h.ok dX0_begin_49 (by decide) rfl ?_
        refine r_aload_n h.ok dX0_begin_51 3 rfl ?_
        refine r_dup h.ok dX0_begin_52 rfl ?_
        refine r_get (v := .int ((((m + 2) + p_0) + p_1) + p_2)) h.ok 3 dX0_begin_53 (xo_2 _) rfl inX0 (by decide) wfl_X0_33 (congrArg (fun z => some (Value.int z)) (by simp [gr, upd] : (gs (gs (gs (gs (gs (gs (gs (gs (gs I 2 0 1 h0) 2 0 2 0) 2 0 3 (m + 2)) 2 0 3 ((m + 2) + p_0)) 2 0 2 d_0) 2 0 3 (((m + 2) + p_0) + p_1)) 2 0 2 d_1) 2 0 3 ((((m + 2) + p_0) + p_1) + p_2)) 2 0 2 d_2) 2 0 3 = (((m + 2) + p_0) + p_1) + p_2)) ?_
        refine r_iload h.ok dX0_begin_56 0 rfl ?_
        refine r_iconst (v := 3) h.ok dX0_begin_58 (by decide) ?_
        refine r_mmin h.ok dX0_begin_59 wml_X0_40 ⟨by decide, Nat.le_of_ble_eq_true rfl, by decide, by decide⟩ ?_
        refine r_topi (fun p_3 e_p_3 => ?_)
        refine r_iadd h.ok dX0_begin_62 ?_
        refine r_put (ty := tyX0) h.ok 3 dX0_begin_63 (xo_2 _) rfl inX0 tyX0_ok nmX0 (by decide) wfl_X0_33 rfl rfl rfl (by simp) (cX_put (r' := upd ((gs (gs (gs (gs (gs (gs (gs (gs (gs I 2 0 1 h0) 2 0 2 0) 2 0 3 (m + 2)) 2 0 3 ((m + 2) + p_0)) 2 0 2 d_0) 2 0 3 (((m + 2) + p_0) + p_1)) 2 0 2 d_1) 2 0 3 ((((m + 2) + p_0) + p_1) + p_2)) 2 0 2 d_2) 2 0) 3 (((((m + 2) + p_0) + p_1) + p_2) + p_3)) (xo_2 _)) ?_
        refine r_iload h.ok dX0_begin_66 0 rfl ?_
        refine r_iconst (v := 3) h.ok dX0_begin_68 (by decide) ?_
        have K_69_3 : ∀ (d_3 l_3 : Int32), (d_3 = (d_2 + (if n_3 ≤ 3 then h0 / 4 else 0))) → (l_3 = (l_2 + (if n_3 ≤ 3 then 0 else 1))) → Rn 93 [(4, .int l_3), (6, .int n_3), (5, .int 3), (0, .ref (ad 2 0)), (1, .ref (ad 7 v)), (2, .ref (ad 4 i)), (3, .int m)] [] ad (cX E ad (gs (gs (gs (gs (gs (gs (gs (gs (gs (gs (gs I 2 0 1 h0) 2 0 2 0) 2 0 3 (m + 2)) 2 0 3 ((m + 2) + p_0)) 2 0 2 d_0) 2 0 3 (((m + 2) + p_0) + p_1)) 2 0 2 d_1) 2 0 3 ((((m + 2) + p_0) + p_1) + p_2)) 2 0 2 d_2) 2 0 3 (((((m + 2) + p_0) + p_1) + p_2) + p_3)) 2 0 2 d_3) (gf F 1 0 (some v)) lc ln) 0 0 := by
          intro d_3 l_3  e_d_3 e_l_3
          refine r_iinc (v := 4) (lv' := [(5, .int 4), (4, .int l_3), (6, .int n_3), (0, .ref (ad 2 0)), (1, .ref (ad 7 v)), (2, .ref (ad 4 i)), (3, .int m)]) h.ok dX0_begin_93 2 rfl (by decide) (by decide) rfl ?_
          refine r_goto h.ok 32 dX0_begin_96 (by decide) ?_
          refine r_iload h.ok dX0_begin_32 0 rfl ?_
          refine r_aload_n h.ok dX0_begin_34 5 rfl ?_
          refine r_get h.ok 4 dX0_begin_35 (xo_4 hi _) rfl inX1 (by decide) wfl_X0_36 rfl ?_
          refine r_alen (t0 := 0) (v := 4) h.ok dX0_begin_38 (xo_5 hi _) rfl (show Int32.ofNat 4 = 4 by decide) ?_
          refine r_icmp_ge h.ok 99 dX0_begin_39 (by decide) (fun _ => ?_) (fun q => absurd q (by decide))
          refine r_aload_n h.ok dX0_begin_99 3 rfl ?_
          refine r_aload_n h.ok dX0_begin_100 3 rfl ?_
          refine r_get (v := .int (((((m + 2) + p_0) + p_1) + p_2) + p_3)) h.ok 3 dX0_begin_101 (xo_2 _) rfl inX0 (by decide) wfl_X0_33 (congrArg (fun z => some (Value.int z)) (by simp [gr, upd] : (gs (gs (gs (gs (gs (gs (gs (gs (gs (gs (gs I 2 0 1 h0) 2 0 2 0) 2 0 3 (m + 2)) 2 0 3 ((m + 2) + p_0)) 2 0 2 d_0) 2 0 3 (((m + 2) + p_0) + p_1)) 2 0 2 d_1) 2 0 3 ((((m + 2) + p_0) + p_1) + p_2)) 2 0 2 d_2) 2 0 3 (((((m + 2) + p_0) + p_1) + p_2) + p_3)) 2 0 2 d_3) 2 0 3 = ((((m + 2) + p_0) + p_1) + p_2) + p_3)) ?_
          refine r_aload_n h.ok dX0_begin_104 3 rfl ?_
          refine r_get (v := .int d_3) h.ok 2 dX0_begin_105 (xo_2 _) rfl inX0 (by decide) wfl_X0_30 (congrArg (fun z => some (Value.int z)) (by simp [gr, upd] : (gs (gs (gs (gs (gs (gs (gs (gs (gs (gs (gs I 2 0 1 h0) 2 0 2 0) 2 0 3 (m + 2)) 2 0 3 ((m + 2) + p_0)) 2 0 2 d_0) 2 0 3 (((m + 2) + p_0) + p_1)) 2 0 2 d_1) 2 0 3 ((((m + 2) + p_0) + p_1) + p_2)) 2 0 2 d_2) 2 0 3 (((((m + 2) + p_0) + p_1) + p_2) + p_3)) 2 0 2 d_3) 2 0 2 = d_3)) ?_
          refine r_bipush (v := 20) h.ok dX0_begin_108 (by decide) ?_
          refine r_iadd h.ok dX0_begin_110 ?_
          refine r_iconst (v := 1) h.ok dX0_begin_111 (by decide) ?_
          refine r_isub h.ok dX0_begin_112 ?_
          refine r_bipush (v := 20) h.ok dX0_begin_113 (by decide) ?_
          refine r_idiv h.ok dX0_begin_115 (by decide) ?_
          refine r_iadd h.ok dX0_begin_116 ?_
          refine r_put (ty := tyX0) h.ok 4 dX0_begin_117 (xo_2 _) rfl inX0 tyX0_ok nmX0 (by decide) wfl_X0_49 rfl rfl rfl (by simp) (cX_put (r' := upd ((gs (gs (gs (gs (gs (gs (gs (gs (gs (gs (gs I 2 0 1 h0) 2 0 2 0) 2 0 3 (m + 2)) 2 0 3 ((m + 2) + p_0)) 2 0 2 d_0) 2 0 3 (((m + 2) + p_0) + p_1)) 2 0 2 d_1) 2 0 3 ((((m + 2) + p_0) + p_1) + p_2)) 2 0 2 d_2) 2 0 3 (((((m + 2) + p_0) + p_1) + p_2) + p_3)) 2 0 2 d_3) 2 0) 4 ((((((m + 2) + p_0) + p_1) + p_2) + p_3) + (((d_3 + 20) - 1) / 20))) (xo_2 _)) ?_
          refine r_aload_n h.ok dX0_begin_120 4 rfl ?_
          refine r_iload_n h.ok dX0_begin_121 6 rfl ?_
          refine r_put (ty := tyX4) h.ok 6 dX0_begin_122 (xo_7 hv _) rfl inX4 tyX4_ok nmX4 (by decide) wfl_X0_52 rfl rfl rfl (by simp) (cX_put (r' := upd ((gs (gs (gs (gs (gs (gs (gs (gs (gs (gs (gs (gs I 2 0 1 h0) 2 0 2 0) 2 0 3 (m + 2)) 2 0 3 ((m + 2) + p_0)) 2 0 2 d_0) 2 0 3 (((m + 2) + p_0) + p_1)) 2 0 2 d_1) 2 0 3 ((((m + 2) + p_0) + p_1) + p_2)) 2 0 2 d_2) 2 0 3 (((((m + 2) + p_0) + p_1) + p_2) + p_3)) 2 0 2 d_3) 2 0 4 ((((((m + 2) + p_0) + p_1) + p_2) + p_3) + (((d_3 + 20) - 1) / 20))) 7 v) 6 m) (xo_7 hv _)) ?_
          refine r_aload_n h.ok dX0_begin_125 4 rfl ?_
          refine r_iload h.ok dX0_begin_126 1 rfl ?_
          refine r_put (ty := tyX4) h.ok 10 dX0_begin_128 (xo_7 hv _) rfl inX4 tyX4_ok nmX4 (by decide) wfl_X0_55 rfl rfl rfl (by simp) (cX_put (r' := upd ((gs (gs (gs (gs (gs (gs (gs (gs (gs (gs (gs (gs (gs I 2 0 1 h0) 2 0 2 0) 2 0 3 (m + 2)) 2 0 3 ((m + 2) + p_0)) 2 0 2 d_0) 2 0 3 (((m + 2) + p_0) + p_1)) 2 0 2 d_1) 2 0 3 ((((m + 2) + p_0) + p_1) + p_2)) 2 0 2 d_2) 2 0 3 (((((m + 2) + p_0) + p_1) + p_2) + p_3)) 2 0 2 d_3) 2 0 4 ((((((m + 2) + p_0) + p_1) + p_2) + p_3) + (((d_3 + 20) - 1) / 20))) 7 v 6 m) 7 v) 10 l_3) (xo_7 hv _)) ?_
          refine r_vret h dX0_begin_131 ⟨by decide, by decide⟩ ⟨rfl, rfl, (by subst e_l_3; subst e_d_3; subst e_p_3; subst e_n_3; subst e_l_2; subst e_d_2; subst e_p_2; subst e_n_2; subst e_l_1; subst e_d_1; subst e_p_1; subst e_n_1; subst e_l_0; subst e_d_0; subst e_p_0; subst e_n_0; unfold bArm_I; rfl)⟩
        refine r_icmp_le h.ok 78 dX0_begin_69 (by decide) (fun c_69_3 => ?_) (fun c_69_3 => ?_)
        · refine r_aload_n h.ok dX0_begin_78 3 rfl ?_
          refine r_dup h.ok dX0_begin_79 rfl ?_
          refine r_get (v := .int d_2) h.ok 2 dX0_begin_80 (xo_2 _) rfl inX0 (by decide) wfl_X0_30 (congrArg (fun z => some (Value.int z)) (by simp [gr, upd] : (gs (gs (gs (gs (gs (gs (gs (gs (gs (gs I 2 0 1 h0) 2 0 2 0) 2 0 3 (m + 2)) 2 0 3 ((m + 2) + p_0)) 2 0 2 d_0) 2 0 3 (((m + 2) + p_0) + p_1)) 2 0 2 d_1) 2 0 3 ((((m + 2) + p_0) + p_1) + p_2)) 2 0 2 d_2) 2 0 3 (((((m + 2) + p_0) + p_1) + p_2) + p_3)) 2 0 2 = d_2)) ?_
          refine r_aload_n h.ok dX0_begin_83 3 rfl ?_
          refine r_iload h.ok dX0_begin_84 1 rfl ?_
          refine r_callV h.ok [.int 3] [.int d_2, .ref (ad 2 0)] dX0_begin_86 (c_X0_milkOfTeat D E ad (gs (gs (gs (gs (gs (gs (gs (gs (gs (gs I 2 0 1 h0) 2 0 2 0) 2 0 3 (m + 2)) 2 0 3 ((m + 2) + p_0)) 2 0 2 d_0) 2 0 3 (((m + 2) + p_0) + p_1)) 2 0 2 d_1) 2 0 3 ((((m + 2) + p_0) + p_1) + p_2)) 2 0 2 d_2) 2 0 3 (((((m + 2) + p_0) + p_1) + p_2) + p_3)) (gf F 1 0 (some v)) lc ln 3) wml_X0_46 wim_X0_milkOfTeat wse_X0_milkOfTeat win_X0 wco_X0_milkOfTeat yok_X0_milkOfTeat (xo_2 _) rfl rfl ⟨by decide, by decide, by simp [gRm], by simp [gRm]⟩ (Nat.le_of_ble_eq_true rfl) rfl ?_
          show Rn 89 [(6, .int n_3), (5, .int 3), (4, .int l_2), (0, .ref (ad 2 0)), (1, .ref (ad 7 v)), (2, .ref (ad 4 i)), (3, .int m)] [.int (bTeat_r (gs (gs (gs (gs (gs (gs (gs (gs (gs (gs I 2 0 1 h0) 2 0 2 0) 2 0 3 (m + 2)) 2 0 3 ((m + 2) + p_0)) 2 0 2 d_0) 2 0 3 (((m + 2) + p_0) + p_1)) 2 0 2 d_1) 2 0 3 ((((m + 2) + p_0) + p_1) + p_2)) 2 0 2 d_2) 2 0 3 (((((m + 2) + p_0) + p_1) + p_2) + p_3)) (gf F 1 0 (some v)) 3), .int d_2, .ref (ad 2 0)] ad (cX E ad (gs (gs (gs (gs (gs (gs (gs (gs (gs (gs I 2 0 1 h0) 2 0 2 0) 2 0 3 (m + 2)) 2 0 3 ((m + 2) + p_0)) 2 0 2 d_0) 2 0 3 (((m + 2) + p_0) + p_1)) 2 0 2 d_1) 2 0 3 ((((m + 2) + p_0) + p_1) + p_2)) 2 0 2 d_2) 2 0 3 (((((m + 2) + p_0) + p_1) + p_2) + p_3)) (gf F 1 0 (some v)) lc ln) 0 0
          rw [show bTeat_r (gs (gs (gs (gs (gs (gs (gs (gs (gs (gs I 2 0 1 h0) 2 0 2 0) 2 0 3 (m + 2)) 2 0 3 ((m + 2) + p_0)) 2 0 2 d_0) 2 0 3 (((m + 2) + p_0) + p_1)) 2 0 2 d_1) 2 0 3 ((((m + 2) + p_0) + p_1) + p_2)) 2 0 2 d_2) 2 0 3 (((((m + 2) + p_0) + p_1) + p_2) + p_3)) (gf F 1 0 (some v)) 3 = h0 / 4 from by simp [bTeat_r, gr, upd]]
          refine r_iadd h.ok dX0_begin_89 ?_
          refine r_put (ty := tyX0) h.ok 2 dX0_begin_90 (xo_2 _) rfl inX0 tyX0_ok nmX0 (by decide) wfl_X0_30 rfl rfl rfl (by simp) (cX_put (r' := upd ((gs (gs (gs (gs (gs (gs (gs (gs (gs (gs I 2 0 1 h0) 2 0 2 0) 2 0 3 (m + 2)) 2 0 3 ((m + 2) + p_0)) 2 0 2 d_0) 2 0 3 (((m + 2) + p_0) + p_1)) 2 0 2 d_1) 2 0 3 ((((m + 2) + p_0) + p_1) + p_2)) 2 0 2 d_2) 2 0 3 (((((m + 2) + p_0) + p_1) + p_2) + p_3)) 2 0) 2 (d_2 + (h0 / 4))) (xo_2 _)) ?_
          refine r_lv (lv' := [(4, .int l_2), (6, .int n_3), (5, .int 3), (0, .ref (ad 2 0)), (1, .ref (ad 7 v)), (2, .ref (ad 4 i)), (3, .int m)]) h.ok [2, 0, 1, 3, 4, 5, 6] rfl ?_
          show Rn 93 [(4, .int l_2), (6, .int n_3), (5, .int 3), (0, .ref (ad 2 0)), (1, .ref (ad 7 v)), (2, .ref (ad 4 i)), (3, .int m)] [] ad (cX E ad (gs (gs (gs (gs (gs (gs (gs (gs (gs (gs (gs I 2 0 1 h0) 2 0 2 0) 2 0 3 (m + 2)) 2 0 3 ((m + 2) + p_0)) 2 0 2 d_0) 2 0 3 (((m + 2) + p_0) + p_1)) 2 0 2 d_1) 2 0 3 ((((m + 2) + p_0) + p_1) + p_2)) 2 0 2 d_2) 2 0 3 (((((m + 2) + p_0) + p_1) + p_2) + p_3)) 2 0 2 (d_2 + (h0 / 4))) (gf F 1 0 (some v)) lc ln) 0 0
          exact K_69_3 _ _ (by rw [if_pos c_69_3]) (by rw [if_pos c_69_3]; exact (Int32.add_zero _).symm)
        · refine r_iinc (v := l_2 + 1) (lv' := [(4, .int (l_2 + 1)), (6, .int n_3), (5, .int 3), (0, .ref (ad 2 0)), (1, .ref (ad 7 v)), (2, .ref (ad 4 i)), (3, .int m)]) h.ok dX0_begin_72 2 rfl rfl (by decide) rfl ?_
          refine r_goto h.ok 93 dX0_begin_75 (by decide) ?_
          show Rn 93 [(4, .int (l_2 + 1)), (6, .int n_3), (5, .int 3), (0, .ref (ad 2 0)), (1, .ref (ad 7 v)), (2, .ref (ad 4 i)), (3, .int m)] [] ad (cX E ad (gs (gs (gs (gs (gs (gs (gs (gs (gs (gs I 2 0 1 h0) 2 0 2 0) 2 0 3 (m + 2)) 2 0 3 ((m + 2) + p_0)) 2 0 2 d_0) 2 0 3 (((m + 2) + p_0) + p_1)) 2 0 2 d_1) 2 0 3 ((((m + 2) + p_0) + p_1) + p_2)) 2 0 2 d_2) 2 0 3 (((((m + 2) + p_0) + p_1) + p_2) + p_3)) (gf F 1 0 (some v)) lc ln) 0 0
          rw [show gs (gs (gs (gs (gs (gs (gs (gs (gs (gs I 2 0 1 h0) 2 0 2 0) 2 0 3 (m + 2)) 2 0 3 ((m + 2) + p_0)) 2 0 2 d_0) 2 0 3 (((m + 2) + p_0) + p_1)) 2 0 2 d_1) 2 0 3 ((((m + 2) + p_0) + p_1) + p_2)) 2 0 2 d_2) 2 0 3 (((((m + 2) + p_0) + p_1) + p_2) + p_3) = gs (gs (gs (gs (gs (gs (gs (gs (gs (gs (gs I 2 0 1 h0) 2 0 2 0) 2 0 3 (m + 2)) 2 0 3 ((m + 2) + p_0)) 2 0 2 d_0) 2 0 3 (((m + 2) + p_0) + p_1)) 2 0 2 d_1) 2 0 3 ((((m + 2) + p_0) + p_1) + p_2)) 2 0 2 d_2) 2 0 3 (((((m + 2) + p_0) + p_1) + p_2) + p_3)) 2 0 2 d_2 from (gs_same (by simp [gr, upd])).symm]
          exact K_69_3 _ _ (by rw [if_neg c_69_3]; exact (Int32.add_zero _).symm) (by rw [if_neg c_69_3])
      refine r_icmp_le h.ok 78 dX0_begin_69 (by decide) (fun c_69_2 => ?_) (fun c_69_2 => ?_)
      · refine r_aload_n h.ok dX0_begin_78 3 rfl ?_
        refine r_dup h.ok dX0_begin_79 rfl ?_
        refine r_get (v := .int d_1) h.ok 2 dX0_begin_80 (xo_2 _) rfl inX0 (by decide) wfl_X0_30 (congrArg (fun z => some (Value.int z)) (by simp [gr, upd] : (gs (gs (gs (gs (gs (gs (gs (gs I 2 0 1 h0) 2 0 2 0) 2 0 3 (m + 2)) 2 0 3 ((m + 2) + p_0)) 2 0 2 d_0) 2 0 3 (((m + 2) + p_0) + p_1)) 2 0 2 d_1) 2 0 3 ((((m + 2) + p_0) + p_1) + p_2)) 2 0 2 = d_1)) ?_
        refine r_aload_n h.ok dX0_begin_83 3 rfl ?_
        refine r_iload h.ok dX0_begin_84 1 rfl ?_
        refine r_callV h.ok [.int 2] [.int d_1, .ref (ad 2 0)] dX0_begin_86 (c_X0_milkOfTeat D E ad (gs (gs (gs (gs (gs (gs (gs (gs I 2 0 1 h0) 2 0 2 0) 2 0 3 (m + 2)) 2 0 3 ((m + 2) + p_0)) 2 0 2 d_0) 2 0 3 (((m + 2) + p_0) + p_1)) 2 0 2 d_1) 2 0 3 ((((m + 2) + p_0) + p_1) + p_2)) (gf F 1 0 (some v)) lc ln 2) wml_X0_46 wim_X0_milkOfTeat wse_X0_milkOfTeat win_X0 wco_X0_milkOfTeat yok_X0_milkOfTeat (xo_2 _) rfl rfl ⟨by decide, by decide, by simp [gRm], by simp [gRm]⟩ (Nat.le_of_ble_eq_true rfl) rfl ?_
        show Rn 89 [(6, .int n_2), (5, .int 2), (4, .int l_1), (0, .ref (ad 2 0)), (1, .ref (ad 7 v)), (2, .ref (ad 4 i)), (3, .int m)] [.int (bTeat_r (gs (gs (gs (gs (gs (gs (gs (gs I 2 0 1 h0) 2 0 2 0) 2 0 3 (m + 2)) 2 0 3 ((m + 2) + p_0)) 2 0 2 d_0) 2 0 3 (((m + 2) + p_0) + p_1)) 2 0 2 d_1) 2 0 3 ((((m + 2) + p_0) + p_1) + p_2)) (gf F 1 0 (some v)) 2), .int d_1, .ref (ad 2 0)] ad (cX E ad (gs (gs (gs (gs (gs (gs (gs (gs I 2 0 1 h0) 2 0 2 0) 2 0 3 (m + 2)) 2 0 3 ((m + 2) + p_0)) 2 0 2 d_0) 2 0 3 (((m + 2) + p_0) + p_1)) 2 0 2 d_1) 2 0 3 ((((m + 2) + p_0) + p_1) + p_2)) (gf F 1 0 (some v)) lc ln) 0 0
        rw [show bTeat_r (gs (gs (gs (gs (gs (gs (gs (gs I 2 0 1 h0) 2 0 2 0) 2 0 3 (m + 2)) 2 0 3 ((m + 2) + p_0)) 2 0 2 d_0) 2 0 3 (((m + 2) + p_0) + p_1)) 2 0 2 d_1) 2 0 3 ((((m + 2) + p_0) + p_1) + p_2)) (gf F 1 0 (some v)) 2 = h0 / 4 from by simp [bTeat_r, gr, upd]]
        refine r_iadd h.ok dX0_begin_89 ?_
        refine r_put (ty := tyX0) h.ok 2 dX0_begin_90 (xo_2 _) rfl inX0 tyX0_ok nmX0 (by decide) wfl_X0_30 rfl rfl rfl (by simp) (cX_put (r' := upd ((gs (gs (gs (gs (gs (gs (gs (gs I 2 0 1 h0) 2 0 2 0) 2 0 3 (m + 2)) 2 0 3 ((m + 2) + p_0)) 2 0 2 d_0) 2 0 3 (((m + 2) + p_0) + p_1)) 2 0 2 d_1) 2 0 3 ((((m + 2) + p_0) + p_1) + p_2)) 2 0) 2 (d_1 + (h0 / 4))) (xo_2 _)) ?_
        refine r_lv (lv' := [(4, .int l_1), (6, .int n_2), (5, .int 2), (0, .ref (ad 2 0)), (1, .ref (ad 7 v)), (2, .ref (ad 4 i)), (3, .int m)]) h.ok [2, 0, 1, 3, 4, 5, 6] rfl ?_
        show Rn 93 [(4, .int l_1), (6, .int n_2), (5, .int 2), (0, .ref (ad 2 0)), (1, .ref (ad 7 v)), (2, .ref (ad 4 i)), (3, .int m)] [] ad (cX E ad (gs (gs (gs (gs (gs (gs (gs (gs (gs I 2 0 1 h0) 2 0 2 0) 2 0 3 (m + 2)) 2 0 3 ((m + 2) + p_0)) 2 0 2 d_0) 2 0 3 (((m + 2) + p_0) + p_1)) 2 0 2 d_1) 2 0 3 ((((m + 2) + p_0) + p_1) + p_2)) 2 0 2 (d_1 + (h0 / 4))) (gf F 1 0 (some v)) lc ln) 0 0
        exact K_69_2 _ _ (by rw [if_pos c_69_2]) (by rw [if_pos c_69_2]; exact (Int32.add_zero _).symm)
      · refine r_iinc (v := l_1 + 1) (lv' := [(4, .int (l_1 + 1)), (6, .int n_2), (5, .int 2), (0, .ref (ad 2 0)), (1, .ref (ad 7 v)), (2, .ref (ad 4 i)), (3, .int m)]) h.ok dX0_begin_72 2 rfl rfl (by decide) rfl ?_
        refine r_goto h.ok 93 dX0_begin_75 (by decide) ?_
        show Rn 93 [(4, .int (l_1 + 1)), (6, .int n_2), (5, .int 2), (0, .ref (ad 2 0)), (1, .ref (ad 7 v)), (2, .ref (ad 4 i)), (3, .int m)] [] ad (cX E ad (gs (gs (gs (gs (gs (gs (gs (gs I 2 0 1 h0) 2 0 2 0) 2 0 3 (m + 2)) 2 0 3 ((m + 2) + p_0)) 2 0 2 d_0) 2 0 3 (((m + 2) + p_0) + p_1)) 2 0 2 d_1) 2 0 3 ((((m + 2) + p_0) + p_1) + p_2)) (gf F 1 0 (some v)) lc ln) 0 0
        rw [show gs (gs (gs (gs (gs (gs (gs (gs I 2 0 1 h0) 2 0 2 0) 2 0 3 (m + 2)) 2 0 3 ((m + 2) + p_0)) 2 0 2 d_0) 2 0 3 (((m + 2) + p_0) + p_1)) 2 0 2 d_1) 2 0 3 ((((m + 2) + p_0) + p_1) + p_2) = gs (gs (gs (gs (gs (gs (gs (gs (gs I 2 0 1 h0) 2 0 2 0) 2 0 3 (m + 2)) 2 0 3 ((m + 2) + p_0)) 2 0 2 d_0) 2 0 3 (((m + 2) + p_0) + p_1)) 2 0 2 d_1) 2 0 3 ((((m + 2) + p_0) + p_1) + p_2)) 2 0 2 d_1 from (gs_same (by simp [gr, upd])).symm]
        exact K_69_2 _ _ (by rw [if_neg c_69_2]; exact (Int32.add_zero _).symm) (by rw [if_neg c_69_2])
    refine r_icmp_le h.ok 78 dX0_begin_69 (by decide) (fun c_69_1 => ?_) (fun c_69_1 => ?_)
    · refine r_aload_n h.ok dX0_begin_78 3 rfl ?_
      refine r_dup h.ok dX0_begin_79 rfl ?_
      refine r_get (v := .int d_0) h.ok 2 dX0_begin_80 (xo_2 _) rfl inX0 (by decide) wfl_X0_30 (congrArg (fun z => some (Value.int z)) (by simp [gr, upd] : (gs (gs (gs (gs (gs (gs I 2 0 1 h0) 2 0 2 0) 2 0 3 (m + 2)) 2 0 3 ((m + 2) + p_0)) 2 0 2 d_0) 2 0 3 (((m + 2) + p_0) + p_1)) 2 0 2 = d_0)) ?_
      refine r_aload_n h.ok dX0_begin_83 3 rfl ?_
      refine r_iload h.ok dX0_begin_84 1 rfl ?_
      refine r_callV h.ok [.int 1] [.int d_0, .ref (ad 2 0)] dX0_begin_86 (c_X0_milkOfTeat D E ad (gs (gs (gs (gs (gs (gs I 2 0 1 h0) 2 0 2 0) 2 0 3 (m + 2)) 2 0 3 ((m + 2) + p_0)) 2 0 2 d_0) 2 0 3 (((m + 2) + p_0) + p_1)) (gf F 1 0 (some v)) lc ln 1) wml_X0_46 wim_X0_milkOfTeat wse_X0_milkOfTeat win_X0 wco_X0_milkOfTeat yok_X0_milkOfTeat (xo_2 _) rfl rfl ⟨by decide, by decide, by simp [gRm], by simp [gRm]⟩ (Nat.le_of_ble_eq_true rfl) rfl ?_
      show Rn 89 [(6, .int n_1), (5, .int 1), (4, .int l_0), (0, .ref (ad 2 0)), (1, .ref (ad 7 v)), (2, .ref (ad 4 i)), (3, .int m)] [.int (bTeat_r (gs (gs (gs (gs (gs (gs I 2 0 1 h0) 2 0 2 0) 2 0 3 (m + 2)) 2 0 3 ((m + 2) + p_0)) 2 0 2 d_0) 2 0 3 (((m + 2) + p_0) + p_1)) (gf F 1 0 (some v)) 1), .int d_0, .ref (ad 2 0)] ad (cX E ad (gs (gs (gs (gs (gs (gs I 2 0 1 h0) 2 0 2 0) 2 0 3 (m + 2)) 2 0 3 ((m + 2) + p_0)) 2 0 2 d_0) 2 0 3 (((m + 2) + p_0) + p_1)) (gf F 1 0 (some v)) lc ln) 0 0
      rw [show bTeat_r (gs (gs (gs (gs (gs (gs I 2 0 1 h0) 2 0 2 0) 2 0 3 (m + 2)) 2 0 3 ((m + 2) + p_0)) 2 0 2 d_0) 2 0 3 (((m + 2) + p_0) + p_1)) (gf F 1 0 (some v)) 1 = h0 / 4 from by simp [bTeat_r, gr, upd]]
      refine r_iadd h.ok dX0_begin_89 ?_
      refine r_put (ty := tyX0) h.ok 2 dX0_begin_90 (xo_2 _) rfl inX0 tyX0_ok nmX0 (by decide) wfl_X0_30 rfl rfl rfl (by simp) (cX_put (r' := upd ((gs (gs (gs (gs (gs (gs I 2 0 1 h0) 2 0 2 0) 2 0 3 (m + 2)) 2 0 3 ((m + 2) + p_0)) 2 0 2 d_0) 2 0 3 (((m + 2) + p_0) + p_1)) 2 0) 2 (d_0 + (h0 / 4))) (xo_2 _)) ?_
      refine r_lv (lv' := [(4, .int l_0), (6, .int n_1), (5, .int 1), (0, .ref (ad 2 0)), (1, .ref (ad 7 v)), (2, .ref (ad 4 i)), (3, .int m)]) h.ok [2, 0, 1, 3, 4, 5, 6] rfl ?_
      show Rn 93 [(4, .int l_0), (6, .int n_1), (5, .int 1), (0, .ref (ad 2 0)), (1, .ref (ad 7 v)), (2, .ref (ad 4 i)), (3, .int m)] [] ad (cX E ad (gs (gs (gs (gs (gs (gs (gs I 2 0 1 h0) 2 0 2 0) 2 0 3 (m + 2)) 2 0 3 ((m + 2) + p_0)) 2 0 2 d_0) 2 0 3 (((m + 2) + p_0) + p_1)) 2 0 2 (d_0 + (h0 / 4))) (gf F 1 0 (some v)) lc ln) 0 0
      exact K_69_1 _ _ (by rw [if_pos c_69_1]) (by rw [if_pos c_69_1]; exact (Int32.add_zero _).symm)
    · refine r_iinc (v := l_0 + 1) (lv' := [(4, .int (l_0 + 1)), (6, .int n_1), (5, .int 1), (0, .ref (ad 2 0)), (1, .ref (ad 7 v)), (2, .ref (ad 4 i)), (3, .int m)]) h.ok dX0_begin_72 2 rfl rfl (by decide) rfl ?_
      refine r_goto h.ok 93 dX0_begin_75 (by decide) ?_
      show Rn 93 [(4, .int (l_0 + 1)), (6, .int n_1), (5, .int 1), (0, .ref (ad 2 0)), (1, .ref (ad 7 v)), (2, .ref (ad 4 i)), (3, .int m)] [] ad (cX E ad (gs (gs (gs (gs (gs (gs I 2 0 1 h0) 2 0 2 0) 2 0 3 (m + 2)) 2 0 3 ((m + 2) + p_0)) 2 0 2 d_0) 2 0 3 (((m + 2) + p_0) + p_1)) (gf F 1 0 (some v)) lc ln) 0 0
      rw [show gs (gs (gs (gs (gs (gs I 2 0 1 h0) 2 0 2 0) 2 0 3 (m + 2)) 2 0 3 ((m + 2) + p_0)) 2 0 2 d_0) 2 0 3 (((m + 2) + p_0) + p_1) = gs (gs (gs (gs (gs (gs (gs I 2 0 1 h0) 2 0 2 0) 2 0 3 (m + 2)) 2 0 3 ((m + 2) + p_0)) 2 0 2 d_0) 2 0 3 (((m + 2) + p_0) + p_1)) 2 0 2 d_0 from (gs_same (by simp [gr, upd])).symm]
      exact K_69_1 _ _ (by rw [if_neg c_69_1]; exact (Int32.add_zero _).symm) (by rw [if_neg c_69_1])
  refine r_icmp_le h.ok 78 dX0_begin_69 (by decide) (fun c_69_0 => ?_) (fun c_69_0 => ?_)
  · refine r_aload_n h.ok dX0_begin_78 3 rfl ?_
    refine r_dup h.ok dX0_begin_79 rfl ?_
    refine r_get (v := .int 0) h.ok 2 dX0_begin_80 (xo_2 _) rfl inX0 (by decide) wfl_X0_30 (congrArg (fun z => some (Value.int z)) (by simp [gr, upd] : (gs (gs (gs (gs I 2 0 1 h0) 2 0 2 0) 2 0 3 (m + 2)) 2 0 3 ((m + 2) + p_0)) 2 0 2 = 0)) ?_
    refine r_aload_n h.ok dX0_begin_83 3 rfl ?_
    refine r_iload h.ok dX0_begin_84 1 rfl ?_
    refine r_callV h.ok [.int 0] [.int 0, .ref (ad 2 0)] dX0_begin_86 (c_X0_milkOfTeat D E ad (gs (gs (gs (gs I 2 0 1 h0) 2 0 2 0) 2 0 3 (m + 2)) 2 0 3 ((m + 2) + p_0)) (gf F 1 0 (some v)) lc ln 0) wml_X0_46 wim_X0_milkOfTeat wse_X0_milkOfTeat win_X0 wco_X0_milkOfTeat yok_X0_milkOfTeat (xo_2 _) rfl rfl ⟨by decide, by decide, by simp [gRm], by simp [gRm]⟩ (Nat.le_of_ble_eq_true rfl) rfl ?_
    show Rn 89 [(6, .int n_0), (5, .int 0), (4, .int 0), (0, .ref (ad 2 0)), (1, .ref (ad 7 v)), (2, .ref (ad 4 i)), (3, .int m)] [.int (bTeat_r (gs (gs (gs (gs I 2 0 1 h0) 2 0 2 0) 2 0 3 (m + 2)) 2 0 3 ((m + 2) + p_0)) (gf F 1 0 (some v)) 0), .int 0, .ref (ad 2 0)] ad (cX E ad (gs (gs (gs (gs I 2 0 1 h0) 2 0 2 0) 2 0 3 (m + 2)) 2 0 3 ((m + 2) + p_0)) (gf F 1 0 (some v)) lc ln) 0 0
    rw [show bTeat_r (gs (gs (gs (gs I 2 0 1 h0) 2 0 2 0) 2 0 3 (m + 2)) 2 0 3 ((m + 2) + p_0)) (gf F 1 0 (some v)) 0 = h0 / 4 + (h0 - h0 / 4 * 4) from by simp [bTeat_r, gr, upd]]
    refine r_iadd h.ok dX0_begin_89 ?_
    refine r_put (ty := tyX0) h.ok 2 dX0_begin_90 (xo_2 _) rfl inX0 tyX0_ok nmX0 (by decide) wfl_X0_30 rfl rfl rfl (by simp) (cX_put (r' := upd ((gs (gs (gs (gs I 2 0 1 h0) 2 0 2 0) 2 0 3 (m + 2)) 2 0 3 ((m + 2) + p_0)) 2 0) 2 (0 + (h0 / 4 + (h0 - h0 / 4 * 4)))) (xo_2 _)) ?_
    refine r_lv (lv' := [(4, .int 0), (6, .int n_0), (5, .int 0), (0, .ref (ad 2 0)), (1, .ref (ad 7 v)), (2, .ref (ad 4 i)), (3, .int m)]) h.ok [2, 0, 1, 3, 4, 5, 6] rfl ?_
    show Rn 93 [(4, .int 0), (6, .int n_0), (5, .int 0), (0, .ref (ad 2 0)), (1, .ref (ad 7 v)), (2, .ref (ad 4 i)), (3, .int m)] [] ad (cX E ad (gs (gs (gs (gs (gs I 2 0 1 h0) 2 0 2 0) 2 0 3 (m + 2)) 2 0 3 ((m + 2) + p_0)) 2 0 2 (0 + (h0 / 4 + (h0 - h0 / 4 * 4)))) (gf F 1 0 (some v)) lc ln) 0 0
    exact K_69_0 _ _ (by rw [if_pos c_69_0]) (by rw [if_pos c_69_0]; exact (Int32.add_zero _).symm)
  · refine r_iinc (v := 0 + 1) (lv' := [(4, .int (0 + 1)), (6, .int n_0), (5, .int 0), (0, .ref (ad 2 0)), (1, .ref (ad 7 v)), (2, .ref (ad 4 i)), (3, .int m)]) h.ok dX0_begin_72 2 rfl rfl (by decide) rfl ?_
    refine r_goto h.ok 93 dX0_begin_75 (by decide) ?_
    show Rn 93 [(4, .int (0 + 1)), (6, .int n_0), (5, .int 0), (0, .ref (ad 2 0)), (1, .ref (ad 7 v)), (2, .ref (ad 4 i)), (3, .int m)] [] ad (cX E ad (gs (gs (gs (gs I 2 0 1 h0) 2 0 2 0) 2 0 3 (m + 2)) 2 0 3 ((m + 2) + p_0)) (gf F 1 0 (some v)) lc ln) 0 0
    rw [show gs (gs (gs (gs I 2 0 1 h0) 2 0 2 0) 2 0 3 (m + 2)) 2 0 3 ((m + 2) + p_0) = gs (gs (gs (gs (gs I 2 0 1 h0) 2 0 2 0) 2 0 3 (m + 2)) 2 0 3 ((m + 2) + p_0)) 2 0 2 0 from (gs_same (by simp [gr, upd])).symm]
    exact K_69_0 _ _ (by rw [if_neg c_69_0]; exact (Int32.add_zero _).symm) (by rw [if_neg c_69_0])
end
section
theorem zz_end : True := trivial
end
