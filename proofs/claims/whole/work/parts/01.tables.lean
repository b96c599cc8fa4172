-- ===== PART A: goes FIRST, ahead of the names: the tables' words, and 'selects' of the private methods out of them =====
/-- a private method of a class that the tables say can be made, by its rows of tables_1 -/
def lw_okq (q : MethodName × Nat) : Prop := (q.1.cls ≠ "java/lang/invoke/MethodHandle" ∧ q.1.cls ≠ "java/lang/invoke/VarHandle") ∧ Cond.instantiable q.1.cls q.2 ∈ tables_1 ∧ Cond.privateMethod q.1 ∈ tables_1 ∧ Cond.instanceMethod q.1 ∈ tables_1
theorem lw_p0 : lw_okq (⟨"MilkBox", "cowAt", "(I)LMilkBox$Cow;"⟩, 14) := ⟨⟨by decide +kernel, by decide +kernel⟩, List.mem_of_getElem? (i := 10) (by decide +kernel), List.mem_of_getElem? (i := 203) (by decide +kernel), List.mem_of_getElem? (i := 204) (by decide +kernel)⟩
theorem lw_p1 : lw_okq (⟨"MilkBox", "finishMilking", "(I)V"⟩, 14) := ⟨⟨by decide +kernel, by decide +kernel⟩, List.mem_of_getElem? (i := 10) (by decide +kernel), List.mem_of_getElem? (i := 255) (by decide +kernel), List.mem_of_getElem? (i := 256) (by decide +kernel)⟩
theorem lw_p2 : lw_okq (⟨"MilkBox", "fillBox", "()V"⟩, 14) := ⟨⟨by decide +kernel, by decide +kernel⟩, List.mem_of_getElem? (i := 10) (by decide +kernel), List.mem_of_getElem? (i := 280) (by decide +kernel), List.mem_of_getElem? (i := 281) (by decide +kernel)⟩
theorem lw_p3 : lw_okq (⟨"MilkBox$Line", "choose", "(I)I"⟩, 2) := ⟨⟨by decide +kernel, by decide +kernel⟩, List.mem_of_getElem? (i := 22) (by decide +kernel), List.mem_of_getElem? (i := 288) (by decide +kernel), List.mem_of_getElem? (i := 289) (by decide +kernel)⟩
theorem lw_p4 : lw_okq (⟨"MilkBox$Line", "closeUp", "(I)V"⟩, 2) := ⟨⟨by decide +kernel, by decide +kernel⟩, List.mem_of_getElem? (i := 22) (by decide +kernel), List.mem_of_getElem? (i := 292) (by decide +kernel), List.mem_of_getElem? (i := 293) (by decide +kernel)⟩
theorem lw_p5 : lw_okq (⟨"MilkBox$Arm", "milkOfTeat", "(I)I"⟩, 5) := ⟨⟨by decide +kernel, by decide +kernel⟩, List.mem_of_getElem? (i := 37) (by decide +kernel), List.mem_of_getElem? (i := 303) (by decide +kernel), List.mem_of_getElem? (i := 304) (by decide +kernel)⟩
theorem lw_p6 : lw_okq (⟨"MilkBox", "visitAt", "(I)LMilkBox$Visit;"⟩, 14) := ⟨⟨by decide +kernel, by decide +kernel⟩, List.mem_of_getElem? (i := 10) (by decide +kernel), List.mem_of_getElem? (i := 425) (by decide +kernel), List.mem_of_getElem? (i := 426) (by decide +kernel)⟩
theorem lw_p7 : lw_okq (⟨"MilkBox", "countAhead", "(I)I"⟩, 14) := ⟨⟨by decide +kernel, by decide +kernel⟩, List.mem_of_getElem? (i := 10) (by decide +kernel), List.mem_of_getElem? (i := 458) (by decide +kernel), List.mem_of_getElem? (i := 459) (by decide +kernel)⟩
theorem lw_p8 : lw_okq (⟨"MilkBoxModel", "noCow", "(I)Z"⟩, 43) := ⟨⟨by decide +kernel, by decide +kernel⟩, List.mem_of_getElem? (i := 471) (by decide +kernel), List.mem_of_getElem? (i := 623) (by decide +kernel), List.mem_of_getElem? (i := 624) (by decide +kernel)⟩
theorem lw_p9 : lw_okq (⟨"MilkBoxModel", "has", "(I)I"⟩, 43) := ⟨⟨by decide +kernel, by decide +kernel⟩, List.mem_of_getElem? (i := 471) (by decide +kernel), List.mem_of_getElem? (i := 642) (by decide +kernel), List.mem_of_getElem? (i := 643) (by decide +kernel)⟩
theorem lw_p10 : lw_okq (⟨"MilkBoxModel", "hasRight", "(I)Z"⟩, 43) := ⟨⟨by decide +kernel, by decide +kernel⟩, List.mem_of_getElem? (i := 471) (by decide +kernel), List.mem_of_getElem? (i := 646) (by decide +kernel), List.mem_of_getElem? (i := 647) (by decide +kernel)⟩
theorem lw_p11 : lw_okq (⟨"MilkBoxModel", "fedToday", "(I)I"⟩, 43) := ⟨⟨by decide +kernel, by decide +kernel⟩, List.mem_of_getElem? (i := 471) (by decide +kernel), List.mem_of_getElem? (i := 650) (by decide +kernel), List.mem_of_getElem? (i := 651) (by decide +kernel)⟩
theorem lw_p12 : lw_okq (⟨"MilkBoxModel", "placeOf", "(I)I"⟩, 43) := ⟨⟨by decide +kernel, by decide +kernel⟩, List.mem_of_getElem? (i := 471) (by decide +kernel), List.mem_of_getElem? (i := 654) (by decide +kernel), List.mem_of_getElem? (i := 655) (by decide +kernel)⟩
theorem lw_p13 : lw_okq (⟨"MilkBoxModel", "finish", "(I)V"⟩, 43) := ⟨⟨by decide +kernel, by decide +kernel⟩, List.mem_of_getElem? (i := 471) (by decide +kernel), List.mem_of_getElem? (i := 664) (by decide +kernel), List.mem_of_getElem? (i := 665) (by decide +kernel)⟩
theorem lw_p14 : lw_okq (⟨"MilkBoxModel", "enter", "()V"⟩, 43) := ⟨⟨by decide +kernel, by decide +kernel⟩, List.mem_of_getElem? (i := 471) (by decide +kernel), List.mem_of_getElem? (i := 668) (by decide +kernel), List.mem_of_getElem? (i := 669) (by decide +kernel)⟩
theorem lw_p15 : lw_okq (⟨"MilkBoxModel", "begin", "(I)V"⟩, 43) := ⟨⟨by decide +kernel, by decide +kernel⟩, List.mem_of_getElem? (i := 471) (by decide +kernel), List.mem_of_getElem? (i := 672) (by decide +kernel), List.mem_of_getElem? (i := 673) (by decide +kernel)⟩
def lw_privs_1 : List (MethodName × Nat) := [(⟨"MilkBox", "cowAt", "(I)LMilkBox$Cow;"⟩, 14), (⟨"MilkBox", "finishMilking", "(I)V"⟩, 14), (⟨"MilkBox", "fillBox", "()V"⟩, 14), (⟨"MilkBox$Line", "choose", "(I)I"⟩, 2), (⟨"MilkBox$Line", "closeUp", "(I)V"⟩, 2), (⟨"MilkBox$Arm", "milkOfTeat", "(I)I"⟩, 5), (⟨"MilkBox", "visitAt", "(I)LMilkBox$Visit;"⟩, 14), (⟨"MilkBox", "countAhead", "(I)I"⟩, 14), (⟨"MilkBoxModel", "noCow", "(I)Z"⟩, 43), (⟨"MilkBoxModel", "has", "(I)I"⟩, 43), (⟨"MilkBoxModel", "hasRight", "(I)Z"⟩, 43), (⟨"MilkBoxModel", "fedToday", "(I)I"⟩, 43), (⟨"MilkBoxModel", "placeOf", "(I)I"⟩, 43), (⟨"MilkBoxModel", "finish", "(I)V"⟩, 43), (⟨"MilkBoxModel", "enter", "()V"⟩, 43), (⟨"MilkBoxModel", "begin", "(I)V"⟩, 43)]
theorem lw_r1 : ∀ q ∈ lw_privs_1, lw_okq q := List.forall_mem_cons.mpr ⟨lw_p0, List.forall_mem_cons.mpr ⟨lw_p1, List.forall_mem_cons.mpr ⟨lw_p2, List.forall_mem_cons.mpr ⟨lw_p3, List.forall_mem_cons.mpr ⟨lw_p4, List.forall_mem_cons.mpr ⟨lw_p5, List.forall_mem_cons.mpr ⟨lw_p6, List.forall_mem_cons.mpr ⟨lw_p7, List.forall_mem_cons.mpr ⟨lw_p8, List.forall_mem_cons.mpr ⟨lw_p9, List.forall_mem_cons.mpr ⟨lw_p10, List.forall_mem_cons.mpr ⟨lw_p11, List.forall_mem_cons.mpr ⟨lw_p12, List.forall_mem_cons.mpr ⟨lw_p13, List.forall_mem_cons.mpr ⟨lw_p14, List.forall_mem_cons.mpr ⟨lw_p15, fun _ h => absurd h List.not_mem_nil⟩⟩⟩⟩⟩⟩⟩⟩⟩⟩⟩⟩⟩⟩⟩⟩
theorem lw_p16 : lw_okq (⟨"MilkBoxModel", "cowInBox", "()I"⟩, 43) := ⟨⟨by decide +kernel, by decide +kernel⟩, List.mem_of_getElem? (i := 471) (by decide +kernel), List.mem_of_getElem? (i := 681) (by decide +kernel), List.mem_of_getElem? (i := 682) (by decide +kernel)⟩
theorem lw_p17 : lw_okq (⟨"MilkBoxModel", "isAlarm", "(II)Z"⟩, 43) := ⟨⟨by decide +kernel, by decide +kernel⟩, List.mem_of_getElem? (i := 471) (by decide +kernel), List.mem_of_getElem? (i := 685) (by decide +kernel), List.mem_of_getElem? (i := 686) (by decide +kernel)⟩
def lw_privs_2 : List (MethodName × Nat) := [(⟨"MilkBoxModel", "cowInBox", "()I"⟩, 43), (⟨"MilkBoxModel", "isAlarm", "(II)Z"⟩, 43)]
theorem lw_r2 : ∀ q ∈ lw_privs_2, lw_okq q := List.forall_mem_cons.mpr ⟨lw_p16, List.forall_mem_cons.mpr ⟨lw_p17, fun _ h => absurd h List.not_mem_nil⟩⟩
def lw_privs : List (MethodName × Nat) := lw_privs_1 ++ (lw_privs_2)
def lw_tbl : List Cond := k2_sels lw_privs ++ tables_1
theorem lw_privs_ok : ∀ q ∈ lw_privs, lw_okq q := by
  show ∀ q ∈ lw_privs_1 ++ (lw_privs_2), lw_okq q
  exact List.forall_mem_append.mpr ⟨lw_r1, lw_r2⟩
def RX0 : String := "MilkBox$Arm"
def TX0 : u_T := fun k => match k with
  | 0 => ("MilkBox$Arm", "current", "LMilkBox$Visit;", false)
  | 1 => ("MilkBox$Arm", "milkThere", "I", false)
  | 2 => ("MilkBox$Arm", "milkDue", "I", false)
  | 3 => ("MilkBox$Arm", "flowsFrom", "I", false)
  | _ => ("MilkBox$Arm", "endsAt", "I", false)
def tyX0 : Nat → FieldType := fun k => match k with
  | 0 => .object "MilkBox$Visit"
  | 1 => .int
  | 2 => .int
  | 3 => .int
  | _ => .int
theorem nmX0 : ∀ a, a < 5 → ∀ b, b < 5 → a ≠ b → (TX0 a).2.1 ≠ (TX0 b).2.1 := by decide +kernel
theorem tyX0_ok : ∀ k, k < 5 → parseFieldDescriptor (TX0 k).2.2.1 = some (tyX0 k) := by decide +kernel
abbrev cX0_init : ByteArray := prog_2_method_1_code
def yX0_init : MethodName := ⟨RX0, "<init>", "()V"⟩
abbrev cX0_isBusy : ByteArray := prog_2_method_2_code
def yX0_isBusy : MethodName := ⟨RX0, "isBusy", "()Z"⟩
abbrev cX0_holds : ByteArray := prog_2_method_3_code
def yX0_holds : MethodName := ⟨RX0, "holds", "(I)Z"⟩
abbrev cX0_begin : ByteArray := prog_2_method_4_code
def yX0_begin : MethodName := ⟨RX0, "begin", "(LMilkBox$Visit;LMilkBox$Cow;I)V"⟩
abbrev cX0_milkedBy : ByteArray := prog_2_method_5_code
def yX0_milkedBy : MethodName := ⟨RX0, "milkedBy", "(I)I"⟩
abbrev cX0_milkOfTeat : ByteArray := prog_2_method_6_code
def yX0_milkOfTeat : MethodName := ⟨RX0, "milkOfTeat", "(I)I"⟩
def RX1 : String := "MilkBox$Cow"
def TX1 : u_T := fun k => match k with
  | 0 => ("MilkBox$Cow", "kind", "I", true)
  | 1 => ("MilkBox$Cow", "rate", "I", true)
  | 2 => ("MilkBox$Cow", "pause", "I", true)
  | 3 => ("MilkBox$Cow", "feedADay", "I", true)
  | 4 => ("MilkBox$Cow", "troubles", "[I", true)
  | 5 => ("MilkBox$Cow", "latest", "[I", true)
  | 6 => ("MilkBox$Cow", "readings", "I", false)
  | 7 => ("MilkBox$Cow", "withheldTo", "I", false)
  | 8 => ("MilkBox$Cow", "growsFrom", "I", false)
  | 9 => ("MilkBox$Cow", "left", "I", false)
  | 10 => ("MilkBox$Cow", "latestBegan", "I", false)
  | 11 => ("MilkBox$Cow", "milkedInAll", "I", false)
  | 12 => ("MilkBox$Cow", "fed", "I", false)
  | _ => ("MilkBox$Cow", "fedDay", "I", false)
def tyX1 : Nat → FieldType := fun k => match k with
  | 0 => .int
  | 1 => .int
  | 2 => .int
  | 3 => .int
  | 4 => .array .int
  | 5 => .array .int
  | 6 => .int
  | 7 => .int
  | 8 => .int
  | 9 => .int
  | 10 => .int
  | 11 => .int
  | 12 => .int
  | _ => .int
theorem nmX1 : ∀ a, a < 14 → ∀ b, b < 14 → a ≠ b → (TX1 a).2.1 ≠ (TX1 b).2.1 := by decide +kernel
theorem tyX1_ok : ∀ k, k < 14 → parseFieldDescriptor (TX1 k).2.2.1 = some (tyX1 k) := by decide +kernel
abbrev cX1_init : ByteArray := prog_3_method_1_code
def yX1_init : MethodName := ⟨RX1, "<init>", "(IIIII)V"⟩
abbrev cX1_milkAt : ByteArray := prog_3_method_2_code
def yX1_milkAt : MethodName := ⟨RX1, "milkAt", "(I)I"⟩
abbrev cX1_minutesTo : ByteArray := prog_3_method_3_code
def yX1_minutesTo : MethodName := ⟨RX1, "minutesTo", "(II)I"⟩
abbrev cX1_hasRightAt : ByteArray := prog_3_method_4_code
def yX1_hasRightAt : MethodName := ⟨RX1, "hasRightAt", "(I)Z"⟩
abbrev cX1_isWithheldAt : ByteArray := prog_3_method_5_code
def yX1_isWithheldAt : MethodName := ⟨RX1, "isWithheldAt", "(I)Z"⟩
abbrev cX1_fedOn : ByteArray := prog_3_method_6_code
def yX1_fedOn : MethodName := ⟨RX1, "fedOn", "(I)I"⟩
abbrev cX1_feedFor : ByteArray := prog_3_method_7_code
def yX1_feedFor : MethodName := ⟨RX1, "feedFor", "(II)I"⟩
abbrev cX1_isAlarming : ByteArray := prog_3_method_8_code
def yX1_isAlarming : MethodName := ⟨RX1, "isAlarming", "(I)Z"⟩
abbrev cX1_keepReading : ByteArray := prog_3_method_9_code
def yX1_keepReading : MethodName := ⟨RX1, "keepReading", "(I)V"⟩
abbrev cX1_beginMilking : ByteArray := prog_3_method_10_code
def yX1_beginMilking : MethodName := ⟨RX1, "beginMilking", "(I)V"⟩
def RX2 : String := "MilkBox$Line"
def TX2 : u_T := fun k => match k with
  | 0 => ("MilkBox$Line", "places", "[LMilkBox$Visit;", true)
  | _ => ("MilkBox$Line", "size", "I", false)
def tyX2 : Nat → FieldType := fun k => match k with
  | 0 => .array (.object "MilkBox$Visit")
  | _ => .int
theorem nmX2 : ∀ a, a < 2 → ∀ b, b < 2 → a ≠ b → (TX2 a).2.1 ≠ (TX2 b).2.1 := by decide +kernel
theorem tyX2_ok : ∀ k, k < 2 → parseFieldDescriptor (TX2 k).2.2.1 = some (tyX2 k) := by decide +kernel
abbrev cX2_init : ByteArray := prog_4_method_1_code
def yX2_init : MethodName := ⟨RX2, "<init>", "()V"⟩
abbrev cX2_at : ByteArray := prog_4_method_2_code
def yX2_at : MethodName := ⟨RX2, "at", "(I)LMilkBox$Visit;"⟩
abbrev cX2_placeOf : ByteArray := prog_4_method_3_code
def yX2_placeOf : MethodName := ⟨RX2, "placeOf", "(I)I"⟩
abbrev cX2_addLast : ByteArray := prog_4_method_4_code
def yX2_addLast : MethodName := ⟨RX2, "addLast", "(LMilkBox$Visit;)V"⟩
abbrev cX2_takeNext : ByteArray := prog_4_method_5_code
def yX2_takeNext : MethodName := ⟨RX2, "takeNext", "(I)LMilkBox$Visit;"⟩
abbrev cX2_choose : ByteArray := prog_4_method_6_code
def yX2_choose : MethodName := ⟨RX2, "choose", "(I)I"⟩
abbrev cX2_closeUp : ByteArray := prog_4_method_7_code
def yX2_closeUp : MethodName := ⟨RX2, "closeUp", "(I)V"⟩
def RX3 : String := "MilkBox$Store"
def TX3 : u_T := fun k => match k with
  | 0 => ("MilkBox$Store", "tankRoom", "I", false)
  | 1 => ("MilkBox$Store", "tank", "I", false)
  | 2 => ("MilkBox$Store", "can", "I", false)
  | 3 => ("MilkBox$Store", "poured", "I", false)
  | _ => ("MilkBox$Store", "takenAway", "I", false)
def tyX3 : Nat → FieldType := fun k => match k with
  | 0 => .int
  | 1 => .int
  | 2 => .int
  | 3 => .int
  | _ => .int
theorem nmX3 : ∀ a, a < 5 → ∀ b, b < 5 → a ≠ b → (TX3 a).2.1 ≠ (TX3 b).2.1 := by decide +kernel
theorem tyX3_ok : ∀ k, k < 5 → parseFieldDescriptor (TX3 k).2.2.1 = some (tyX3 k) := by decide +kernel
abbrev cX3_init : ByteArray := prog_5_method_1_code
def yX3_init : MethodName := ⟨RX3, "<init>", "()V"⟩
abbrev cX3_put : ByteArray := prog_5_method_2_code
def yX3_put : MethodName := ⟨RX3, "put", "(IZ)I"⟩
abbrev cX3_takeAway : ByteArray := prog_5_method_3_code
def yX3_takeAway : MethodName := ⟨RX3, "takeAway", "(I)I"⟩
def RX4 : String := "MilkBox$Visit"
def TX4 : u_T := fun k => match k with
  | 0 => ("MilkBox$Visit", "cow", "I", true)
  | 1 => ("MilkBox$Visit", "shy", "Z", true)
  | 2 => ("MilkBox$Visit", "minute", "I", true)
  | 3 => ("MilkBox$Visit", "reading", "I", true)
  | 4 => ("MilkBox$Visit", "alarm", "Z", true)
  | 5 => ("MilkBox$Visit", "kind", "I", false)
  | 6 => ("MilkBox$Visit", "began", "I", false)
  | 7 => ("MilkBox$Visit", "ended", "I", false)
  | 8 => ("MilkBox$Visit", "milked", "I", false)
  | 9 => ("MilkBox$Visit", "went", "I", false)
  | 10 => ("MilkBox$Visit", "lost", "I", false)
  | _ => ("MilkBox$Visit", "feed", "I", false)
def tyX4 : Nat → FieldType := fun k => match k with
  | 0 => .int
  | 1 => .boolean
  | 2 => .int
  | 3 => .int
  | 4 => .boolean
  | 5 => .int
  | 6 => .int
  | 7 => .int
  | 8 => .int
  | 9 => .int
  | 10 => .int
  | _ => .int
theorem nmX4 : ∀ a, a < 12 → ∀ b, b < 12 → a ≠ b → (TX4 a).2.1 ≠ (TX4 b).2.1 := by decide +kernel
theorem tyX4_ok : ∀ k, k < 12 → parseFieldDescriptor (TX4 k).2.2.1 = some (tyX4 k) := by decide +kernel
abbrev cX4_init : ByteArray := prog_6_method_1_code
def yX4_init : MethodName := ⟨RX4, "<init>", "(IZIIZ)V"⟩
abbrev cX4_isOfKind : ByteArray := prog_6_method_2_code
def yX4_isOfKind : MethodName := ⟨RX4, "isOfKind", "(I)Z"⟩
abbrev cX4_endedOn : ByteArray := prog_6_method_3_code
def yX4_endedOn : MethodName := ⟨RX4, "endedOn", "(I)Z"⟩
abbrev cX4_tell : ByteArray := prog_6_method_4_code
def yX4_tell : MethodName := ⟨RX4, "tell", "(I)I"⟩
def RX5 : String := "MilkBox"
def TX5 : u_T := fun k => match k with
  | 0 => ("MilkBox", "cows", "[LMilkBox$Cow;", true)
  | 1 => ("MilkBox", "visits", "[LMilkBox$Visit;", true)
  | 2 => ("MilkBox", "line", "LMilkBox$Line;", true)
  | 3 => ("MilkBox", "arm", "LMilkBox$Arm;", true)
  | 4 => ("MilkBox", "store", "LMilkBox$Store;", true)
  | 5 => ("MilkBox", "cowCount", "I", false)
  | 6 => ("MilkBox", "visitCount", "I", false)
  | 7 => ("MilkBox", "clock", "I", false)
  | 8 => ("MilkBox", "powered", "Z", false)
  | 9 => ("MilkBox", "allMilk", "I", false)
  | 10 => ("MilkBox", "allFeed", "I", false)
  | 11 => ("MilkBox", "alarms", "I", false)
  | 12 => ("MilkBox", "refusals", "I", false)
  | _ => ("MilkBox", "longestStay", "I", false)
def tyX5 : Nat → FieldType := fun k => match k with
  | 0 => .array (.object "MilkBox$Cow")
  | 1 => .array (.object "MilkBox$Visit")
  | 2 => .object "MilkBox$Line"
  | 3 => .object "MilkBox$Arm"
  | 4 => .object "MilkBox$Store"
  | 5 => .int
  | 6 => .int
  | 7 => .int
  | 8 => .boolean
  | 9 => .int
  | 10 => .int
  | 11 => .int
  | 12 => .int
  | _ => .int
theorem nmX5 : ∀ a, a < 14 → ∀ b, b < 14 → a ≠ b → (TX5 a).2.1 ≠ (TX5 b).2.1 := by decide +kernel
theorem tyX5_ok : ∀ k, k < 14 → parseFieldDescriptor (TX5 k).2.2.1 = some (tyX5 k) := by decide +kernel
abbrev cX5_init : ByteArray := prog_1_method_1_code
def yX5_init : MethodName := ⟨RX5, "<init>", "()V"⟩
abbrev cX5_cow : ByteArray := prog_1_method_2_code
def yX5_cow : MethodName := ⟨RX5, "cow", "(IIII)I"⟩
abbrev cX5_taken : ByteArray := prog_1_method_3_code
def yX5_taken : MethodName := ⟨RX5, "taken", "(III)I"⟩
abbrev cX5_withhold : ByteArray := prog_1_method_4_code
def yX5_withhold : MethodName := ⟨RX5, "withhold", "(II)I"⟩
abbrev cX5_trouble : ByteArray := prog_1_method_5_code
def yX5_trouble : MethodName := ⟨RX5, "trouble", "(III)I"⟩
abbrev cX5_about : ByteArray := prog_1_method_6_code
def yX5_about : MethodName := ⟨RX5, "about", "(II)I"⟩
abbrev cX5_pass : ByteArray := prog_1_method_7_code
def yX5_pass : MethodName := ⟨RX5, "pass", "(I)I"⟩
abbrev cX5_come : ByteArray := prog_1_method_8_code
def yX5_come : MethodName := ⟨RX5, "come", "(II)I"⟩
abbrev cX5_power : ByteArray := prog_1_method_9_code
def yX5_power : MethodName := ⟨RX5, "power", "(Z)I"⟩
abbrev cX5_box : ByteArray := prog_1_method_10_code
def yX5_box : MethodName := ⟨RX5, "box", "()I"⟩
abbrev cX5_queue : ByteArray := prog_1_method_11_code
def yX5_queue : MethodName := ⟨RX5, "queue", "(I)I"⟩
abbrev cX5_ends : ByteArray := prog_1_method_12_code
def yX5_ends : MethodName := ⟨RX5, "ends", "()I"⟩
abbrev cX5_room : ByteArray := prog_1_method_13_code
def yX5_room : MethodName := ⟨RX5, "room", "(I)I"⟩
abbrev cX5_pick : ByteArray := prog_1_method_14_code
def yX5_pick : MethodName := ⟨RX5, "pick", "(I)I"⟩
abbrev cX5_total : ByteArray := prog_1_method_15_code
def yX5_total : MethodName := ⟨RX5, "total", "(I)I"⟩
abbrev cX5_visit : ByteArray := prog_1_method_16_code
def yX5_visit : MethodName := ⟨RX5, "visit", "(III)I"⟩
abbrev cX5_visitOf : ByteArray := prog_1_method_17_code
def yX5_visitOf : MethodName := ⟨RX5, "visitOf", "(II)I"⟩
abbrev cX5_gave : ByteArray := prog_1_method_18_code
def yX5_gave : MethodName := ⟨RX5, "gave", "(II)I"⟩
abbrev cX5_longest : ByteArray := prog_1_method_19_code
def yX5_longest : MethodName := ⟨RX5, "longest", "()I"⟩
abbrev cX5_rank : ByteArray := prog_1_method_20_code
def yX5_rank : MethodName := ⟨RX5, "rank", "(I)I"⟩
abbrev cX5_until : ByteArray := prog_1_method_21_code
def yX5_until : MethodName := ⟨RX5, "until", "(II)I"⟩
abbrev cX5_within : ByteArray := prog_1_method_22_code
def yX5_within : MethodName := ⟨RX5, "within", "(III)Z"⟩
abbrev cX5_asNumber : ByteArray := prog_1_method_23_code
def yX5_asNumber : MethodName := ⟨RX5, "asNumber", "(Z)I"⟩
abbrev cX5_cowAt : ByteArray := prog_1_method_24_code
def yX5_cowAt : MethodName := ⟨RX5, "cowAt", "(I)LMilkBox$Cow;"⟩
abbrev cX5_visitAt : ByteArray := prog_1_method_25_code
def yX5_visitAt : MethodName := ⟨RX5, "visitAt", "(I)LMilkBox$Visit;"⟩
abbrev cX5_fillBox : ByteArray := prog_1_method_26_code
def yX5_fillBox : MethodName := ⟨RX5, "fillBox", "()V"⟩
abbrev cX5_finishMilking : ByteArray := prog_1_method_27_code
def yX5_finishMilking : MethodName := ⟨RX5, "finishMilking", "(I)V"⟩
abbrev cX5_countAhead : ByteArray := prog_1_method_28_code
def yX5_countAhead : MethodName := ⟨RX5, "countAhead", "(I)I"⟩
def RX6 : String := "MilkBoxModel"
def TX6 : u_T := fun k => match k with
  | 0 => ("MilkBoxModel", "thrown", "I", false)
  | 1 => ("MilkBoxModel", "clock", "I", false)
  | 2 => ("MilkBoxModel", "isOn", "Z", false)
  | 3 => ("MilkBoxModel", "cows", "I", false)
  | 4 => ("MilkBoxModel", "kind", "[I", true)
  | 5 => ("MilkBoxModel", "rate", "[I", true)
  | 6 => ("MilkBoxModel", "wait", "[I", true)
  | 7 => ("MilkBoxModel", "feed", "[I", true)
  | 8 => ("MilkBoxModel", "from", "[I", true)
  | 9 => ("MilkBoxModel", "left", "[I", true)
  | 10 => ("MilkBoxModel", "began", "[I", true)
  | 11 => ("MilkBoxModel", "withheld", "[I", true)
  | 12 => ("MilkBoxModel", "trouble", "[I", true)
  | 13 => ("MilkBoxModel", "fedDay", "[I", true)
  | 14 => ("MilkBoxModel", "fed", "[I", true)
  | 15 => ("MilkBoxModel", "gaveAll", "[I", true)
  | 16 => ("MilkBoxModel", "readings", "[I", true)
  | 17 => ("MilkBoxModel", "visits", "I", false)
  | 18 => ("MilkBoxModel", "visitKind", "[I", true)
  | 19 => ("MilkBoxModel", "visitCow", "[I", true)
  | 20 => ("MilkBoxModel", "visitMinute", "[I", true)
  | 21 => ("MilkBoxModel", "visitReading", "[I", true)
  | 22 => ("MilkBoxModel", "visitAlarm", "[Z", true)
  | 23 => ("MilkBoxModel", "visitBegan", "[I", true)
  | 24 => ("MilkBoxModel", "visitEnded", "[I", true)
  | 25 => ("MilkBoxModel", "visitMilk", "[I", true)
  | 26 => ("MilkBoxModel", "visitWhere", "[I", true)
  | 27 => ("MilkBoxModel", "visitLost", "[I", true)
  | 28 => ("MilkBoxModel", "visitFeed", "[I", true)
  | 29 => ("MilkBoxModel", "waiting", "I", false)
  | 30 => ("MilkBoxModel", "queue", "[I", true)
  | 31 => ("MilkBoxModel", "inBox", "I", false)
  | 32 => ("MilkBoxModel", "had", "I", false)
  | 33 => ("MilkBoxModel", "due", "I", false)
  | 34 => ("MilkBoxModel", "ahead", "I", false)
  | 35 => ("MilkBoxModel", "end", "I", false)
  | 36 => ("MilkBoxModel", "tank", "I", false)
  | 37 => ("MilkBoxModel", "room", "I", false)
  | 38 => ("MilkBoxModel", "can", "I", false)
  | 39 => ("MilkBoxModel", "poured", "I", false)
  | 40 => ("MilkBoxModel", "taken", "I", false)
  | 41 => ("MilkBoxModel", "milked", "I", false)
  | _ => ("MilkBoxModel", "fedAll", "I", false)
def tyX6 : Nat → FieldType := fun k => match k with
  | 0 => .int
  | 1 => .int
  | 2 => .boolean
  | 3 => .int
  | 4 => .array .int
  | 5 => .array .int
  | 6 => .array .int
  | 7 => .array .int
  | 8 => .array .int
  | 9 => .array .int
  | 10 => .array .int
  | 11 => .array .int
  | 12 => .array .int
  | 13 => .array .int
  | 14 => .array .int
  | 15 => .array .int
  | 16 => .array .int
  | 17 => .int
  | 18 => .array .int
  | 19 => .array .int
  | 20 => .array .int
  | 21 => .array .int
  | 22 => .array .boolean
  | 23 => .array .int
  | 24 => .array .int
  | 25 => .array .int
  | 26 => .array .int
  | 27 => .array .int
  | 28 => .array .int
  | 29 => .int
  | 30 => .array .int
  | 31 => .int
  | 32 => .int
  | 33 => .int
  | 34 => .int
  | 35 => .int
  | 36 => .int
  | 37 => .int
  | 38 => .int
  | 39 => .int
  | 40 => .int
  | 41 => .int
  | _ => .int
theorem nmX6 : ∀ a, a < 43 → ∀ b, b < 43 → a ≠ b → (TX6 a).2.1 ≠ (TX6 b).2.1 := by decide +kernel
theorem tyX6_ok : ∀ k, k < 43 → parseFieldDescriptor (TX6 k).2.2.1 = some (tyX6 k) := by decide +kernel
abbrev cX6_init : ByteArray := prog_8_method_1_code
def yX6_init : MethodName := ⟨RX6, "<init>", "()V"⟩
abbrev cX6_in : ByteArray := prog_8_method_3_code
def yX6_in : MethodName := ⟨RX6, "in", "(JJJ)Z"⟩
abbrev cX6_noCow : ByteArray := prog_8_method_4_code
def yX6_noCow : MethodName := ⟨RX6, "noCow", "(I)Z"⟩
abbrev cX6_cowInBox : ByteArray := prog_8_method_5_code
def yX6_cowInBox : MethodName := ⟨RX6, "cowInBox", "()I"⟩
abbrev cX6_has : ByteArray := prog_8_method_6_code
def yX6_has : MethodName := ⟨RX6, "has", "(I)I"⟩
abbrev cX6_hasRight : ByteArray := prog_8_method_7_code
def yX6_hasRight : MethodName := ⟨RX6, "hasRight", "(I)Z"⟩
abbrev cX6_fedToday : ByteArray := prog_8_method_8_code
def yX6_fedToday : MethodName := ⟨RX6, "fedToday", "(I)I"⟩
abbrev cX6_enter : ByteArray := prog_8_method_9_code
def yX6_enter : MethodName := ⟨RX6, "enter", "()V"⟩
abbrev cX6_begin : ByteArray := prog_8_method_10_code
def yX6_begin : MethodName := ⟨RX6, "begin", "(I)V"⟩
abbrev cX6_finish : ByteArray := prog_8_method_11_code
def yX6_finish : MethodName := ⟨RX6, "finish", "(I)V"⟩
abbrev cX6_cow : ByteArray := prog_8_method_12_code
def yX6_cow : MethodName := ⟨RX6, "cow", "(IIII)I"⟩
abbrev cX6_taken : ByteArray := prog_8_method_13_code
def yX6_taken : MethodName := ⟨RX6, "taken", "(III)I"⟩
abbrev cX6_withhold : ByteArray := prog_8_method_14_code
def yX6_withhold : MethodName := ⟨RX6, "withhold", "(II)I"⟩
abbrev cX6_trouble : ByteArray := prog_8_method_15_code
def yX6_trouble : MethodName := ⟨RX6, "trouble", "(III)I"⟩
abbrev cX6_placeOf : ByteArray := prog_8_method_16_code
def yX6_placeOf : MethodName := ⟨RX6, "placeOf", "(I)I"⟩
abbrev cX6_about : ByteArray := prog_8_method_17_code
def yX6_about : MethodName := ⟨RX6, "about", "(II)I"⟩
abbrev cX6_pass : ByteArray := prog_8_method_18_code
def yX6_pass : MethodName := ⟨RX6, "pass", "(I)I"⟩
abbrev cX6_isAlarm : ByteArray := prog_8_method_19_code
def yX6_isAlarm : MethodName := ⟨RX6, "isAlarm", "(II)Z"⟩
abbrev cX6_come : ByteArray := prog_8_method_20_code
def yX6_come : MethodName := ⟨RX6, "come", "(II)I"⟩
abbrev cX6_power : ByteArray := prog_8_method_21_code
def yX6_power : MethodName := ⟨RX6, "power", "(Z)I"⟩
abbrev cX6_box : ByteArray := prog_8_method_22_code
def yX6_box : MethodName := ⟨RX6, "box", "()I"⟩
abbrev cX6_queue : ByteArray := prog_8_method_23_code
def yX6_queue : MethodName := ⟨RX6, "queue", "(I)I"⟩
abbrev cX6_ends : ByteArray := prog_8_method_24_code
def yX6_ends : MethodName := ⟨RX6, "ends", "()I"⟩
abbrev cX6_room : ByteArray := prog_8_method_25_code
def yX6_room : MethodName := ⟨RX6, "room", "(I)I"⟩
abbrev cX6_pick : ByteArray := prog_8_method_26_code
def yX6_pick : MethodName := ⟨RX6, "pick", "(I)I"⟩
abbrev cX6_total : ByteArray := prog_8_method_27_code
def yX6_total : MethodName := ⟨RX6, "total", "(I)I"⟩
abbrev cX6_visit : ByteArray := prog_8_method_28_code
def yX6_visit : MethodName := ⟨RX6, "visit", "(III)I"⟩
abbrev cX6_visitOf : ByteArray := prog_8_method_29_code
def yX6_visitOf : MethodName := ⟨RX6, "visitOf", "(II)I"⟩
abbrev cX6_gave : ByteArray := prog_8_method_30_code
def yX6_gave : MethodName := ⟨RX6, "gave", "(II)I"⟩
abbrev cX6_longest : ByteArray := prog_8_method_31_code
def yX6_longest : MethodName := ⟨RX6, "longest", "()I"⟩
abbrev cX6_rank : ByteArray := prog_8_method_32_code
def yX6_rank : MethodName := ⟨RX6, "rank", "(I)I"⟩
abbrev cX6_until : ByteArray := prog_8_method_33_code
def yX6_until : MethodName := ⟨RX6, "until", "(II)I"⟩
def RJ9 : String := "java/lang/Math"
def TJ9 : u_T := fun k => match k with
  | _ => ("", "", "", false)
def tyJ9 : Nat → FieldType := fun k => match k with
  | _ => .int
abbrev cJ9_max_7cf53 : ByteArray := prog_9_method_65_code
def yJ9_max_7cf53 : MethodName := ⟨RJ9, "max", "(II)I"⟩
abbrev cJ9_min_7cf53 : ByteArray := prog_9_method_69_code
def yJ9_min_7cf53 : MethodName := ⟨RJ9, "min", "(II)I"⟩
def RL : String := "MilkBoxLaw"
abbrev cL_law : ByteArray := code
def yL_law : MethodName := ⟨RL, "law", "([I)Z"⟩
abbrev vwCl : List vw_C := [(RX0, TX0, 5), (RX1, TX1, 14), (RX2, TX2, 2), (RX3, TX3, 5), (RX4, TX4, 12), (RX5, TX5, 14), (RX6, TX6, 43)]
