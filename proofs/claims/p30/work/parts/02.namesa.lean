def RX0 : String := "RepairDuty$Duties"
def TX0 : u_T := fun k => match k with
  | 0 => ("RepairDuty$Duties", "round", "I", false)
  | 1 => ("RepairDuty$Duties", "seed", "I", false)
  | 2 => ("RepairDuty$Duties", "size", "I", false)
  | _ => ("RepairDuty$Duties", "list", "LRepairDuty$Row;", true)
def tyX0 : Nat → FieldType := fun k => match k with
  | 0 => .int
  | 1 => .int
  | 2 => .int
  | _ => .object "RepairDuty$Row"
abbrev wsX00 : List Cond := u_ws RX0 TX0 4
theorem nmX0 : ∀ a, a < 4 → ∀ b, b < 4 → a ≠ b → (TX0 a).2.1 ≠ (TX0 b).2.1 := by decide +kernel
theorem tyX0_ok : ∀ k, k < 4 → parseFieldDescriptor (TX0 k).2.2.1 = some (tyX0 k) := by decide +kernel
abbrev cX0_init : ByteArray := prog_2_method_1_code
def yX0_init : MethodName := ⟨RX0, "<init>", "()V"⟩
abbrev cX0_drawNext : ByteArray := prog_2_method_2_code
def yX0_drawNext : MethodName := ⟨RX0, "drawNext", "(ILRepairDuty$Members;I)V"⟩
abbrev cX0_drawList : ByteArray := prog_2_method_3_code
def yX0_drawList : MethodName := ⟨RX0, "drawList", "(LRepairDuty$Members;)V"⟩
abbrev cX0_weightOfOthers : ByteArray := prog_2_method_4_code
def yX0_weightOfOthers : MethodName := ⟨RX0, "weightOfOthers", "(LRepairDuty$Members;I)I"⟩
abbrev cX0_memberOfLot : ByteArray := prog_2_method_5_code
def yX0_memberOfLot : MethodName := ⟨RX0, "memberOfLot", "(LRepairDuty$Members;II)I"⟩
abbrev cX0_memberAt : ByteArray := prog_2_method_6_code
def yX0_memberAt : MethodName := ⟨RX0, "memberAt", "(I)I"⟩
abbrev cX0_rankOf : ByteArray := prog_2_method_7_code
def yX0_rankOf : MethodName := ⟨RX0, "rankOf", "(I)I"⟩
abbrev cX0_copy : ByteArray := prog_2_method_8_code
def yX0_copy : MethodName := ⟨RX0, "copy", "(LRepairDuty$Duties;)V"⟩
def RX1 : String := "RepairDuty$History"
def TX1 : u_T := fun k => match k with
  | 0 => ("RepairDuty$History", "count", "I", false)
  | 1 => ("RepairDuty$History", "oldest", "I", false)
  | _ => ("RepairDuty$History", "states", "[LRepairDuty$State;", true)
def tyX1 : Nat → FieldType := fun k => match k with
  | 0 => .int
  | 1 => .int
  | _ => .array (.object "RepairDuty$State")
abbrev wsX10 : List Cond := u_ws RX1 TX1 3
theorem nmX1 : ∀ a, a < 3 → ∀ b, b < 3 → a ≠ b → (TX1 a).2.1 ≠ (TX1 b).2.1 := by decide +kernel
theorem tyX1_ok : ∀ k, k < 3 → parseFieldDescriptor (TX1 k).2.2.1 = some (tyX1 k) := by decide +kernel
abbrev cX1_init : ByteArray := prog_3_method_1_code
def yX1_init : MethodName := ⟨RX1, "<init>", "()V"⟩
abbrev cX1_keep : ByteArray := prog_3_method_2_code
def yX1_keep : MethodName := ⟨RX1, "keep", "(LRepairDuty$State;)V"⟩
abbrev cX1_giveBack : ByteArray := prog_3_method_3_code
def yX1_giveBack : MethodName := ⟨RX1, "giveBack", "(LRepairDuty$State;)V"⟩
abbrev cX1_stateAt : ByteArray := prog_3_method_4_code
def yX1_stateAt : MethodName := ⟨RX1, "stateAt", "(I)LRepairDuty$State;"⟩
def RX2 : String := "RepairDuty$Log"
def TX2 : u_T := fun k => match k with
  | 0 => ("RepairDuty$Log", "made", "I", false)
  | 1 => ("RepairDuty$Log", "asked", "I", false)
  | 2 => ("RepairDuty$Log", "silent", "I", false)
  | _ => ("RepairDuty$Log", "numbers", "LRepairDuty$Row;", true)
def tyX2 : Nat → FieldType := fun k => match k with
  | 0 => .int
  | 1 => .int
  | 2 => .int
  | _ => .object "RepairDuty$Row"
abbrev wsX20 : List Cond := u_ws RX2 TX2 4
theorem nmX2 : ∀ a, a < 4 → ∀ b, b < 4 → a ≠ b → (TX2 a).2.1 ≠ (TX2 b).2.1 := by decide +kernel
theorem tyX2_ok : ∀ k, k < 4 → parseFieldDescriptor (TX2 k).2.2.1 = some (tyX2 k) := by decide +kernel
abbrev cX2_init : ByteArray := prog_4_method_1_code
def yX2_init : MethodName := ⟨RX2, "<init>", "()V"⟩
abbrev cX2_add : ByteArray := prog_4_method_2_code
def yX2_add : MethodName := ⟨RX2, "add", "(LRepairDuty$Plan;I)V"⟩
abbrev cX2_kept : ByteArray := prog_4_method_3_code
def yX2_kept : MethodName := ⟨RX2, "kept", "()I"⟩
abbrev cX2_number : ByteArray := prog_4_method_4_code
def yX2_number : MethodName := ⟨RX2, "number", "(II)I"⟩
abbrev cX2_copy : ByteArray := prog_4_method_5_code
def yX2_copy : MethodName := ⟨RX2, "copy", "(LRepairDuty$Log;)V"⟩
def RX3 : String := "RepairDuty$Members"
def TX3 : u_T := fun k => match k with
  | 0 => ("RepairDuty$Members", "count", "I", false)
  | 1 => ("RepairDuty$Members", "living", "I", false)
  | 2 => ("RepairDuty$Members", "weights", "LRepairDuty$Row;", true)
  | 3 => ("RepairDuty$Members", "positions", "LRepairDuty$Row;", true)
  | 4 => ("RepairDuty$Members", "credits", "LRepairDuty$Row;", true)
  | 5 => ("RepairDuty$Members", "repaired", "LRepairDuty$Row;", true)
  | 6 => ("RepairDuty$Members", "missed", "LRepairDuty$Row;", true)
  | 7 => ("RepairDuty$Members", "stages", "LRepairDuty$Row;", true)
  | 8 => ("RepairDuty$Members", "told", "LRepairDuty$Row;", true)
  | _ => ("RepairDuty$Members", "secrets", "LRepairDuty$Row;", true)
def tyX3 : Nat → FieldType := fun k => match k with
  | 0 => .int
  | 1 => .int
  | 2 => .object "RepairDuty$Row"
  | 3 => .object "RepairDuty$Row"
  | 4 => .object "RepairDuty$Row"
  | 5 => .object "RepairDuty$Row"
  | 6 => .object "RepairDuty$Row"
  | 7 => .object "RepairDuty$Row"
  | 8 => .object "RepairDuty$Row"
  | _ => .object "RepairDuty$Row"
abbrev wsX30 : List Cond := u_ws RX3 TX3 10
theorem nmX3 : ∀ a, a < 10 → ∀ b, b < 10 → a ≠ b → (TX3 a).2.1 ≠ (TX3 b).2.1 := by decide +kernel
theorem tyX3_ok : ∀ k, k < 10 → parseFieldDescriptor (TX3 k).2.2.1 = some (tyX3 k) := by decide +kernel
abbrev cX3_init : ByteArray := prog_5_method_1_code
def yX3_init : MethodName := ⟨RX3, "<init>", "()V"⟩
abbrev cX3_enter : ByteArray := prog_5_method_2_code
def yX3_enter : MethodName := ⟨RX3, "enter", "(II)I"⟩
abbrev cX3_lives : ByteArray := prog_5_method_3_code
def yX3_lives : MethodName := ⟨RX3, "lives", "(I)Z"⟩
abbrev cX3_distance : ByteArray := prog_5_method_4_code
def yX3_distance : MethodName := ⟨RX3, "distance", "(II)I"⟩
abbrev cX3_rightReveals : ByteArray := prog_5_method_5_code
def yX3_rightReveals : MethodName := ⟨RX3, "rightReveals", "()I"⟩
abbrev cX3_endLottery : ByteArray := prog_5_method_6_code
def yX3_endLottery : MethodName := ⟨RX3, "endLottery", "(I)V"⟩
abbrev cX3_copy : ByteArray := prog_5_method_7_code
def yX3_copy : MethodName := ⟨RX3, "copy", "(LRepairDuty$Members;)V"⟩
def RX4 : String := "RepairDuty$Numbers"
def TX4 : u_T := fun k => match k with
  | _ => ("", "", "", false)
def tyX4 : Nat → FieldType := fun k => match k with
  | _ => .int
abbrev wsX40 : List Cond := u_ws RX4 TX4 0
theorem nmX4 : ∀ a, a < 0 → ∀ b, b < 0 → a ≠ b → (TX4 a).2.1 ≠ (TX4 b).2.1 := by decide +kernel
theorem tyX4_ok : ∀ k, k < 0 → parseFieldDescriptor (TX4 k).2.2.1 = some (tyX4 k) := by decide +kernel
abbrev cX4_mixed : ByteArray := prog_6_method_2_code
def yX4_mixed : MethodName := ⟨RX4, "mixed", "(I)I"⟩
abbrev cX4_lot : ByteArray := prog_6_method_3_code
def yX4_lot : MethodName := ⟨RX4, "lot", "(II)I"⟩
abbrev cX4_has : ByteArray := prog_6_method_4_code
def yX4_has : MethodName := ⟨RX4, "has", "(II)Z"⟩
def RX5 : String := "RepairDuty$Plan"
def TX5 : u_T := fun k => match k with
  | 0 => ("RepairDuty$Plan", "block", "I", false)
  | 1 => ("RepairDuty$Plan", "hindrance", "I", false)
  | 2 => ("RepairDuty$Plan", "losers", "I", false)
  | 3 => ("RepairDuty$Plan", "asking", "I", false)
  | 4 => ("RepairDuty$Plan", "silent", "I", false)
  | 5 => ("RepairDuty$Plan", "missing", "I", false)
  | 6 => ("RepairDuty$Plan", "first", "I", false)
  | 7 => ("RepairDuty$Plan", "repairer", "I", false)
  | 8 => ("RepairDuty$Plan", "repairerRank", "I", false)
  | 9 => ("RepairDuty$Plan", "time", "I", false)
  | 10 => ("RepairDuty$Plan", "waits", "LRepairDuty$Row;", true)
  | _ => ("RepairDuty$Plan", "arrivals", "LRepairDuty$Row;", true)
def tyX5 : Nat → FieldType := fun k => match k with
  | 0 => .int
  | 1 => .int
  | 2 => .int
  | 3 => .int
  | 4 => .int
  | 5 => .int
  | 6 => .int
  | 7 => .int
  | 8 => .int
  | 9 => .int
  | 10 => .object "RepairDuty$Row"
  | _ => .object "RepairDuty$Row"
abbrev wsX50 : List Cond := u_ws RX5 TX5 12
theorem nmX5 : ∀ a, a < 12 → ∀ b, b < 12 → a ≠ b → (TX5 a).2.1 ≠ (TX5 b).2.1 := by decide +kernel
theorem tyX5_ok : ∀ k, k < 12 → parseFieldDescriptor (TX5 k).2.2.1 = some (tyX5 k) := by decide +kernel
abbrev cX5_init : ByteArray := prog_7_method_1_code
def yX5_init : MethodName := ⟨RX5, "<init>", "()V"⟩
abbrev cX5_reckon : ByteArray := prog_7_method_2_code
def yX5_reckon : MethodName := ⟨RX5, "reckon", "(LRepairDuty$State;II)V"⟩
abbrev cX5_hindranceIn : ByteArray := prog_7_method_3_code
def yX5_hindranceIn : MethodName := ⟨RX5, "hindranceIn", "(LRepairDuty$State;)I"⟩
abbrev cX5_findRepairer : ByteArray := prog_7_method_4_code
def yX5_findRepairer : MethodName := ⟨RX5, "findRepairer", "(LRepairDuty$State;)V"⟩
abbrev cX5_drawWaits : ByteArray := prog_7_method_5_code
def yX5_drawWaits : MethodName := ⟨RX5, "drawWaits", "(II)V"⟩
abbrev cX5_findWhoAsks : ByteArray := prog_7_method_6_code
def yX5_findWhoAsks : MethodName := ⟨RX5, "findWhoAsks", "(LRepairDuty$Members;)V"⟩
abbrev cX5_reckonTimes : ByteArray := prog_7_method_7_code
def yX5_reckonTimes : MethodName := ⟨RX5, "reckonTimes", "(LRepairDuty$Members;I)V"⟩
abbrev cX5_timeOfHearing : ByteArray := prog_7_method_8_code
def yX5_timeOfHearing : MethodName := ⟨RX5, "timeOfHearing", "(LRepairDuty$Members;)I"⟩
abbrev cX5_partOf : ByteArray := prog_7_method_9_code
def yX5_partOf : MethodName := ⟨RX5, "partOf", "(I)I"⟩
def RX6 : String := "RepairDuty$Row"
def TX6 : u_T := fun k => match k with
  | _ => ("RepairDuty$Row", "cells", "[I", true)
def tyX6 : Nat → FieldType := fun k => match k with
  | _ => .array .int
abbrev wsX60 : List Cond := u_ws RX6 TX6 1
theorem nmX6 : ∀ a, a < 1 → ∀ b, b < 1 → a ≠ b → (TX6 a).2.1 ≠ (TX6 b).2.1 := by decide +kernel
theorem tyX6_ok : ∀ k, k < 1 → parseFieldDescriptor (TX6 k).2.2.1 = some (tyX6 k) := by decide +kernel
abbrev cX6_init : ByteArray := prog_8_method_1_code
def yX6_init : MethodName := ⟨RX6, "<init>", "(I)V"⟩
abbrev cX6_at : ByteArray := prog_8_method_2_code
def yX6_at : MethodName := ⟨RX6, "at", "(I)I"⟩
abbrev cX6_put : ByteArray := prog_8_method_3_code
def yX6_put : MethodName := ⟨RX6, "put", "(II)V"⟩
abbrev cX6_add : ByteArray := prog_8_method_4_code
def yX6_add : MethodName := ⟨RX6, "add", "(II)V"⟩
abbrev cX6_swap : ByteArray := prog_8_method_5_code
def yX6_swap : MethodName := ⟨RX6, "swap", "(II)I"⟩
abbrev cX6_copy : ByteArray := prog_8_method_6_code
def yX6_copy : MethodName := ⟨RX6, "copy", "(LRepairDuty$Row;)V"⟩
def RX7 : String := "RepairDuty$State"
def TX7 : u_T := fun k => match k with
  | 0 => ("RepairDuty$State", "settings", "LRepairDuty$Row;", true)
  | 1 => ("RepairDuty$State", "members", "LRepairDuty$Members;", true)
  | 2 => ("RepairDuty$State", "duties", "LRepairDuty$Duties;", true)
  | 3 => ("RepairDuty$State", "lost", "LRepairDuty$Row;", true)
  | _ => ("RepairDuty$State", "log", "LRepairDuty$Log;", true)
def tyX7 : Nat → FieldType := fun k => match k with
  | 0 => .object "RepairDuty$Row"
  | 1 => .object "RepairDuty$Members"
  | 2 => .object "RepairDuty$Duties"
  | 3 => .object "RepairDuty$Row"
  | _ => .object "RepairDuty$Log"
abbrev wsX70 : List Cond := u_ws RX7 TX7 5
theorem nmX7 : ∀ a, a < 5 → ∀ b, b < 5 → a ≠ b → (TX7 a).2.1 ≠ (TX7 b).2.1 := by decide +kernel
theorem tyX7_ok : ∀ k, k < 5 → parseFieldDescriptor (TX7 k).2.2.1 = some (tyX7 k) := by decide +kernel
abbrev cX7_init : ByteArray := prog_9_method_1_code
def yX7_init : MethodName := ⟨RX7, "<init>", "()V"⟩
abbrev cX7_blocksLostBy : ByteArray := prog_9_method_2_code
def yX7_blocksLostBy : MethodName := ⟨RX7, "blocksLostBy", "(I)I"⟩
abbrev cX7_carryOut : ByteArray := prog_9_method_3_code
def yX7_carryOut : MethodName := ⟨RX7, "carryOut", "(LRepairDuty$Plan;)V"⟩
abbrev cX7_copy : ByteArray := prog_9_method_4_code
def yX7_copy : MethodName := ⟨RX7, "copy", "(LRepairDuty$State;)V"⟩
def RX8 : String := "RepairDuty$Text"
def TX8 : u_T := fun k => match k with
  | 0 => ("RepairDuty$Text", "length", "I", false)
  | _ => ("RepairDuty$Text", "signs", "LRepairDuty$Row;", true)
def tyX8 : Nat → FieldType := fun k => match k with
  | 0 => .int
  | _ => .object "RepairDuty$Row"
abbrev wsX80 : List Cond := u_ws RX8 TX8 2
theorem nmX8 : ∀ a, a < 2 → ∀ b, b < 2 → a ≠ b → (TX8 a).2.1 ≠ (TX8 b).2.1 := by decide +kernel
theorem tyX8_ok : ∀ k, k < 2 → parseFieldDescriptor (TX8 k).2.2.1 = some (tyX8 k) := by decide +kernel
abbrev cX8_init : ByteArray := prog_10_method_1_code
def yX8_init : MethodName := ⟨RX8, "<init>", "()V"⟩
abbrev cX8_append : ByteArray := prog_10_method_2_code
def yX8_append : MethodName := ⟨RX8, "append", "(I)Z"⟩
def RX9 : String := "RepairDuty"
def TX9 : u_T := fun k => match k with
  | 0 => ("RepairDuty", "now", "LRepairDuty$State;", true)
  | 1 => ("RepairDuty", "history", "LRepairDuty$History;", true)
  | 2 => ("RepairDuty", "text", "LRepairDuty$Text;", true)
  | 3 => ("RepairDuty", "plan", "LRepairDuty$Plan;", true)
  | _ => ("RepairDuty", "guess", "LRepairDuty$Duties;", true)
def tyX9 : Nat → FieldType := fun k => match k with
  | 0 => .object "RepairDuty$State"
  | 1 => .object "RepairDuty$History"
  | 2 => .object "RepairDuty$Text"
  | 3 => .object "RepairDuty$Plan"
  | _ => .object "RepairDuty$Duties"
abbrev wsX90 : List Cond := u_ws RX9 TX9 5
theorem nmX9 : ∀ a, a < 5 → ∀ b, b < 5 → a ≠ b → (TX9 a).2.1 ≠ (TX9 b).2.1 := by decide +kernel
theorem tyX9_ok : ∀ k, k < 5 → parseFieldDescriptor (TX9 k).2.2.1 = some (tyX9 k) := by decide +kernel
abbrev cX9_init : ByteArray := prog_1_method_1_code
def yX9_init : MethodName := ⟨RX9, "<init>", "()V"⟩
abbrev cX9_join : ByteArray := prog_1_method_2_code
def yX9_join : MethodName := ⟨RX9, "join", "(II)I"⟩
abbrev cX9_change : ByteArray := prog_1_method_3_code
def yX9_change : MethodName := ⟨RX9, "change", "(III)I"⟩
abbrev cX9_live : ByteArray := prog_1_method_4_code
def yX9_live : MethodName := ⟨RX9, "live", "(IZ)I"⟩
abbrev cX9_member : ByteArray := prog_1_method_5_code
def yX9_member : MethodName := ⟨RX9, "member", "(II)I"⟩
abbrev cX9_set : ByteArray := prog_1_method_6_code
def yX9_set : MethodName := ⟨RX9, "set", "(II)I"⟩
abbrev cX9_about : ByteArray := prog_1_method_7_code
def yX9_about : MethodName := ⟨RX9, "about", "(I)I"⟩
abbrev cX9_mix : ByteArray := prog_1_method_8_code
def yX9_mix : MethodName := ⟨RX9, "mix", "(I)I"⟩
abbrev cX9_commit : ByteArray := prog_1_method_9_code
def yX9_commit : MethodName := ⟨RX9, "commit", "(II)I"⟩
abbrev cX9_reveal : ByteArray := prog_1_method_10_code
def yX9_reveal : MethodName := ⟨RX9, "reveal", "(II)I"⟩
abbrev cX9_draw : ByteArray := prog_1_method_11_code
def yX9_draw : MethodName := ⟨RX9, "draw", "()I"⟩
abbrev cX9_seed : ByteArray := prog_1_method_12_code
def yX9_seed : MethodName := ⟨RX9, "seed", "()J"⟩
abbrev cX9_duty : ByteArray := prog_1_method_13_code
def yX9_duty : MethodName := ⟨RX9, "duty", "(I)I"⟩
abbrev cX9_ifLeft : ByteArray := prog_1_method_14_code
def yX9_ifLeft : MethodName := ⟨RX9, "ifLeft", "(II)I"⟩
abbrev cX9_lose : ByteArray := prog_1_method_15_code
def yX9_lose : MethodName := ⟨RX9, "lose", "(II)I"⟩
abbrev cX9_type : ByteArray := prog_1_method_16_code
def yX9_type : MethodName := ⟨RX9, "type", "(I)I"⟩
abbrev cX9_lost : ByteArray := prog_1_method_19_code
def yX9_lost : MethodName := ⟨RX9, "lost", "(II)I"⟩
abbrev cX9_repair : ByteArray := prog_1_method_20_code
def yX9_repair : MethodName := ⟨RX9, "repair", "(I)I"⟩
abbrev cX9_repairAll : ByteArray := prog_1_method_21_code
def yX9_repairAll : MethodName := ⟨RX9, "repairAll", "()I"⟩
abbrev cX9_look : ByteArray := prog_1_method_22_code
def yX9_look : MethodName := ⟨RX9, "look", "(III)I"⟩
abbrev cX9_past : ByteArray := prog_1_method_23_code
def yX9_past : MethodName := ⟨RX9, "past", "(II)I"⟩
abbrev cX9_why : ByteArray := prog_1_method_24_code
def yX9_why : MethodName := ⟨RX9, "why", "(I)I"⟩
abbrev cX9_silence : ByteArray := prog_1_method_25_code
def yX9_silence : MethodName := ⟨RX9, "silence", "()F"⟩
abbrev cX9_bestWait : ByteArray := prog_1_method_26_code
def yX9_bestWait : MethodName := ⟨RX9, "bestWait", "()I"⟩
abbrev cX9_undo : ByteArray := prog_1_method_27_code
def yX9_undo : MethodName := ⟨RX9, "undo", "()I"⟩
abbrev cX9_fingerprint : ByteArray := prog_1_method_28_code
def yX9_fingerprint : MethodName := ⟨RX9, "fingerprint", "()J"⟩
abbrev cX9_isMember : ByteArray := prog_1_method_29_code
def yX9_isMember : MethodName := ⟨RX9, "isMember", "(I)Z"⟩
abbrev cX9_isBlock : ByteArray := prog_1_method_30_code
def yX9_isBlock : MethodName := ⟨RX9, "isBlock", "(I)Z"⟩
abbrev cX9_isWeight : ByteArray := prog_1_method_31_code
def yX9_isWeight : MethodName := ⟨RX9, "isWeight", "(I)Z"⟩
abbrev cX9_isPosition : ByteArray := prog_1_method_32_code
def yX9_isPosition : MethodName := ⟨RX9, "isPosition", "(I)Z"⟩
abbrev cX9_isSettingValue : ByteArray := prog_1_method_33_code
def yX9_isSettingValue : MethodName := ⟨RX9, "isSettingValue", "(II)Z"⟩
abbrev cX9_areEnough : ByteArray := prog_1_method_34_code
def yX9_areEnough : MethodName := ⟨RX9, "areEnough", "(I)Z"⟩
abbrev cX9_sumOfTimes : ByteArray := prog_1_method_35_code
def yX9_sumOfTimes : MethodName := ⟨RX9, "sumOfTimes", "(I)I"⟩
def RX10 : String := "RepairDutyModel"
def TX10 : u_T := fun k => match k with
  | _ => ("", "", "", false)
def tyX10 : Nat → FieldType := fun k => match k with
  | _ => .int
abbrev wsX100 : List Cond := u_ws RX10 TX10 0
theorem nmX10 : ∀ a, a < 0 → ∀ b, b < 0 → a ≠ b → (TX10 a).2.1 ≠ (TX10 b).2.1 := by decide +kernel
theorem tyX10_ok : ∀ k, k < 0 → parseFieldDescriptor (TX10 k).2.2.1 = some (tyX10 k) := by decide +kernel
def RJ6 : String := "java/lang/Integer"
def TJ6 : u_T := fun k => match k with
  | _ => ("", "", "", false)
def tyJ6 : Nat → FieldType := fun k => match k with
  | _ => .int
abbrev wsJ60 : List Cond := u_ws RJ6 TJ6 0
theorem nmJ6 : ∀ a, a < 0 → ∀ b, b < 0 → a ≠ b → (TJ6 a).2.1 ≠ (TJ6 b).2.1 := by decide +kernel
theorem tyJ6_ok : ∀ k, k < 0 → parseFieldDescriptor (TJ6 k).2.2.1 = some (tyJ6 k) := by decide +kernel
abbrev cJ6_bitCount_0f7a4 : ByteArray := prog_13_method_49_code
def yJ6_bitCount_0f7a4 : MethodName := ⟨RJ6, "bitCount", "(I)I"⟩
def RJ9 : String := "java/lang/Math"
def TJ9 : u_T := fun k => match k with
  | _ => ("", "", "", false)
def tyJ9 : Nat → FieldType := fun k => match k with
  | _ => .int
abbrev wsJ90 : List Cond := u_ws RJ9 TJ9 0
theorem nmJ9 : ∀ a, a < 0 → ∀ b, b < 0 → a ≠ b → (TJ9 a).2.1 ≠ (TJ9 b).2.1 := by decide +kernel
theorem tyJ9_ok : ∀ k, k < 0 → parseFieldDescriptor (TJ9 k).2.2.1 = some (tyJ9 k) := by decide +kernel
abbrev cJ9_abs_0f7a4 : ByteArray := prog_14_method_59_code
def yJ9_abs_0f7a4 : MethodName := ⟨RJ9, "abs", "(I)I"⟩
abbrev cJ9_max_7cf53 : ByteArray := prog_14_method_65_code
def yJ9_max_7cf53 : MethodName := ⟨RJ9, "max", "(II)I"⟩
abbrev cJ9_min_7cf53 : ByteArray := prog_14_method_69_code
def yJ9_min_7cf53 : MethodName := ⟨RJ9, "min", "(II)I"⟩
def RJ10 : String := "java/lang/System"
def TJ10 : u_T := fun k => match k with
  | _ => ("", "", "", false)
def tyJ10 : Nat → FieldType := fun k => match k with
  | _ => .int
abbrev wsJ100 : List Cond := u_ws RJ10 TJ10 0
theorem nmJ10 : ∀ a, a < 0 → ∀ b, b < 0 → a ≠ b → (TJ10 a).2.1 ≠ (TJ10 b).2.1 := by decide +kernel
theorem tyJ10_ok : ∀ k, k < 0 → parseFieldDescriptor (TJ10 k).2.2.1 = some (tyJ10 k) := by decide +kernel
def RL : String := "RepairDutyLaw"
abbrev cL_cell : ByteArray := method_2_code
def yL_cell : MethodName := ⟨RL, "cell", "([II)I"⟩
abbrev cL_up : ByteArray := method_3_code
def yL_up : MethodName := ⟨RL, "up", "(II)I"⟩
abbrev cL_fails : ByteArray := method_4_code
def yL_fails : MethodName := ⟨RL, "fails", "(LRepairDuty;I)Z"⟩
abbrev cL_agrees : ByteArray := method_5_code
def yL_agrees : MethodName := ⟨RL, "agrees", "(LRepairDuty;I)Z"⟩
abbrev cL_many : ByteArray := method_6_code
def yL_many : MethodName := ⟨RL, "many", "(I)I"⟩
abbrev cL_repairs : ByteArray := method_7_code
def yL_repairs : MethodName := ⟨RL, "repairs", "(LRepairDuty;II)Z"⟩
abbrev cL_draws : ByteArray := method_8_code
def yL_draws : MethodName := ⟨RL, "draws", "(LRepairDuty;I)Z"⟩
abbrev cL_law : ByteArray := code
def yL_law : MethodName := ⟨RL, "law", "([I)Z"⟩
theorem dX0_init_0 : decode cX0_init 0 = .ok (.aload_n 0, 1) := by decide +kernel
theorem dX0_init_1 : decode cX0_init 1 = .ok (.invokespecial 3, 3) := by decide +kernel
theorem dX0_init_4 : decode cX0_init 4 = .ok (.aload_n 0, 1) := by decide +kernel
theorem dX0_init_5 : decode cX0_init 5 = .ok (.new 9, 3) := by decide +kernel
theorem dX0_init_8 : decode cX0_init 8 = .ok (.dup, 1) := by decide +kernel
theorem dX0_init_9 : decode cX0_init 9 = .ok (.bipush 10, 2) := by decide +kernel
theorem dX0_init_11 : decode cX0_init 11 = .ok (.invokespecial 11, 3) := by decide +kernel
theorem dX0_init_14 : decode cX0_init 14 = .ok (.putfield 14, 3) := by decide +kernel
theorem dX0_init_17 : decode cX0_init 17 = .ok (.return_, 1) := by decide +kernel
theorem dX0_drawNext_0 : decode cX0_drawNext 0 = .ok (.aload_n 0, 1) := by decide +kernel
theorem dX0_drawNext_1 : decode cX0_drawNext 1 = .ok (.iload_n 1, 1) := by decide +kernel
theorem dX0_drawNext_2 : decode cX0_drawNext 2 = .ok (.iconst 1, 1) := by decide +kernel
theorem dX0_drawNext_3 : decode cX0_drawNext 3 = .ok (.iadd, 1) := by decide +kernel
theorem dX0_drawNext_4 : decode cX0_drawNext 4 = .ok (.putfield 20, 3) := by decide +kernel
theorem dX0_drawNext_7 : decode cX0_drawNext 7 = .ok (.aload_n 0, 1) := by decide +kernel
theorem dX0_drawNext_8 : decode cX0_drawNext 8 = .ok (.aload_n 0, 1) := by decide +kernel
theorem dX0_drawNext_9 : decode cX0_drawNext 9 = .ok (.getfield 20, 3) := by decide +kernel
theorem dX0_drawNext_12 : decode cX0_drawNext 12 = .ok (.putfield 24, 3) := by decide +kernel
theorem dX0_drawNext_15 : decode cX0_drawNext 15 = .ok (.iconst 0, 1) := by decide +kernel
theorem dX0_drawNext_16 : decode cX0_drawNext 16 = .ok (.istore 4, 2) := by decide +kernel
theorem dX0_drawNext_18 : decode cX0_drawNext 18 = .ok (.iload 4, 2) := by decide +kernel
theorem dX0_drawNext_20 : decode cX0_drawNext 20 = .ok (.aload_n 2, 1) := by decide +kernel
theorem dX0_drawNext_21 : decode cX0_drawNext 21 = .ok (.getfield 27, 3) := by decide +kernel
theorem dX0_drawNext_24 : decode cX0_drawNext 24 = .ok (.if_icmp .ge 39, 3) := by decide +kernel
theorem dX0_drawNext_27 : decode cX0_drawNext 27 = .ok (.iload_n 3, 1) := by decide +kernel
theorem dX0_drawNext_28 : decode cX0_drawNext 28 = .ok (.iload 4, 2) := by decide +kernel
theorem dX0_drawNext_30 : decode cX0_drawNext 30 = .ok (.invokestatic 32, 3) := by decide +kernel
theorem dX0_drawNext_33 : decode cX0_drawNext 33 = .ok (.ifCond .eq 24, 3) := by decide +kernel
theorem dX0_drawNext_36 : decode cX0_drawNext 36 = .ok (.aload_n 0, 1) := by decide +kernel
theorem dX0_drawNext_37 : decode cX0_drawNext 37 = .ok (.aload_n 0, 1) := by decide +kernel
theorem dX0_drawNext_38 : decode cX0_drawNext 38 = .ok (.getfield 24, 3) := by decide +kernel
theorem dX0_drawNext_41 : decode cX0_drawNext 41 = .ok (.aload_n 2, 1) := by decide +kernel
theorem dX0_drawNext_42 : decode cX0_drawNext 42 = .ok (.getfield 38, 3) := by decide +kernel
theorem dX0_drawNext_45 : decode cX0_drawNext 45 = .ok (.iload 4, 2) := by decide +kernel
theorem dX0_drawNext_47 : decode cX0_drawNext 47 = .ok (.invokevirtual 41, 3) := by decide +kernel
theorem dX0_drawNext_50 : decode cX0_drawNext 50 = .ok (.ixor, 1) := by decide +kernel
theorem dX0_drawNext_51 : decode cX0_drawNext 51 = .ok (.invokestatic 45, 3) := by decide +kernel
theorem dX0_drawNext_54 : decode cX0_drawNext 54 = .ok (.putfield 24, 3) := by decide +kernel
theorem dX0_drawNext_57 : decode cX0_drawNext 57 = .ok (.iinc 4 1, 3) := by decide +kernel
theorem dX0_drawNext_60 : decode cX0_drawNext 60 = .ok (.goto (-42), 3) := by decide +kernel
theorem dX0_drawNext_63 : decode cX0_drawNext 63 = .ok (.aload_n 0, 1) := by decide +kernel
theorem dX0_drawNext_64 : decode cX0_drawNext 64 = .ok (.aload_n 2, 1) := by decide +kernel
theorem dX0_drawNext_65 : decode cX0_drawNext 65 = .ok (.invokevirtual 48, 3) := by decide +kernel
theorem dX0_drawNext_68 : decode cX0_drawNext 68 = .ok (.return_, 1) := by decide +kernel
theorem dX0_drawList_0 : decode cX0_drawList 0 = .ok (.aload_n 0, 1) := by decide +kernel
theorem dX0_drawList_1 : decode cX0_drawList 1 = .ok (.getfield 24, 3) := by decide +kernel
theorem dX0_drawList_4 : decode cX0_drawList 4 = .ok (.istore_n 2, 1) := by decide +kernel
theorem dX0_drawList_5 : decode cX0_drawList 5 = .ok (.iconst 0, 1) := by decide +kernel
theorem dX0_drawList_6 : decode cX0_drawList 6 = .ok (.istore_n 3, 1) := by decide +kernel
theorem dX0_drawList_7 : decode cX0_drawList 7 = .ok (.iconst 0, 1) := by decide +kernel
theorem dX0_drawList_8 : decode cX0_drawList 8 = .ok (.istore 4, 2) := by decide +kernel
theorem dX0_drawList_10 : decode cX0_drawList 10 = .ok (.iload 4, 2) := by decide +kernel
theorem dX0_drawList_12 : decode cX0_drawList 12 = .ok (.aload_n 1, 1) := by decide +kernel
theorem dX0_drawList_13 : decode cX0_drawList 13 = .ok (.getfield 27, 3) := by decide +kernel
theorem dX0_drawList_16 : decode cX0_drawList 16 = .ok (.if_icmp .ge 52, 3) := by decide +kernel
theorem dX0_drawList_19 : decode cX0_drawList 19 = .ok (.iload_n 2, 1) := by decide +kernel
theorem dX0_drawList_20 : decode cX0_drawList 20 = .ok (.invokestatic 45, 3) := by decide +kernel
theorem dX0_drawList_23 : decode cX0_drawList 23 = .ok (.istore_n 2, 1) := by decide +kernel
theorem dX0_drawList_24 : decode cX0_drawList 24 = .ok (.iload_n 2, 1) := by decide +kernel
theorem dX0_drawList_25 : decode cX0_drawList 25 = .ok (.aload_n 1, 1) := by decide +kernel
theorem dX0_drawList_26 : decode cX0_drawList 26 = .ok (.iload_n 3, 1) := by decide +kernel
theorem dX0_drawList_27 : decode cX0_drawList 27 = .ok (.invokestatic 52, 3) := by decide +kernel
theorem dX0_drawList_30 : decode cX0_drawList 30 = .ok (.invokestatic 56, 3) := by decide +kernel
theorem dX0_drawList_33 : decode cX0_drawList 33 = .ok (.istore 5, 2) := by decide +kernel
theorem dX0_drawList_35 : decode cX0_drawList 35 = .ok (.aload_n 1, 1) := by decide +kernel
theorem dX0_drawList_36 : decode cX0_drawList 36 = .ok (.iload_n 3, 1) := by decide +kernel
theorem dX0_drawList_37 : decode cX0_drawList 37 = .ok (.iload 5, 2) := by decide +kernel
theorem dX0_drawList_39 : decode cX0_drawList 39 = .ok (.invokestatic 60, 3) := by decide +kernel
theorem dX0_drawList_42 : decode cX0_drawList 42 = .ok (.istore 6, 2) := by decide +kernel
theorem dX0_drawList_44 : decode cX0_drawList 44 = .ok (.aload_n 0, 1) := by decide +kernel
theorem dX0_drawList_45 : decode cX0_drawList 45 = .ok (.getfield 14, 3) := by decide +kernel
theorem dX0_drawList_48 : decode cX0_drawList 48 = .ok (.iload 4, 2) := by decide +kernel
theorem dX0_drawList_50 : decode cX0_drawList 50 = .ok (.iload 6, 2) := by decide +kernel
theorem dX0_drawList_52 : decode cX0_drawList 52 = .ok (.invokevirtual 64, 3) := by decide +kernel
theorem dX0_drawList_55 : decode cX0_drawList 55 = .ok (.iload_n 3, 1) := by decide +kernel
theorem dX0_drawList_56 : decode cX0_drawList 56 = .ok (.iconst 1, 1) := by decide +kernel
theorem dX0_drawList_57 : decode cX0_drawList 57 = .ok (.iload 6, 2) := by decide +kernel
theorem dX0_drawList_59 : decode cX0_drawList 59 = .ok (.ishl, 1) := by decide +kernel
theorem dX0_drawList_60 : decode cX0_drawList 60 = .ok (.ior, 1) := by decide +kernel
theorem dX0_drawList_61 : decode cX0_drawList 61 = .ok (.istore_n 3, 1) := by decide +kernel
theorem dX0_drawList_62 : decode cX0_drawList 62 = .ok (.iinc 4 1, 3) := by decide +kernel
theorem dX0_drawList_65 : decode cX0_drawList 65 = .ok (.goto (-55), 3) := by decide +kernel
theorem dX0_drawList_68 : decode cX0_drawList 68 = .ok (.aload_n 0, 1) := by decide +kernel
theorem dX0_drawList_69 : decode cX0_drawList 69 = .ok (.aload_n 1, 1) := by decide +kernel
theorem dX0_drawList_70 : decode cX0_drawList 70 = .ok (.getfield 27, 3) := by decide +kernel
theorem dX0_drawList_73 : decode cX0_drawList 73 = .ok (.putfield 68, 3) := by decide +kernel
theorem dX0_drawList_76 : decode cX0_drawList 76 = .ok (.return_, 1) := by decide +kernel
theorem dX0_weightOfOthers_0 : decode cX0_weightOfOthers 0 = .ok (.iconst 0, 1) := by decide +kernel
theorem dX0_weightOfOthers_1 : decode cX0_weightOfOthers 1 = .ok (.istore_n 2, 1) := by decide +kernel
theorem dX0_weightOfOthers_2 : decode cX0_weightOfOthers 2 = .ok (.iconst 0, 1) := by decide +kernel
theorem dX0_weightOfOthers_3 : decode cX0_weightOfOthers 3 = .ok (.istore_n 3, 1) := by decide +kernel
theorem dX0_weightOfOthers_4 : decode cX0_weightOfOthers 4 = .ok (.iload_n 3, 1) := by decide +kernel
theorem dX0_weightOfOthers_5 : decode cX0_weightOfOthers 5 = .ok (.aload_n 0, 1) := by decide +kernel
theorem dX0_weightOfOthers_6 : decode cX0_weightOfOthers 6 = .ok (.getfield 27, 3) := by decide +kernel
theorem dX0_weightOfOthers_9 : decode cX0_weightOfOthers 9 = .ok (.if_icmp .ge 28, 3) := by decide +kernel
theorem dX0_weightOfOthers_12 : decode cX0_weightOfOthers 12 = .ok (.iload_n 1, 1) := by decide +kernel
theorem dX0_weightOfOthers_13 : decode cX0_weightOfOthers 13 = .ok (.iload_n 3, 1) := by decide +kernel
theorem dX0_weightOfOthers_14 : decode cX0_weightOfOthers 14 = .ok (.invokestatic 32, 3) := by decide +kernel
theorem dX0_weightOfOthers_17 : decode cX0_weightOfOthers 17 = .ok (.ifCond .ne 14, 3) := by decide +kernel
theorem dX0_weightOfOthers_20 : decode cX0_weightOfOthers 20 = .ok (.iload_n 2, 1) := by decide +kernel
theorem dX0_weightOfOthers_21 : decode cX0_weightOfOthers 21 = .ok (.aload_n 0, 1) := by decide +kernel
theorem dX0_weightOfOthers_22 : decode cX0_weightOfOthers 22 = .ok (.getfield 71, 3) := by decide +kernel
theorem dX0_weightOfOthers_25 : decode cX0_weightOfOthers 25 = .ok (.iload_n 3, 1) := by decide +kernel
theorem dX0_weightOfOthers_26 : decode cX0_weightOfOthers 26 = .ok (.invokevirtual 41, 3) := by decide +kernel
theorem dX0_weightOfOthers_29 : decode cX0_weightOfOthers 29 = .ok (.iadd, 1) := by decide +kernel
theorem dX0_weightOfOthers_30 : decode cX0_weightOfOthers 30 = .ok (.istore_n 2, 1) := by decide +kernel
theorem dX0_weightOfOthers_31 : decode cX0_weightOfOthers 31 = .ok (.iinc 3 1, 3) := by decide +kernel
theorem dX0_weightOfOthers_34 : decode cX0_weightOfOthers 34 = .ok (.goto (-30), 3) := by decide +kernel
theorem dX0_weightOfOthers_37 : decode cX0_weightOfOthers 37 = .ok (.iload_n 2, 1) := by decide +kernel
theorem dX0_weightOfOthers_38 : decode cX0_weightOfOthers 38 = .ok (.ireturn, 1) := by decide +kernel
theorem dX0_memberOfLot_0 : decode cX0_memberOfLot 0 = .ok (.iconst 0, 1) := by decide +kernel
theorem dX0_memberOfLot_1 : decode cX0_memberOfLot 1 = .ok (.istore_n 3, 1) := by decide +kernel
theorem dX0_memberOfLot_2 : decode cX0_memberOfLot 2 = .ok (.iconst 0, 1) := by decide +kernel
theorem dX0_memberOfLot_3 : decode cX0_memberOfLot 3 = .ok (.istore 4, 2) := by decide +kernel
theorem dX0_memberOfLot_5 : decode cX0_memberOfLot 5 = .ok (.iload 4, 2) := by decide +kernel
theorem dX0_memberOfLot_7 : decode cX0_memberOfLot 7 = .ok (.aload_n 0, 1) := by decide +kernel
theorem dX0_memberOfLot_8 : decode cX0_memberOfLot 8 = .ok (.getfield 27, 3) := by decide +kernel
theorem dX0_memberOfLot_11 : decode cX0_memberOfLot 11 = .ok (.if_icmp .ge 38, 3) := by decide +kernel
theorem dX0_memberOfLot_14 : decode cX0_memberOfLot 14 = .ok (.iload_n 1, 1) := by decide +kernel
theorem dX0_memberOfLot_15 : decode cX0_memberOfLot 15 = .ok (.iload 4, 2) := by decide +kernel
theorem dX0_memberOfLot_17 : decode cX0_memberOfLot 17 = .ok (.invokestatic 32, 3) := by decide +kernel
theorem dX0_memberOfLot_20 : decode cX0_memberOfLot 20 = .ok (.ifCond .ne 23, 3) := by decide +kernel
theorem dX0_memberOfLot_23 : decode cX0_memberOfLot 23 = .ok (.iload_n 3, 1) := by decide +kernel
theorem dX0_memberOfLot_24 : decode cX0_memberOfLot 24 = .ok (.aload_n 0, 1) := by decide +kernel
theorem dX0_memberOfLot_25 : decode cX0_memberOfLot 25 = .ok (.getfield 71, 3) := by decide +kernel
theorem dX0_memberOfLot_28 : decode cX0_memberOfLot 28 = .ok (.iload 4, 2) := by decide +kernel
theorem dX0_memberOfLot_30 : decode cX0_memberOfLot 30 = .ok (.invokevirtual 41, 3) := by decide +kernel
theorem dX0_memberOfLot_33 : decode cX0_memberOfLot 33 = .ok (.iadd, 1) := by decide +kernel
theorem dX0_memberOfLot_34 : decode cX0_memberOfLot 34 = .ok (.istore_n 3, 1) := by decide +kernel
theorem dX0_memberOfLot_35 : decode cX0_memberOfLot 35 = .ok (.iload_n 3, 1) := by decide +kernel
theorem dX0_memberOfLot_36 : decode cX0_memberOfLot 36 = .ok (.iload_n 2, 1) := by decide +kernel
theorem dX0_memberOfLot_37 : decode cX0_memberOfLot 37 = .ok (.if_icmp .le 6, 3) := by decide +kernel
theorem dX0_memberOfLot_40 : decode cX0_memberOfLot 40 = .ok (.iload 4, 2) := by decide +kernel
theorem dX0_memberOfLot_42 : decode cX0_memberOfLot 42 = .ok (.ireturn, 1) := by decide +kernel
theorem dX0_memberOfLot_43 : decode cX0_memberOfLot 43 = .ok (.iinc 4 1, 3) := by decide +kernel
theorem dX0_memberOfLot_46 : decode cX0_memberOfLot 46 = .ok (.goto (-41), 3) := by decide +kernel
theorem dX0_memberOfLot_49 : decode cX0_memberOfLot 49 = .ok (.iconst 0, 1) := by decide +kernel
theorem dX0_memberOfLot_50 : decode cX0_memberOfLot 50 = .ok (.ireturn, 1) := by decide +kernel
theorem dX0_memberAt_0 : decode cX0_memberAt 0 = .ok (.iload_n 1, 1) := by decide +kernel
theorem dX0_memberAt_1 : decode cX0_memberAt 1 = .ok (.ifCond .lt 22, 3) := by decide +kernel
theorem dX0_memberAt_4 : decode cX0_memberAt 4 = .ok (.iload_n 1, 1) := by decide +kernel
theorem dX0_memberAt_5 : decode cX0_memberAt 5 = .ok (.aload_n 0, 1) := by decide +kernel
theorem dX0_memberAt_6 : decode cX0_memberAt 6 = .ok (.getfield 68, 3) := by decide +kernel
theorem dX0_memberAt_9 : decode cX0_memberAt 9 = .ok (.if_icmp .ge 14, 3) := by decide +kernel
theorem dX0_memberAt_12 : decode cX0_memberAt 12 = .ok (.aload_n 0, 1) := by decide +kernel
theorem dX0_memberAt_13 : decode cX0_memberAt 13 = .ok (.getfield 14, 3) := by decide +kernel
theorem dX0_memberAt_16 : decode cX0_memberAt 16 = .ok (.iload_n 1, 1) := by decide +kernel
theorem dX0_memberAt_17 : decode cX0_memberAt 17 = .ok (.invokevirtual 41, 3) := by decide +kernel
theorem dX0_memberAt_20 : decode cX0_memberAt 20 = .ok (.goto 5, 3) := by decide +kernel
theorem dX0_memberAt_23 : decode cX0_memberAt 23 = .ok (.ldc 74, 2) := by decide +kernel
theorem dX0_memberAt_25 : decode cX0_memberAt 25 = .ok (.ireturn, 1) := by decide +kernel
theorem dX0_rankOf_0 : decode cX0_rankOf 0 = .ok (.iconst 0, 1) := by decide +kernel
theorem dX0_rankOf_1 : decode cX0_rankOf 1 = .ok (.istore_n 2, 1) := by decide +kernel
theorem dX0_rankOf_2 : decode cX0_rankOf 2 = .ok (.iload_n 2, 1) := by decide +kernel
theorem dX0_rankOf_3 : decode cX0_rankOf 3 = .ok (.aload_n 0, 1) := by decide +kernel
theorem dX0_rankOf_4 : decode cX0_rankOf 4 = .ok (.getfield 68, 3) := by decide +kernel
theorem dX0_rankOf_7 : decode cX0_rankOf 7 = .ok (.if_icmp .ge 23, 3) := by decide +kernel
theorem dX0_rankOf_10 : decode cX0_rankOf 10 = .ok (.aload_n 0, 1) := by decide +kernel
theorem dX0_rankOf_11 : decode cX0_rankOf 11 = .ok (.getfield 14, 3) := by decide +kernel
theorem dX0_rankOf_14 : decode cX0_rankOf 14 = .ok (.iload_n 2, 1) := by decide +kernel
theorem dX0_rankOf_15 : decode cX0_rankOf 15 = .ok (.invokevirtual 41, 3) := by decide +kernel
theorem dX0_rankOf_18 : decode cX0_rankOf 18 = .ok (.iload_n 1, 1) := by decide +kernel
theorem dX0_rankOf_19 : decode cX0_rankOf 19 = .ok (.if_icmp .ne 5, 3) := by decide +kernel
theorem dX0_rankOf_22 : decode cX0_rankOf 22 = .ok (.iload_n 2, 1) := by decide +kernel
theorem dX0_rankOf_23 : decode cX0_rankOf 23 = .ok (.ireturn, 1) := by decide +kernel
theorem dX0_rankOf_24 : decode cX0_rankOf 24 = .ok (.iinc 2 1, 3) := by decide +kernel
theorem dX0_rankOf_27 : decode cX0_rankOf 27 = .ok (.goto (-25), 3) := by decide +kernel
theorem dX0_rankOf_30 : decode cX0_rankOf 30 = .ok (.ldc 74, 2) := by decide +kernel
theorem dX0_rankOf_32 : decode cX0_rankOf 32 = .ok (.ireturn, 1) := by decide +kernel
theorem dX0_copy_0 : decode cX0_copy 0 = .ok (.aload_n 0, 1) := by decide +kernel
theorem dX0_copy_1 : decode cX0_copy 1 = .ok (.aload_n 1, 1) := by decide +kernel
theorem dX0_copy_2 : decode cX0_copy 2 = .ok (.getfield 20, 3) := by decide +kernel
theorem dX0_copy_5 : decode cX0_copy 5 = .ok (.putfield 20, 3) := by decide +kernel
theorem dX0_copy_8 : decode cX0_copy 8 = .ok (.aload_n 0, 1) := by decide +kernel
theorem dX0_copy_9 : decode cX0_copy 9 = .ok (.aload_n 1, 1) := by decide +kernel
theorem dX0_copy_10 : decode cX0_copy 10 = .ok (.getfield 24, 3) := by decide +kernel
theorem dX0_copy_13 : decode cX0_copy 13 = .ok (.putfield 24, 3) := by decide +kernel
theorem dX0_copy_16 : decode cX0_copy 16 = .ok (.aload_n 0, 1) := by decide +kernel
theorem dX0_copy_17 : decode cX0_copy 17 = .ok (.aload_n 1, 1) := by decide +kernel
theorem dX0_copy_18 : decode cX0_copy 18 = .ok (.getfield 68, 3) := by decide +kernel
theorem dX0_copy_21 : decode cX0_copy 21 = .ok (.putfield 68, 3) := by decide +kernel
theorem dX0_copy_24 : decode cX0_copy 24 = .ok (.aload_n 0, 1) := by decide +kernel
theorem dX0_copy_25 : decode cX0_copy 25 = .ok (.getfield 14, 3) := by decide +kernel
theorem dX0_copy_28 : decode cX0_copy 28 = .ok (.aload_n 1, 1) := by decide +kernel
theorem dX0_copy_29 : decode cX0_copy 29 = .ok (.getfield 14, 3) := by decide +kernel
theorem dX0_copy_32 : decode cX0_copy 32 = .ok (.invokevirtual 75, 3) := by decide +kernel
theorem dX0_copy_35 : decode cX0_copy 35 = .ok (.return_, 1) := by decide +kernel
theorem dX1_init_0 : decode cX1_init 0 = .ok (.aload_n 0, 1) := by decide +kernel
theorem dX1_init_1 : decode cX1_init 1 = .ok (.invokespecial 3, 3) := by decide +kernel
theorem dX1_init_4 : decode cX1_init 4 = .ok (.aload_n 0, 1) := by decide +kernel
theorem dX1_init_5 : decode cX1_init 5 = .ok (.iconst 4, 1) := by decide +kernel
theorem dX1_init_6 : decode cX1_init 6 = .ok (.anewarray 9, 3) := by decide +kernel
theorem dX1_init_9 : decode cX1_init 9 = .ok (.putfield 11, 3) := by decide +kernel
theorem dX1_init_12 : decode cX1_init 12 = .ok (.iconst 0, 1) := by decide +kernel
theorem dX1_init_13 : decode cX1_init 13 = .ok (.istore_n 1, 1) := by decide +kernel
theorem dX1_init_14 : decode cX1_init 14 = .ok (.iload_n 1, 1) := by decide +kernel
theorem dX1_init_15 : decode cX1_init 15 = .ok (.aload_n 0, 1) := by decide +kernel
theorem dX1_init_16 : decode cX1_init 16 = .ok (.getfield 11, 3) := by decide +kernel
theorem dX1_init_19 : decode cX1_init 19 = .ok (.arraylength, 1) := by decide +kernel
theorem dX1_init_20 : decode cX1_init 20 = .ok (.if_icmp .ge 22, 3) := by decide +kernel
theorem dX1_init_23 : decode cX1_init 23 = .ok (.aload_n 0, 1) := by decide +kernel
theorem dX1_init_24 : decode cX1_init 24 = .ok (.getfield 11, 3) := by decide +kernel
theorem dX1_init_27 : decode cX1_init 27 = .ok (.iload_n 1, 1) := by decide +kernel
theorem dX1_init_28 : decode cX1_init 28 = .ok (.new 9, 3) := by decide +kernel
theorem dX1_init_31 : decode cX1_init 31 = .ok (.dup, 1) := by decide +kernel
theorem dX1_init_32 : decode cX1_init 32 = .ok (.invokespecial 17, 3) := by decide +kernel
theorem dX1_init_35 : decode cX1_init 35 = .ok (.aastore, 1) := by decide +kernel
theorem dX1_init_36 : decode cX1_init 36 = .ok (.iinc 1 1, 3) := by decide +kernel
theorem dX1_init_39 : decode cX1_init 39 = .ok (.goto (-25), 3) := by decide +kernel
theorem dX1_init_42 : decode cX1_init 42 = .ok (.return_, 1) := by decide +kernel
theorem dX1_keep_0 : decode cX1_keep 0 = .ok (.aload_n 0, 1) := by decide +kernel
theorem dX1_keep_1 : decode cX1_keep 1 = .ok (.aload_n 0, 1) := by decide +kernel
theorem dX1_keep_2 : decode cX1_keep 2 = .ok (.getfield 18, 3) := by decide +kernel
theorem dX1_keep_5 : decode cX1_keep 5 = .ok (.invokevirtual 22, 3) := by decide +kernel
theorem dX1_keep_8 : decode cX1_keep 8 = .ok (.astore_n 2, 1) := by decide +kernel
theorem dX1_keep_9 : decode cX1_keep 9 = .ok (.aload_n 2, 1) := by decide +kernel
theorem dX1_keep_10 : decode cX1_keep 10 = .ok (.ifnull 8, 3) := by decide +kernel
theorem dX1_keep_13 : decode cX1_keep 13 = .ok (.aload_n 2, 1) := by decide +kernel
theorem dX1_keep_14 : decode cX1_keep 14 = .ok (.aload_n 1, 1) := by decide +kernel
theorem dX1_keep_15 : decode cX1_keep 15 = .ok (.invokevirtual 26, 3) := by decide +kernel
theorem dX1_keep_18 : decode cX1_keep 18 = .ok (.aload_n 0, 1) := by decide +kernel
theorem dX1_keep_19 : decode cX1_keep 19 = .ok (.getfield 18, 3) := by decide +kernel
theorem dX1_keep_22 : decode cX1_keep 22 = .ok (.iconst 4, 1) := by decide +kernel
theorem dX1_keep_23 : decode cX1_keep 23 = .ok (.if_icmp .ge 16, 3) := by decide +kernel
theorem dX1_keep_26 : decode cX1_keep 26 = .ok (.aload_n 0, 1) := by decide +kernel
theorem dX1_keep_27 : decode cX1_keep 27 = .ok (.dup, 1) := by decide +kernel
theorem dX1_keep_28 : decode cX1_keep 28 = .ok (.getfield 18, 3) := by decide +kernel
theorem dX1_keep_31 : decode cX1_keep 31 = .ok (.iconst 1, 1) := by decide +kernel
theorem dX1_keep_32 : decode cX1_keep 32 = .ok (.iadd, 1) := by decide +kernel
theorem dX1_keep_33 : decode cX1_keep 33 = .ok (.putfield 18, 3) := by decide +kernel
theorem dX1_keep_36 : decode cX1_keep 36 = .ok (.goto 15, 3) := by decide +kernel
theorem dX1_keep_39 : decode cX1_keep 39 = .ok (.aload_n 0, 1) := by decide +kernel
theorem dX1_keep_40 : decode cX1_keep 40 = .ok (.aload_n 0, 1) := by decide +kernel
theorem dX1_keep_41 : decode cX1_keep 41 = .ok (.getfield 30, 3) := by decide +kernel
theorem dX1_keep_44 : decode cX1_keep 44 = .ok (.iconst 1, 1) := by decide +kernel
theorem dX1_keep_45 : decode cX1_keep 45 = .ok (.iadd, 1) := by decide +kernel
theorem dX1_keep_46 : decode cX1_keep 46 = .ok (.iconst 4, 1) := by decide +kernel
theorem dX1_keep_47 : decode cX1_keep 47 = .ok (.irem, 1) := by decide +kernel
theorem dX1_keep_48 : decode cX1_keep 48 = .ok (.putfield 30, 3) := by decide +kernel
theorem dX1_keep_51 : decode cX1_keep 51 = .ok (.return_, 1) := by decide +kernel
theorem dX1_giveBack_0 : decode cX1_giveBack 0 = .ok (.aload_n 0, 1) := by decide +kernel
theorem dX1_giveBack_1 : decode cX1_giveBack 1 = .ok (.aload_n 0, 1) := by decide +kernel
theorem dX1_giveBack_2 : decode cX1_giveBack 2 = .ok (.getfield 18, 3) := by decide +kernel
theorem dX1_giveBack_5 : decode cX1_giveBack 5 = .ok (.iconst 1, 1) := by decide +kernel
theorem dX1_giveBack_6 : decode cX1_giveBack 6 = .ok (.isub, 1) := by decide +kernel
theorem dX1_giveBack_7 : decode cX1_giveBack 7 = .ok (.invokevirtual 22, 3) := by decide +kernel
theorem dX1_giveBack_10 : decode cX1_giveBack 10 = .ok (.astore_n 2, 1) := by decide +kernel
theorem dX1_giveBack_11 : decode cX1_giveBack 11 = .ok (.aload_n 2, 1) := by decide +kernel
theorem dX1_giveBack_12 : decode cX1_giveBack 12 = .ok (.ifnull 18, 3) := by decide +kernel
theorem dX1_giveBack_15 : decode cX1_giveBack 15 = .ok (.aload_n 1, 1) := by decide +kernel
theorem dX1_giveBack_16 : decode cX1_giveBack 16 = .ok (.aload_n 2, 1) := by decide +kernel
theorem dX1_giveBack_17 : decode cX1_giveBack 17 = .ok (.invokevirtual 26, 3) := by decide +kernel
theorem dX1_giveBack_20 : decode cX1_giveBack 20 = .ok (.aload_n 0, 1) := by decide +kernel
theorem dX1_giveBack_21 : decode cX1_giveBack 21 = .ok (.dup, 1) := by decide +kernel
theorem dX1_giveBack_22 : decode cX1_giveBack 22 = .ok (.getfield 18, 3) := by decide +kernel
theorem dX1_giveBack_25 : decode cX1_giveBack 25 = .ok (.iconst 1, 1) := by decide +kernel
theorem dX1_giveBack_26 : decode cX1_giveBack 26 = .ok (.isub, 1) := by decide +kernel
theorem dX1_giveBack_27 : decode cX1_giveBack 27 = .ok (.putfield 18, 3) := by decide +kernel
theorem dX1_giveBack_30 : decode cX1_giveBack 30 = .ok (.return_, 1) := by decide +kernel
theorem dX1_stateAt_0 : decode cX1_stateAt 0 = .ok (.aload_n 0, 1) := by decide +kernel
theorem dX1_stateAt_1 : decode cX1_stateAt 1 = .ok (.getfield 30, 3) := by decide +kernel
theorem dX1_stateAt_4 : decode cX1_stateAt 4 = .ok (.iload_n 1, 1) := by decide +kernel
theorem dX1_stateAt_5 : decode cX1_stateAt 5 = .ok (.iadd, 1) := by decide +kernel
theorem dX1_stateAt_6 : decode cX1_stateAt 6 = .ok (.iconst 4, 1) := by decide +kernel
theorem dX1_stateAt_7 : decode cX1_stateAt 7 = .ok (.irem, 1) := by decide +kernel
theorem dX1_stateAt_8 : decode cX1_stateAt 8 = .ok (.istore_n 2, 1) := by decide +kernel
theorem dX1_stateAt_9 : decode cX1_stateAt 9 = .ok (.iload_n 2, 1) := by decide +kernel
theorem dX1_stateAt_10 : decode cX1_stateAt 10 = .ok (.ifCond .lt 21, 3) := by decide +kernel
theorem dX1_stateAt_13 : decode cX1_stateAt 13 = .ok (.iload_n 2, 1) := by decide +kernel
theorem dX1_stateAt_14 : decode cX1_stateAt 14 = .ok (.aload_n 0, 1) := by decide +kernel
theorem dX1_stateAt_15 : decode cX1_stateAt 15 = .ok (.getfield 11, 3) := by decide +kernel
theorem dX1_stateAt_18 : decode cX1_stateAt 18 = .ok (.arraylength, 1) := by decide +kernel
theorem dX1_stateAt_19 : decode cX1_stateAt 19 = .ok (.if_icmp .ge 12, 3) := by decide +kernel
theorem dX1_stateAt_22 : decode cX1_stateAt 22 = .ok (.aload_n 0, 1) := by decide +kernel
theorem dX1_stateAt_23 : decode cX1_stateAt 23 = .ok (.getfield 11, 3) := by decide +kernel
theorem dX1_stateAt_26 : decode cX1_stateAt 26 = .ok (.iload_n 2, 1) := by decide +kernel
theorem dX1_stateAt_27 : decode cX1_stateAt 27 = .ok (.aaload, 1) := by decide +kernel
theorem dX1_stateAt_28 : decode cX1_stateAt 28 = .ok (.goto 4, 3) := by decide +kernel
theorem dX1_stateAt_31 : decode cX1_stateAt 31 = .ok (.aconst_null, 1) := by decide +kernel
theorem dX1_stateAt_32 : decode cX1_stateAt 32 = .ok (.areturn, 1) := by decide +kernel
theorem dX2_init_0 : decode cX2_init 0 = .ok (.aload_n 0, 1) := by decide +kernel
theorem dX2_init_1 : decode cX2_init 1 = .ok (.invokespecial 3, 3) := by decide +kernel
theorem dX2_init_4 : decode cX2_init 4 = .ok (.aload_n 0, 1) := by decide +kernel
theorem dX2_init_5 : decode cX2_init 5 = .ok (.new 9, 3) := by decide +kernel
theorem dX2_init_8 : decode cX2_init 8 = .ok (.dup, 1) := by decide +kernel
theorem dX2_init_9 : decode cX2_init 9 = .ok (.sipush 140, 3) := by decide +kernel
theorem dX2_init_12 : decode cX2_init 12 = .ok (.invokespecial 11, 3) := by decide +kernel
theorem dX2_init_15 : decode cX2_init 15 = .ok (.putfield 14, 3) := by decide +kernel
theorem dX2_init_18 : decode cX2_init 18 = .ok (.return_, 1) := by decide +kernel
theorem dX2_add_0 : decode cX2_add 0 = .ok (.aload_n 0, 1) := by decide +kernel
theorem dX2_add_1 : decode cX2_add 1 = .ok (.getfield 20, 3) := by decide +kernel
theorem dX2_add_4 : decode cX2_add 4 = .ok (.bipush 20, 2) := by decide +kernel
theorem dX2_add_6 : decode cX2_add 6 = .ok (.irem, 1) := by decide +kernel
theorem dX2_add_7 : decode cX2_add 7 = .ok (.bipush 7, 2) := by decide +kernel
theorem dX2_add_9 : decode cX2_add 9 = .ok (.imul, 1) := by decide +kernel
theorem dX2_add_10 : decode cX2_add 10 = .ok (.istore_n 3, 1) := by decide +kernel
theorem dX2_add_11 : decode cX2_add 11 = .ok (.aload_n 0, 1) := by decide +kernel
theorem dX2_add_12 : decode cX2_add 12 = .ok (.getfield 14, 3) := by decide +kernel
theorem dX2_add_15 : decode cX2_add 15 = .ok (.iload_n 3, 1) := by decide +kernel
theorem dX2_add_16 : decode cX2_add 16 = .ok (.aload_n 1, 1) := by decide +kernel
theorem dX2_add_17 : decode cX2_add 17 = .ok (.getfield 24, 3) := by decide +kernel
theorem dX2_add_20 : decode cX2_add 20 = .ok (.invokevirtual 29, 3) := by decide +kernel
theorem dX2_add_23 : decode cX2_add 23 = .ok (.aload_n 0, 1) := by decide +kernel
theorem dX2_add_24 : decode cX2_add 24 = .ok (.getfield 14, 3) := by decide +kernel
theorem dX2_add_27 : decode cX2_add 27 = .ok (.iload_n 3, 1) := by decide +kernel
theorem dX2_add_28 : decode cX2_add 28 = .ok (.iconst 1, 1) := by decide +kernel
theorem dX2_add_29 : decode cX2_add 29 = .ok (.iadd, 1) := by decide +kernel
theorem dX2_add_30 : decode cX2_add 30 = .ok (.iload_n 2, 1) := by decide +kernel
theorem dX2_add_31 : decode cX2_add 31 = .ok (.invokevirtual 29, 3) := by decide +kernel
theorem dX2_add_34 : decode cX2_add 34 = .ok (.aload_n 0, 1) := by decide +kernel
theorem dX2_add_35 : decode cX2_add 35 = .ok (.getfield 14, 3) := by decide +kernel
theorem dX2_add_38 : decode cX2_add 38 = .ok (.iload_n 3, 1) := by decide +kernel
theorem dX2_add_39 : decode cX2_add 39 = .ok (.iconst 2, 1) := by decide +kernel
theorem dX2_add_40 : decode cX2_add 40 = .ok (.iadd, 1) := by decide +kernel
theorem dX2_add_41 : decode cX2_add 41 = .ok (.aload_n 1, 1) := by decide +kernel
theorem dX2_add_42 : decode cX2_add 42 = .ok (.getfield 33, 3) := by decide +kernel
theorem dX2_add_45 : decode cX2_add 45 = .ok (.invokevirtual 29, 3) := by decide +kernel
theorem dX2_add_48 : decode cX2_add 48 = .ok (.aload_n 0, 1) := by decide +kernel
theorem dX2_add_49 : decode cX2_add 49 = .ok (.getfield 14, 3) := by decide +kernel
theorem dX2_add_52 : decode cX2_add 52 = .ok (.iload_n 3, 1) := by decide +kernel
theorem dX2_add_53 : decode cX2_add 53 = .ok (.iconst 3, 1) := by decide +kernel
theorem dX2_add_54 : decode cX2_add 54 = .ok (.iadd, 1) := by decide +kernel
theorem dX2_add_55 : decode cX2_add 55 = .ok (.aload_n 1, 1) := by decide +kernel
theorem dX2_add_56 : decode cX2_add 56 = .ok (.getfield 36, 3) := by decide +kernel
theorem dX2_add_59 : decode cX2_add 59 = .ok (.invokevirtual 29, 3) := by decide +kernel
theorem dX2_add_62 : decode cX2_add 62 = .ok (.aload_n 0, 1) := by decide +kernel
theorem dX2_add_63 : decode cX2_add 63 = .ok (.getfield 14, 3) := by decide +kernel
theorem dX2_add_66 : decode cX2_add 66 = .ok (.iload_n 3, 1) := by decide +kernel
theorem dX2_add_67 : decode cX2_add 67 = .ok (.iconst 4, 1) := by decide +kernel
theorem dX2_add_68 : decode cX2_add 68 = .ok (.iadd, 1) := by decide +kernel
theorem dX2_add_69 : decode cX2_add 69 = .ok (.aload_n 1, 1) := by decide +kernel
theorem dX2_add_70 : decode cX2_add 70 = .ok (.getfield 39, 3) := by decide +kernel
theorem dX2_add_73 : decode cX2_add 73 = .ok (.invokevirtual 29, 3) := by decide +kernel
theorem dX2_add_76 : decode cX2_add 76 = .ok (.aload_n 0, 1) := by decide +kernel
theorem dX2_add_77 : decode cX2_add 77 = .ok (.getfield 14, 3) := by decide +kernel
theorem dX2_add_80 : decode cX2_add 80 = .ok (.iload_n 3, 1) := by decide +kernel
theorem dX2_add_81 : decode cX2_add 81 = .ok (.iconst 5, 1) := by decide +kernel
theorem dX2_add_82 : decode cX2_add 82 = .ok (.iadd, 1) := by decide +kernel
theorem dX2_add_83 : decode cX2_add 83 = .ok (.aload_n 1, 1) := by decide +kernel
theorem dX2_add_84 : decode cX2_add 84 = .ok (.getfield 42, 3) := by decide +kernel
theorem dX2_add_87 : decode cX2_add 87 = .ok (.invokevirtual 29, 3) := by decide +kernel
theorem dX2_add_90 : decode cX2_add 90 = .ok (.aload_n 0, 1) := by decide +kernel
theorem dX2_add_91 : decode cX2_add 91 = .ok (.getfield 14, 3) := by decide +kernel
theorem dX2_add_94 : decode cX2_add 94 = .ok (.iload_n 3, 1) := by decide +kernel
theorem dX2_add_95 : decode cX2_add 95 = .ok (.bipush 6, 2) := by decide +kernel
theorem dX2_add_97 : decode cX2_add 97 = .ok (.iadd, 1) := by decide +kernel
theorem dX2_add_98 : decode cX2_add 98 = .ok (.aload_n 1, 1) := by decide +kernel
theorem dX2_add_99 : decode cX2_add 99 = .ok (.getfield 45, 3) := by decide +kernel
theorem dX2_add_102 : decode cX2_add 102 = .ok (.invokevirtual 29, 3) := by decide +kernel
theorem dX2_add_105 : decode cX2_add 105 = .ok (.aload_n 0, 1) := by decide +kernel
theorem dX2_add_106 : decode cX2_add 106 = .ok (.dup, 1) := by decide +kernel
theorem dX2_add_107 : decode cX2_add 107 = .ok (.getfield 20, 3) := by decide +kernel
theorem dX2_add_110 : decode cX2_add 110 = .ok (.iconst 1, 1) := by decide +kernel
theorem dX2_add_111 : decode cX2_add 111 = .ok (.iadd, 1) := by decide +kernel
theorem dX2_add_112 : decode cX2_add 112 = .ok (.putfield 20, 3) := by decide +kernel
theorem dX2_add_115 : decode cX2_add 115 = .ok (.aload_n 0, 1) := by decide +kernel
theorem dX2_add_116 : decode cX2_add 116 = .ok (.dup, 1) := by decide +kernel
theorem dX2_add_117 : decode cX2_add 117 = .ok (.getfield 48, 3) := by decide +kernel
theorem dX2_add_120 : decode cX2_add 120 = .ok (.aload_n 1, 1) := by decide +kernel
theorem dX2_add_121 : decode cX2_add 121 = .ok (.getfield 36, 3) := by decide +kernel
theorem dX2_add_124 : decode cX2_add 124 = .ok (.invokestatic 51, 3) := by decide +kernel
theorem dX2_add_127 : decode cX2_add 127 = .ok (.iadd, 1) := by decide +kernel
theorem dX2_add_128 : decode cX2_add 128 = .ok (.putfield 48, 3) := by decide +kernel
theorem dX2_add_131 : decode cX2_add 131 = .ok (.aload_n 0, 1) := by decide +kernel
theorem dX2_add_132 : decode cX2_add 132 = .ok (.dup, 1) := by decide +kernel
theorem dX2_add_133 : decode cX2_add 133 = .ok (.getfield 57, 3) := by decide +kernel
theorem dX2_add_136 : decode cX2_add 136 = .ok (.aload_n 1, 1) := by decide +kernel
theorem dX2_add_137 : decode cX2_add 137 = .ok (.getfield 39, 3) := by decide +kernel
theorem dX2_add_140 : decode cX2_add 140 = .ok (.invokestatic 51, 3) := by decide +kernel
theorem dX2_add_143 : decode cX2_add 143 = .ok (.iadd, 1) := by decide +kernel
theorem dX2_add_144 : decode cX2_add 144 = .ok (.putfield 57, 3) := by decide +kernel
theorem dX2_add_147 : decode cX2_add 147 = .ok (.return_, 1) := by decide +kernel
theorem dX2_kept_0 : decode cX2_kept 0 = .ok (.aload_n 0, 1) := by decide +kernel
theorem dX2_kept_1 : decode cX2_kept 1 = .ok (.getfield 20, 3) := by decide +kernel
theorem dX2_kept_4 : decode cX2_kept 4 = .ok (.bipush 20, 2) := by decide +kernel
theorem dX2_kept_6 : decode cX2_kept 6 = .ok (.invokestatic 58, 3) := by decide +kernel
theorem dX2_kept_9 : decode cX2_kept 9 = .ok (.ireturn, 1) := by decide +kernel
theorem dX2_number_0 : decode cX2_number 0 = .ok (.iload_n 1, 1) := by decide +kernel
theorem dX2_number_1 : decode cX2_number 1 = .ok (.aload_n 0, 1) := by decide +kernel
theorem dX2_number_2 : decode cX2_number 2 = .ok (.invokevirtual 64, 3) := by decide +kernel
theorem dX2_number_5 : decode cX2_number 5 = .ok (.if_icmp .lt 6, 3) := by decide +kernel
theorem dX2_number_8 : decode cX2_number 8 = .ok (.ldc 68, 2) := by decide +kernel
theorem dX2_number_10 : decode cX2_number 10 = .ok (.ireturn, 1) := by decide +kernel
theorem dX2_number_11 : decode cX2_number 11 = .ok (.aload_n 0, 1) := by decide +kernel
theorem dX2_number_12 : decode cX2_number 12 = .ok (.getfield 14, 3) := by decide +kernel
theorem dX2_number_15 : decode cX2_number 15 = .ok (.aload_n 0, 1) := by decide +kernel
theorem dX2_number_16 : decode cX2_number 16 = .ok (.getfield 20, 3) := by decide +kernel
theorem dX2_number_19 : decode cX2_number 19 = .ok (.iconst 1, 1) := by decide +kernel
theorem dX2_number_20 : decode cX2_number 20 = .ok (.isub, 1) := by decide +kernel
theorem dX2_number_21 : decode cX2_number 21 = .ok (.iload_n 1, 1) := by decide +kernel
theorem dX2_number_22 : decode cX2_number 22 = .ok (.isub, 1) := by decide +kernel
theorem dX2_number_23 : decode cX2_number 23 = .ok (.bipush 20, 2) := by decide +kernel
theorem dX2_number_25 : decode cX2_number 25 = .ok (.irem, 1) := by decide +kernel
theorem dX2_number_26 : decode cX2_number 26 = .ok (.bipush 7, 2) := by decide +kernel
theorem dX2_number_28 : decode cX2_number 28 = .ok (.imul, 1) := by decide +kernel
theorem dX2_number_29 : decode cX2_number 29 = .ok (.iload_n 2, 1) := by decide +kernel
theorem dX2_number_30 : decode cX2_number 30 = .ok (.iadd, 1) := by decide +kernel
theorem dX2_number_31 : decode cX2_number 31 = .ok (.invokevirtual 69, 3) := by decide +kernel
theorem dX2_number_34 : decode cX2_number 34 = .ok (.ireturn, 1) := by decide +kernel
theorem dX2_copy_0 : decode cX2_copy 0 = .ok (.aload_n 0, 1) := by decide +kernel
theorem dX2_copy_1 : decode cX2_copy 1 = .ok (.aload_n 1, 1) := by decide +kernel
theorem dX2_copy_2 : decode cX2_copy 2 = .ok (.getfield 20, 3) := by decide +kernel
theorem dX2_copy_5 : decode cX2_copy 5 = .ok (.putfield 20, 3) := by decide +kernel
theorem dX2_copy_8 : decode cX2_copy 8 = .ok (.aload_n 0, 1) := by decide +kernel
theorem dX2_copy_9 : decode cX2_copy 9 = .ok (.aload_n 1, 1) := by decide +kernel
theorem dX2_copy_10 : decode cX2_copy 10 = .ok (.getfield 48, 3) := by decide +kernel
theorem dX2_copy_13 : decode cX2_copy 13 = .ok (.putfield 48, 3) := by decide +kernel
theorem dX2_copy_16 : decode cX2_copy 16 = .ok (.aload_n 0, 1) := by decide +kernel
theorem dX2_copy_17 : decode cX2_copy 17 = .ok (.aload_n 1, 1) := by decide +kernel
theorem dX2_copy_18 : decode cX2_copy 18 = .ok (.getfield 57, 3) := by decide +kernel
theorem dX2_copy_21 : decode cX2_copy 21 = .ok (.putfield 57, 3) := by decide +kernel
theorem dX2_copy_24 : decode cX2_copy 24 = .ok (.aload_n 0, 1) := by decide +kernel
theorem dX2_copy_25 : decode cX2_copy 25 = .ok (.getfield 14, 3) := by decide +kernel
theorem dX2_copy_28 : decode cX2_copy 28 = .ok (.aload_n 1, 1) := by decide +kernel
theorem dX2_copy_29 : decode cX2_copy 29 = .ok (.getfield 14, 3) := by decide +kernel
theorem dX2_copy_32 : decode cX2_copy 32 = .ok (.invokevirtual 72, 3) := by decide +kernel
theorem dX2_copy_35 : decode cX2_copy 35 = .ok (.return_, 1) := by decide +kernel
theorem dX3_init_0 : decode cX3_init 0 = .ok (.aload_n 0, 1) := by decide +kernel
theorem dX3_init_1 : decode cX3_init 1 = .ok (.invokespecial 3, 3) := by decide +kernel
theorem dX3_init_4 : decode cX3_init 4 = .ok (.aload_n 0, 1) := by decide +kernel
theorem dX3_init_5 : decode cX3_init 5 = .ok (.new 9, 3) := by decide +kernel
theorem dX3_init_8 : decode cX3_init 8 = .ok (.dup, 1) := by decide +kernel
theorem dX3_init_9 : decode cX3_init 9 = .ok (.bipush 10, 2) := by decide +kernel
theorem dX3_init_11 : decode cX3_init 11 = .ok (.invokespecial 11, 3) := by decide +kernel
theorem dX3_init_14 : decode cX3_init 14 = .ok (.putfield 14, 3) := by decide +kernel
theorem dX3_init_17 : decode cX3_init 17 = .ok (.aload_n 0, 1) := by decide +kernel
theorem dX3_init_18 : decode cX3_init 18 = .ok (.new 9, 3) := by decide +kernel
theorem dX3_init_21 : decode cX3_init 21 = .ok (.dup, 1) := by decide +kernel
theorem dX3_init_22 : decode cX3_init 22 = .ok (.bipush 10, 2) := by decide +kernel
theorem dX3_init_24 : decode cX3_init 24 = .ok (.invokespecial 11, 3) := by decide +kernel
theorem dX3_init_27 : decode cX3_init 27 = .ok (.putfield 20, 3) := by decide +kernel
theorem dX3_init_30 : decode cX3_init 30 = .ok (.aload_n 0, 1) := by decide +kernel
theorem dX3_init_31 : decode cX3_init 31 = .ok (.new 9, 3) := by decide +kernel
theorem dX3_init_34 : decode cX3_init 34 = .ok (.dup, 1) := by decide +kernel
theorem dX3_init_35 : decode cX3_init 35 = .ok (.bipush 10, 2) := by decide +kernel
theorem dX3_init_37 : decode cX3_init 37 = .ok (.invokespecial 11, 3) := by decide +kernel
theorem dX3_init_40 : decode cX3_init 40 = .ok (.putfield 23, 3) := by decide +kernel
theorem dX3_init_43 : decode cX3_init 43 = .ok (.aload_n 0, 1) := by decide +kernel
theorem dX3_init_44 : decode cX3_init 44 = .ok (.new 9, 3) := by decide +kernel
theorem dX3_init_47 : decode cX3_init 47 = .ok (.dup, 1) := by decide +kernel
theorem dX3_init_48 : decode cX3_init 48 = .ok (.bipush 10, 2) := by decide +kernel
theorem dX3_init_50 : decode cX3_init 50 = .ok (.invokespecial 11, 3) := by decide +kernel
theorem dX3_init_53 : decode cX3_init 53 = .ok (.putfield 26, 3) := by decide +kernel
theorem dX3_init_56 : decode cX3_init 56 = .ok (.aload_n 0, 1) := by decide +kernel
theorem dX3_init_57 : decode cX3_init 57 = .ok (.new 9, 3) := by decide +kernel
theorem dX3_init_60 : decode cX3_init 60 = .ok (.dup, 1) := by decide +kernel
theorem dX3_init_61 : decode cX3_init 61 = .ok (.bipush 10, 2) := by decide +kernel
theorem dX3_init_63 : decode cX3_init 63 = .ok (.invokespecial 11, 3) := by decide +kernel
theorem dX3_init_66 : decode cX3_init 66 = .ok (.putfield 29, 3) := by decide +kernel
theorem dX3_init_69 : decode cX3_init 69 = .ok (.aload_n 0, 1) := by decide +kernel
theorem dX3_init_70 : decode cX3_init 70 = .ok (.new 9, 3) := by decide +kernel
theorem dX3_init_73 : decode cX3_init 73 = .ok (.dup, 1) := by decide +kernel
theorem dX3_init_74 : decode cX3_init 74 = .ok (.bipush 10, 2) := by decide +kernel
theorem dX3_init_76 : decode cX3_init 76 = .ok (.invokespecial 11, 3) := by decide +kernel
theorem dX3_init_79 : decode cX3_init 79 = .ok (.putfield 32, 3) := by decide +kernel
theorem dX3_init_82 : decode cX3_init 82 = .ok (.aload_n 0, 1) := by decide +kernel
theorem dX3_init_83 : decode cX3_init 83 = .ok (.new 9, 3) := by decide +kernel
theorem dX3_init_86 : decode cX3_init 86 = .ok (.dup, 1) := by decide +kernel
theorem dX3_init_87 : decode cX3_init 87 = .ok (.bipush 10, 2) := by decide +kernel
theorem dX3_init_89 : decode cX3_init 89 = .ok (.invokespecial 11, 3) := by decide +kernel
theorem dX3_init_92 : decode cX3_init 92 = .ok (.putfield 35, 3) := by decide +kernel
theorem dX3_init_95 : decode cX3_init 95 = .ok (.aload_n 0, 1) := by decide +kernel
theorem dX3_init_96 : decode cX3_init 96 = .ok (.new 9, 3) := by decide +kernel
theorem dX3_init_99 : decode cX3_init 99 = .ok (.dup, 1) := by decide +kernel
theorem dX3_init_100 : decode cX3_init 100 = .ok (.bipush 10, 2) := by decide +kernel
theorem dX3_init_102 : decode cX3_init 102 = .ok (.invokespecial 11, 3) := by decide +kernel
theorem dX3_init_105 : decode cX3_init 105 = .ok (.putfield 38, 3) := by decide +kernel
theorem dX3_init_108 : decode cX3_init 108 = .ok (.return_, 1) := by decide +kernel
theorem dX3_enter_0 : decode cX3_enter 0 = .ok (.aload_n 0, 1) := by decide +kernel
theorem dX3_enter_1 : decode cX3_enter 1 = .ok (.getfield 41, 3) := by decide +kernel
theorem dX3_enter_4 : decode cX3_enter 4 = .ok (.istore_n 3, 1) := by decide +kernel
theorem dX3_enter_5 : decode cX3_enter 5 = .ok (.aload_n 0, 1) := by decide +kernel
theorem dX3_enter_6 : decode cX3_enter 6 = .ok (.getfield 14, 3) := by decide +kernel
theorem dX3_enter_9 : decode cX3_enter 9 = .ok (.iload_n 3, 1) := by decide +kernel
theorem dX3_enter_10 : decode cX3_enter 10 = .ok (.iload_n 1, 1) := by decide +kernel
theorem dX3_enter_11 : decode cX3_enter 11 = .ok (.invokevirtual 45, 3) := by decide +kernel
theorem dX3_enter_14 : decode cX3_enter 14 = .ok (.aload_n 0, 1) := by decide +kernel
theorem dX3_enter_15 : decode cX3_enter 15 = .ok (.getfield 20, 3) := by decide +kernel
theorem dX3_enter_18 : decode cX3_enter 18 = .ok (.iload_n 3, 1) := by decide +kernel
theorem dX3_enter_19 : decode cX3_enter 19 = .ok (.iload_n 2, 1) := by decide +kernel
theorem dX3_enter_20 : decode cX3_enter 20 = .ok (.invokevirtual 45, 3) := by decide +kernel
theorem dX3_enter_23 : decode cX3_enter 23 = .ok (.aload_n 0, 1) := by decide +kernel
theorem dX3_enter_24 : decode cX3_enter 24 = .ok (.dup, 1) := by decide +kernel
theorem dX3_enter_25 : decode cX3_enter 25 = .ok (.getfield 49, 3) := by decide +kernel
theorem dX3_enter_28 : decode cX3_enter 28 = .ok (.iconst 1, 1) := by decide +kernel
theorem dX3_enter_29 : decode cX3_enter 29 = .ok (.iload_n 3, 1) := by decide +kernel
theorem dX3_enter_30 : decode cX3_enter 30 = .ok (.ishl, 1) := by decide +kernel
theorem dX3_enter_31 : decode cX3_enter 31 = .ok (.ior, 1) := by decide +kernel
theorem dX3_enter_32 : decode cX3_enter 32 = .ok (.putfield 49, 3) := by decide +kernel
theorem dX3_enter_35 : decode cX3_enter 35 = .ok (.aload_n 0, 1) := by decide +kernel
theorem dX3_enter_36 : decode cX3_enter 36 = .ok (.dup, 1) := by decide +kernel
theorem dX3_enter_37 : decode cX3_enter 37 = .ok (.getfield 41, 3) := by decide +kernel
theorem dX3_enter_40 : decode cX3_enter 40 = .ok (.iconst 1, 1) := by decide +kernel
theorem dX3_enter_41 : decode cX3_enter 41 = .ok (.iadd, 1) := by decide +kernel
theorem dX3_enter_42 : decode cX3_enter 42 = .ok (.putfield 41, 3) := by decide +kernel
theorem dX3_enter_45 : decode cX3_enter 45 = .ok (.iload_n 3, 1) := by decide +kernel
theorem dX3_enter_46 : decode cX3_enter 46 = .ok (.ireturn, 1) := by decide +kernel
theorem dX3_lives_0 : decode cX3_lives 0 = .ok (.aload_n 0, 1) := by decide +kernel
theorem dX3_lives_1 : decode cX3_lives 1 = .ok (.getfield 49, 3) := by decide +kernel
theorem dX3_lives_4 : decode cX3_lives 4 = .ok (.iload_n 1, 1) := by decide +kernel
theorem dX3_lives_5 : decode cX3_lives 5 = .ok (.invokestatic 52, 3) := by decide +kernel
theorem dX3_lives_8 : decode cX3_lives 8 = .ok (.ireturn, 1) := by decide +kernel
theorem dX3_distance_0 : decode cX3_distance 0 = .ok (.aload_n 0, 1) := by decide +kernel
theorem dX3_distance_1 : decode cX3_distance 1 = .ok (.getfield 20, 3) := by decide +kernel
theorem dX3_distance_4 : decode cX3_distance 4 = .ok (.iload_n 1, 1) := by decide +kernel
theorem dX3_distance_5 : decode cX3_distance 5 = .ok (.invokevirtual 58, 3) := by decide +kernel
theorem dX3_distance_8 : decode cX3_distance 8 = .ok (.aload_n 0, 1) := by decide +kernel
theorem dX3_distance_9 : decode cX3_distance 9 = .ok (.getfield 20, 3) := by decide +kernel
theorem dX3_distance_12 : decode cX3_distance 12 = .ok (.iload_n 2, 1) := by decide +kernel
theorem dX3_distance_13 : decode cX3_distance 13 = .ok (.invokevirtual 58, 3) := by decide +kernel
theorem dX3_distance_16 : decode cX3_distance 16 = .ok (.isub, 1) := by decide +kernel
theorem dX3_distance_17 : decode cX3_distance 17 = .ok (.invokestatic 62, 3) := by decide +kernel
theorem dX3_distance_20 : decode cX3_distance 20 = .ok (.ireturn, 1) := by decide +kernel
theorem dX3_rightReveals_0 : decode cX3_rightReveals 0 = .ok (.iconst 0, 1) := by decide +kernel
theorem dX3_rightReveals_1 : decode cX3_rightReveals 1 = .ok (.istore_n 1, 1) := by decide +kernel
theorem dX3_rightReveals_2 : decode cX3_rightReveals 2 = .ok (.iconst 0, 1) := by decide +kernel
theorem dX3_rightReveals_3 : decode cX3_rightReveals 3 = .ok (.istore_n 2, 1) := by decide +kernel
theorem dX3_rightReveals_4 : decode cX3_rightReveals 4 = .ok (.iload_n 2, 1) := by decide +kernel
theorem dX3_rightReveals_5 : decode cX3_rightReveals 5 = .ok (.aload_n 0, 1) := by decide +kernel
theorem dX3_rightReveals_6 : decode cX3_rightReveals 6 = .ok (.getfield 41, 3) := by decide +kernel
theorem dX3_rightReveals_9 : decode cX3_rightReveals 9 = .ok (.if_icmp .ge 27, 3) := by decide +kernel
theorem dX3_rightReveals_12 : decode cX3_rightReveals 12 = .ok (.aload_n 0, 1) := by decide +kernel
theorem dX3_rightReveals_13 : decode cX3_rightReveals 13 = .ok (.getfield 32, 3) := by decide +kernel
theorem dX3_rightReveals_16 : decode cX3_rightReveals 16 = .ok (.iload_n 2, 1) := by decide +kernel
theorem dX3_rightReveals_17 : decode cX3_rightReveals 17 = .ok (.invokevirtual 58, 3) := by decide +kernel
theorem dX3_rightReveals_20 : decode cX3_rightReveals 20 = .ok (.iconst 2, 1) := by decide +kernel
theorem dX3_rightReveals_21 : decode cX3_rightReveals 21 = .ok (.if_icmp .ne 9, 3) := by decide +kernel
theorem dX3_rightReveals_24 : decode cX3_rightReveals 24 = .ok (.iload_n 1, 1) := by decide +kernel
theorem dX3_rightReveals_25 : decode cX3_rightReveals 25 = .ok (.iconst 1, 1) := by decide +kernel
theorem dX3_rightReveals_26 : decode cX3_rightReveals 26 = .ok (.iload_n 2, 1) := by decide +kernel
theorem dX3_rightReveals_27 : decode cX3_rightReveals 27 = .ok (.ishl, 1) := by decide +kernel
theorem dX3_rightReveals_28 : decode cX3_rightReveals 28 = .ok (.ior, 1) := by decide +kernel
theorem dX3_rightReveals_29 : decode cX3_rightReveals 29 = .ok (.istore_n 1, 1) := by decide +kernel
theorem dX3_rightReveals_30 : decode cX3_rightReveals 30 = .ok (.iinc 2 1, 3) := by decide +kernel
theorem dX3_rightReveals_33 : decode cX3_rightReveals 33 = .ok (.goto (-29), 3) := by decide +kernel
theorem dX3_rightReveals_36 : decode cX3_rightReveals 36 = .ok (.iload_n 1, 1) := by decide +kernel
theorem dX3_rightReveals_37 : decode cX3_rightReveals 37 = .ok (.ireturn, 1) := by decide +kernel
theorem dX3_endLottery_0 : decode cX3_endLottery 0 = .ok (.iconst 0, 1) := by decide +kernel
theorem dX3_endLottery_1 : decode cX3_endLottery 1 = .ok (.istore_n 2, 1) := by decide +kernel
theorem dX3_endLottery_2 : decode cX3_endLottery 2 = .ok (.iload_n 2, 1) := by decide +kernel
theorem dX3_endLottery_3 : decode cX3_endLottery 3 = .ok (.aload_n 0, 1) := by decide +kernel
theorem dX3_endLottery_4 : decode cX3_endLottery 4 = .ok (.getfield 41, 3) := by decide +kernel
theorem dX3_endLottery_7 : decode cX3_endLottery 7 = .ok (.if_icmp .ge 39, 3) := by decide +kernel
theorem dX3_endLottery_10 : decode cX3_endLottery 10 = .ok (.aload_n 0, 1) := by decide +kernel
theorem dX3_endLottery_11 : decode cX3_endLottery 11 = .ok (.getfield 32, 3) := by decide +kernel
theorem dX3_endLottery_14 : decode cX3_endLottery 14 = .ok (.iload_n 2, 1) := by decide +kernel
theorem dX3_endLottery_15 : decode cX3_endLottery 15 = .ok (.iconst 0, 1) := by decide +kernel
theorem dX3_endLottery_16 : decode cX3_endLottery 16 = .ok (.invokevirtual 67, 3) := by decide +kernel
theorem dX3_endLottery_19 : decode cX3_endLottery 19 = .ok (.istore_n 3, 1) := by decide +kernel
theorem dX3_endLottery_20 : decode cX3_endLottery 20 = .ok (.iload_n 3, 1) := by decide +kernel
theorem dX3_endLottery_21 : decode cX3_endLottery 21 = .ok (.iconst 1, 1) := by decide +kernel
theorem dX3_endLottery_22 : decode cX3_endLottery 22 = .ok (.if_icmp .eq 8, 3) := by decide +kernel
theorem dX3_endLottery_25 : decode cX3_endLottery 25 = .ok (.iload_n 3, 1) := by decide +kernel
theorem dX3_endLottery_26 : decode cX3_endLottery 26 = .ok (.iconst 3, 1) := by decide +kernel
theorem dX3_endLottery_27 : decode cX3_endLottery 27 = .ok (.if_icmp .ne 13, 3) := by decide +kernel
theorem dX3_endLottery_30 : decode cX3_endLottery 30 = .ok (.aload_n 0, 1) := by decide +kernel
theorem dX3_endLottery_31 : decode cX3_endLottery 31 = .ok (.getfield 23, 3) := by decide +kernel
theorem dX3_endLottery_34 : decode cX3_endLottery 34 = .ok (.iload_n 2, 1) := by decide +kernel
theorem dX3_endLottery_35 : decode cX3_endLottery 35 = .ok (.iload_n 1, 1) := by decide +kernel
theorem dX3_endLottery_36 : decode cX3_endLottery 36 = .ok (.ineg, 1) := by decide +kernel
theorem dX3_endLottery_37 : decode cX3_endLottery 37 = .ok (.invokevirtual 71, 3) := by decide +kernel
theorem dX3_endLottery_40 : decode cX3_endLottery 40 = .ok (.iinc 2 1, 3) := by decide +kernel
theorem dX3_endLottery_43 : decode cX3_endLottery 43 = .ok (.goto (-41), 3) := by decide +kernel
theorem dX3_endLottery_46 : decode cX3_endLottery 46 = .ok (.return_, 1) := by decide +kernel
theorem dX3_copy_0 : decode cX3_copy 0 = .ok (.aload_n 0, 1) := by decide +kernel
theorem dX3_copy_1 : decode cX3_copy 1 = .ok (.aload_n 1, 1) := by decide +kernel
theorem dX3_copy_2 : decode cX3_copy 2 = .ok (.getfield 41, 3) := by decide +kernel
theorem dX3_copy_5 : decode cX3_copy 5 = .ok (.putfield 41, 3) := by decide +kernel
theorem dX3_copy_8 : decode cX3_copy 8 = .ok (.aload_n 0, 1) := by decide +kernel
theorem dX3_copy_9 : decode cX3_copy 9 = .ok (.aload_n 1, 1) := by decide +kernel
theorem dX3_copy_10 : decode cX3_copy 10 = .ok (.getfield 49, 3) := by decide +kernel
theorem dX3_copy_13 : decode cX3_copy 13 = .ok (.putfield 49, 3) := by decide +kernel
theorem dX3_copy_16 : decode cX3_copy 16 = .ok (.aload_n 0, 1) := by decide +kernel
theorem dX3_copy_17 : decode cX3_copy 17 = .ok (.getfield 14, 3) := by decide +kernel
theorem dX3_copy_20 : decode cX3_copy 20 = .ok (.aload_n 1, 1) := by decide +kernel
theorem dX3_copy_21 : decode cX3_copy 21 = .ok (.getfield 14, 3) := by decide +kernel
theorem dX3_copy_24 : decode cX3_copy 24 = .ok (.invokevirtual 74, 3) := by decide +kernel
theorem dX3_copy_27 : decode cX3_copy 27 = .ok (.aload_n 0, 1) := by decide +kernel
theorem dX3_copy_28 : decode cX3_copy 28 = .ok (.getfield 20, 3) := by decide +kernel
theorem dX3_copy_31 : decode cX3_copy 31 = .ok (.aload_n 1, 1) := by decide +kernel
theorem dX3_copy_32 : decode cX3_copy 32 = .ok (.getfield 20, 3) := by decide +kernel
theorem dX3_copy_35 : decode cX3_copy 35 = .ok (.invokevirtual 74, 3) := by decide +kernel
theorem dX3_copy_38 : decode cX3_copy 38 = .ok (.aload_n 0, 1) := by decide +kernel
theorem dX3_copy_39 : decode cX3_copy 39 = .ok (.getfield 23, 3) := by decide +kernel
theorem dX3_copy_42 : decode cX3_copy 42 = .ok (.aload_n 1, 1) := by decide +kernel
theorem dX3_copy_43 : decode cX3_copy 43 = .ok (.getfield 23, 3) := by decide +kernel
theorem dX3_copy_46 : decode cX3_copy 46 = .ok (.invokevirtual 74, 3) := by decide +kernel
theorem dX3_copy_49 : decode cX3_copy 49 = .ok (.aload_n 0, 1) := by decide +kernel
theorem dX3_copy_50 : decode cX3_copy 50 = .ok (.getfield 26, 3) := by decide +kernel
theorem dX3_copy_53 : decode cX3_copy 53 = .ok (.aload_n 1, 1) := by decide +kernel
theorem dX3_copy_54 : decode cX3_copy 54 = .ok (.getfield 26, 3) := by decide +kernel
theorem dX3_copy_57 : decode cX3_copy 57 = .ok (.invokevirtual 74, 3) := by decide +kernel
theorem dX3_copy_60 : decode cX3_copy 60 = .ok (.aload_n 0, 1) := by decide +kernel
theorem dX3_copy_61 : decode cX3_copy 61 = .ok (.getfield 29, 3) := by decide +kernel
theorem dX3_copy_64 : decode cX3_copy 64 = .ok (.aload_n 1, 1) := by decide +kernel
theorem dX3_copy_65 : decode cX3_copy 65 = .ok (.getfield 29, 3) := by decide +kernel
theorem dX3_copy_68 : decode cX3_copy 68 = .ok (.invokevirtual 74, 3) := by decide +kernel
theorem dX3_copy_71 : decode cX3_copy 71 = .ok (.aload_n 0, 1) := by decide +kernel
theorem dX3_copy_72 : decode cX3_copy 72 = .ok (.getfield 32, 3) := by decide +kernel
theorem dX3_copy_75 : decode cX3_copy 75 = .ok (.aload_n 1, 1) := by decide +kernel
theorem dX3_copy_76 : decode cX3_copy 76 = .ok (.getfield 32, 3) := by decide +kernel
theorem dX3_copy_79 : decode cX3_copy 79 = .ok (.invokevirtual 74, 3) := by decide +kernel
theorem dX3_copy_82 : decode cX3_copy 82 = .ok (.aload_n 0, 1) := by decide +kernel
theorem dX3_copy_83 : decode cX3_copy 83 = .ok (.getfield 35, 3) := by decide +kernel
theorem dX3_copy_86 : decode cX3_copy 86 = .ok (.aload_n 1, 1) := by decide +kernel
theorem dX3_copy_87 : decode cX3_copy 87 = .ok (.getfield 35, 3) := by decide +kernel
theorem dX3_copy_90 : decode cX3_copy 90 = .ok (.invokevirtual 74, 3) := by decide +kernel
theorem dX3_copy_93 : decode cX3_copy 93 = .ok (.aload_n 0, 1) := by decide +kernel
theorem dX3_copy_94 : decode cX3_copy 94 = .ok (.getfield 38, 3) := by decide +kernel
theorem dX3_copy_97 : decode cX3_copy 97 = .ok (.aload_n 1, 1) := by decide +kernel
theorem dX3_copy_98 : decode cX3_copy 98 = .ok (.getfield 38, 3) := by decide +kernel
theorem dX3_copy_101 : decode cX3_copy 101 = .ok (.invokevirtual 74, 3) := by decide +kernel
theorem dX3_copy_104 : decode cX3_copy 104 = .ok (.return_, 1) := by decide +kernel
theorem dX4_mixed_0 : decode cX4_mixed 0 = .ok (.iload_n 0, 1) := by decide +kernel
theorem dX4_mixed_1 : decode cX4_mixed 1 = .ok (.ldc 7, 2) := by decide +kernel
theorem dX4_mixed_3 : decode cX4_mixed 3 = .ok (.imul, 1) := by decide +kernel
theorem dX4_mixed_4 : decode cX4_mixed 4 = .ok (.sipush 12345, 3) := by decide +kernel
theorem dX4_mixed_7 : decode cX4_mixed 7 = .ok (.iadd, 1) := by decide +kernel
theorem dX4_mixed_8 : decode cX4_mixed 8 = .ok (.istore_n 1, 1) := by decide +kernel
theorem dX4_mixed_9 : decode cX4_mixed 9 = .ok (.iload_n 1, 1) := by decide +kernel
theorem dX4_mixed_10 : decode cX4_mixed 10 = .ok (.iload_n 1, 1) := by decide +kernel
theorem dX4_mixed_11 : decode cX4_mixed 11 = .ok (.bipush 15, 2) := by decide +kernel
theorem dX4_mixed_13 : decode cX4_mixed 13 = .ok (.iushr, 1) := by decide +kernel
theorem dX4_mixed_14 : decode cX4_mixed 14 = .ok (.ixor, 1) := by decide +kernel
theorem dX4_mixed_15 : decode cX4_mixed 15 = .ok (.ldc 7, 2) := by decide +kernel
theorem dX4_mixed_17 : decode cX4_mixed 17 = .ok (.imul, 1) := by decide +kernel
theorem dX4_mixed_18 : decode cX4_mixed 18 = .ok (.sipush 12345, 3) := by decide +kernel
theorem dX4_mixed_21 : decode cX4_mixed 21 = .ok (.iadd, 1) := by decide +kernel
theorem dX4_mixed_22 : decode cX4_mixed 22 = .ok (.ireturn, 1) := by decide +kernel
theorem dX4_lot_0 : decode cX4_lot 0 = .ok (.iload_n 1, 1) := by decide +kernel
theorem dX4_lot_1 : decode cX4_lot 1 = .ok (.ifCond .le 12, 3) := by decide +kernel
theorem dX4_lot_4 : decode cX4_lot 4 = .ok (.iload_n 0, 1) := by decide +kernel
theorem dX4_lot_5 : decode cX4_lot 5 = .ok (.bipush 16, 2) := by decide +kernel
theorem dX4_lot_7 : decode cX4_lot 7 = .ok (.iushr, 1) := by decide +kernel
theorem dX4_lot_8 : decode cX4_lot 8 = .ok (.iload_n 1, 1) := by decide +kernel
theorem dX4_lot_9 : decode cX4_lot 9 = .ok (.irem, 1) := by decide +kernel
theorem dX4_lot_10 : decode cX4_lot 10 = .ok (.goto 4, 3) := by decide +kernel
theorem dX4_lot_13 : decode cX4_lot 13 = .ok (.iconst 0, 1) := by decide +kernel
theorem dX4_lot_14 : decode cX4_lot 14 = .ok (.ireturn, 1) := by decide +kernel
theorem dX4_has_0 : decode cX4_has 0 = .ok (.iload_n 0, 1) := by decide +kernel
theorem dX4_has_1 : decode cX4_has 1 = .ok (.iload_n 1, 1) := by decide +kernel
theorem dX4_has_2 : decode cX4_has 2 = .ok (.ishr, 1) := by decide +kernel
theorem dX4_has_3 : decode cX4_has 3 = .ok (.iconst 1, 1) := by decide +kernel
theorem dX4_has_4 : decode cX4_has 4 = .ok (.iand, 1) := by decide +kernel
theorem dX4_has_5 : decode cX4_has 5 = .ok (.iconst 1, 1) := by decide +kernel
theorem dX4_has_6 : decode cX4_has 6 = .ok (.if_icmp .ne 7, 3) := by decide +kernel
theorem dX4_has_9 : decode cX4_has 9 = .ok (.iconst 1, 1) := by decide +kernel
theorem dX4_has_10 : decode cX4_has 10 = .ok (.goto 4, 3) := by decide +kernel
theorem dX4_has_13 : decode cX4_has 13 = .ok (.iconst 0, 1) := by decide +kernel
theorem dX4_has_14 : decode cX4_has 14 = .ok (.ireturn, 1) := by decide +kernel
theorem dX5_init_0 : decode cX5_init 0 = .ok (.aload_n 0, 1) := by decide +kernel
theorem dX5_init_1 : decode cX5_init 1 = .ok (.invokespecial 3, 3) := by decide +kernel
theorem dX5_init_4 : decode cX5_init 4 = .ok (.aload_n 0, 1) := by decide +kernel
theorem dX5_init_5 : decode cX5_init 5 = .ok (.new 9, 3) := by decide +kernel
theorem dX5_init_8 : decode cX5_init 8 = .ok (.dup, 1) := by decide +kernel
theorem dX5_init_9 : decode cX5_init 9 = .ok (.bipush 10, 2) := by decide +kernel
theorem dX5_init_11 : decode cX5_init 11 = .ok (.invokespecial 11, 3) := by decide +kernel
theorem dX5_init_14 : decode cX5_init 14 = .ok (.putfield 14, 3) := by decide +kernel
theorem dX5_init_17 : decode cX5_init 17 = .ok (.aload_n 0, 1) := by decide +kernel
theorem dX5_init_18 : decode cX5_init 18 = .ok (.new 9, 3) := by decide +kernel
theorem dX5_init_21 : decode cX5_init 21 = .ok (.dup, 1) := by decide +kernel
theorem dX5_init_22 : decode cX5_init 22 = .ok (.bipush 10, 2) := by decide +kernel
theorem dX5_init_24 : decode cX5_init 24 = .ok (.invokespecial 11, 3) := by decide +kernel
theorem dX5_init_27 : decode cX5_init 27 = .ok (.putfield 20, 3) := by decide +kernel
theorem dX5_init_30 : decode cX5_init 30 = .ok (.return_, 1) := by decide +kernel
theorem dX5_reckon_0 : decode cX5_reckon 0 = .ok (.aload_n 0, 1) := by decide +kernel
theorem dX5_reckon_1 : decode cX5_reckon 1 = .ok (.iload_n 2, 1) := by decide +kernel
theorem dX5_reckon_2 : decode cX5_reckon 2 = .ok (.putfield 23, 3) := by decide +kernel
theorem dX5_reckon_5 : decode cX5_reckon 5 = .ok (.aload_n 0, 1) := by decide +kernel
theorem dX5_reckon_6 : decode cX5_reckon 6 = .ok (.aload_n 1, 1) := by decide +kernel
theorem dX5_reckon_7 : decode cX5_reckon 7 = .ok (.getfield 27, 3) := by decide +kernel
theorem dX5_reckon_10 : decode cX5_reckon 10 = .ok (.getfield 33, 3) := by decide +kernel
theorem dX5_reckon_13 : decode cX5_reckon 13 = .ok (.aload_n 1, 1) := by decide +kernel
theorem dX5_reckon_14 : decode cX5_reckon 14 = .ok (.getfield 38, 3) := by decide +kernel
theorem dX5_reckon_17 : decode cX5_reckon 17 = .ok (.aload_n 0, 1) := by decide +kernel
theorem dX5_reckon_18 : decode cX5_reckon 18 = .ok (.getfield 23, 3) := by decide +kernel
theorem dX5_reckon_21 : decode cX5_reckon 21 = .ok (.invokevirtual 41, 3) := by decide +kernel
theorem dX5_reckon_24 : decode cX5_reckon 24 = .ok (.iand, 1) := by decide +kernel
theorem dX5_reckon_25 : decode cX5_reckon 25 = .ok (.putfield 45, 3) := by decide +kernel
theorem dX5_reckon_28 : decode cX5_reckon 28 = .ok (.aload_n 0, 1) := by decide +kernel
theorem dX5_reckon_29 : decode cX5_reckon 29 = .ok (.aload_n 0, 1) := by decide +kernel
theorem dX5_reckon_30 : decode cX5_reckon 30 = .ok (.aload_n 1, 1) := by decide +kernel
theorem dX5_reckon_31 : decode cX5_reckon 31 = .ok (.invokevirtual 48, 3) := by decide +kernel
theorem dX5_reckon_34 : decode cX5_reckon 34 = .ok (.putfield 52, 3) := by decide +kernel
theorem dX5_reckon_37 : decode cX5_reckon 37 = .ok (.aload_n 0, 1) := by decide +kernel
theorem dX5_reckon_38 : decode cX5_reckon 38 = .ok (.getfield 52, 3) := by decide +kernel
theorem dX5_reckon_41 : decode cX5_reckon 41 = .ok (.ifCond .ne 39, 3) := by decide +kernel
theorem dX5_reckon_44 : decode cX5_reckon 44 = .ok (.aload_n 0, 1) := by decide +kernel
theorem dX5_reckon_45 : decode cX5_reckon 45 = .ok (.aload_n 1, 1) := by decide +kernel
theorem dX5_reckon_46 : decode cX5_reckon 46 = .ok (.getfield 55, 3) := by decide +kernel
theorem dX5_reckon_49 : decode cX5_reckon 49 = .ok (.getfield 59, 3) := by decide +kernel
theorem dX5_reckon_52 : decode cX5_reckon 52 = .ok (.iload_n 3, 1) := by decide +kernel
theorem dX5_reckon_53 : decode cX5_reckon 53 = .ok (.invokevirtual 64, 3) := by decide +kernel
theorem dX5_reckon_56 : decode cX5_reckon 56 = .ok (.aload_n 0, 1) := by decide +kernel
theorem dX5_reckon_57 : decode cX5_reckon 57 = .ok (.aload_n 1, 1) := by decide +kernel
theorem dX5_reckon_58 : decode cX5_reckon 58 = .ok (.getfield 27, 3) := by decide +kernel
theorem dX5_reckon_61 : decode cX5_reckon 61 = .ok (.invokevirtual 68, 3) := by decide +kernel
theorem dX5_reckon_64 : decode cX5_reckon 64 = .ok (.aload_n 0, 1) := by decide +kernel
theorem dX5_reckon_65 : decode cX5_reckon 65 = .ok (.aload_n 1, 1) := by decide +kernel
theorem dX5_reckon_66 : decode cX5_reckon 66 = .ok (.getfield 27, 3) := by decide +kernel
theorem dX5_reckon_69 : decode cX5_reckon 69 = .ok (.aload_n 1, 1) := by decide +kernel
theorem dX5_reckon_70 : decode cX5_reckon 70 = .ok (.getfield 72, 3) := by decide +kernel
theorem dX5_reckon_73 : decode cX5_reckon 73 = .ok (.iconst 1, 1) := by decide +kernel
theorem dX5_reckon_74 : decode cX5_reckon 74 = .ok (.invokevirtual 41, 3) := by decide +kernel
theorem dX5_reckon_77 : decode cX5_reckon 77 = .ok (.invokevirtual 75, 3) := by decide +kernel
theorem dX5_reckon_80 : decode cX5_reckon 80 = .ok (.return_, 1) := by decide +kernel
theorem dX5_hindranceIn_0 : decode cX5_hindranceIn 0 = .ok (.aload_n 1, 1) := by decide +kernel
theorem dX5_hindranceIn_1 : decode cX5_hindranceIn 1 = .ok (.getfield 55, 3) := by decide +kernel
theorem dX5_hindranceIn_4 : decode cX5_hindranceIn 4 = .ok (.getfield 79, 3) := by decide +kernel
theorem dX5_hindranceIn_7 : decode cX5_hindranceIn 7 = .ok (.ifCond .ne 5, 3) := by decide +kernel
theorem dX5_hindranceIn_10 : decode cX5_hindranceIn 10 = .ok (.iconst 1, 1) := by decide +kernel
theorem dX5_hindranceIn_11 : decode cX5_hindranceIn 11 = .ok (.ireturn, 1) := by decide +kernel
theorem dX5_hindranceIn_12 : decode cX5_hindranceIn 12 = .ok (.aload_n 0, 1) := by decide +kernel
theorem dX5_hindranceIn_13 : decode cX5_hindranceIn 13 = .ok (.getfield 45, 3) := by decide +kernel
theorem dX5_hindranceIn_16 : decode cX5_hindranceIn 16 = .ok (.ifCond .ne 5, 3) := by decide +kernel
theorem dX5_hindranceIn_19 : decode cX5_hindranceIn 19 = .ok (.iconst 2, 1) := by decide +kernel
theorem dX5_hindranceIn_20 : decode cX5_hindranceIn 20 = .ok (.ireturn, 1) := by decide +kernel
theorem dX5_hindranceIn_21 : decode cX5_hindranceIn 21 = .ok (.aload_n 0, 1) := by decide +kernel
theorem dX5_hindranceIn_22 : decode cX5_hindranceIn 22 = .ok (.aload_n 1, 1) := by decide +kernel
theorem dX5_hindranceIn_23 : decode cX5_hindranceIn 23 = .ok (.invokevirtual 82, 3) := by decide +kernel
theorem dX5_hindranceIn_26 : decode cX5_hindranceIn 26 = .ok (.aload_n 0, 1) := by decide +kernel
theorem dX5_hindranceIn_27 : decode cX5_hindranceIn 27 = .ok (.getfield 86, 3) := by decide +kernel
theorem dX5_hindranceIn_30 : decode cX5_hindranceIn 30 = .ok (.ldc 89, 2) := by decide +kernel
theorem dX5_hindranceIn_32 : decode cX5_hindranceIn 32 = .ok (.if_icmp .ne 7, 3) := by decide +kernel
theorem dX5_hindranceIn_35 : decode cX5_hindranceIn 35 = .ok (.iconst 3, 1) := by decide +kernel
theorem dX5_hindranceIn_36 : decode cX5_hindranceIn 36 = .ok (.goto 4, 3) := by decide +kernel
theorem dX5_hindranceIn_39 : decode cX5_hindranceIn 39 = .ok (.iconst 0, 1) := by decide +kernel
theorem dX5_hindranceIn_40 : decode cX5_hindranceIn 40 = .ok (.ireturn, 1) := by decide +kernel
theorem dX5_findRepairer_0 : decode cX5_findRepairer 0 = .ok (.aload_n 0, 1) := by decide +kernel
theorem dX5_findRepairer_1 : decode cX5_findRepairer 1 = .ok (.iconst 0, 1) := by decide +kernel
theorem dX5_findRepairer_2 : decode cX5_findRepairer 2 = .ok (.putfield 90, 3) := by decide +kernel
theorem dX5_findRepairer_5 : decode cX5_findRepairer 5 = .ok (.iconst 0, 1) := by decide +kernel
theorem dX5_findRepairer_6 : decode cX5_findRepairer 6 = .ok (.istore_n 2, 1) := by decide +kernel
theorem dX5_findRepairer_7 : decode cX5_findRepairer 7 = .ok (.iload_n 2, 1) := by decide +kernel
theorem dX5_findRepairer_8 : decode cX5_findRepairer 8 = .ok (.aload_n 1, 1) := by decide +kernel
theorem dX5_findRepairer_9 : decode cX5_findRepairer 9 = .ok (.getfield 55, 3) := by decide +kernel
theorem dX5_findRepairer_12 : decode cX5_findRepairer 12 = .ok (.getfield 93, 3) := by decide +kernel
theorem dX5_findRepairer_15 : decode cX5_findRepairer 15 = .ok (.if_icmp .ge 72, 3) := by decide +kernel
theorem dX5_findRepairer_18 : decode cX5_findRepairer 18 = .ok (.aload_n 1, 1) := by decide +kernel
theorem dX5_findRepairer_19 : decode cX5_findRepairer 19 = .ok (.getfield 55, 3) := by decide +kernel
theorem dX5_findRepairer_22 : decode cX5_findRepairer 22 = .ok (.iload_n 2, 1) := by decide +kernel
theorem dX5_findRepairer_23 : decode cX5_findRepairer 23 = .ok (.invokevirtual 96, 3) := by decide +kernel
theorem dX5_findRepairer_26 : decode cX5_findRepairer 26 = .ok (.istore_n 3, 1) := by decide +kernel
theorem dX5_findRepairer_27 : decode cX5_findRepairer 27 = .ok (.aload_n 1, 1) := by decide +kernel
theorem dX5_findRepairer_28 : decode cX5_findRepairer 28 = .ok (.getfield 27, 3) := by decide +kernel
theorem dX5_findRepairer_31 : decode cX5_findRepairer 31 = .ok (.iload_n 3, 1) := by decide +kernel
theorem dX5_findRepairer_32 : decode cX5_findRepairer 32 = .ok (.invokevirtual 99, 3) := by decide +kernel
theorem dX5_findRepairer_35 : decode cX5_findRepairer 35 = .ok (.istore 4, 2) := by decide +kernel
theorem dX5_findRepairer_37 : decode cX5_findRepairer 37 = .ok (.iload 4, 2) := by decide +kernel
theorem dX5_findRepairer_39 : decode cX5_findRepairer 39 = .ok (.ifCond .eq 25, 3) := by decide +kernel
theorem dX5_findRepairer_42 : decode cX5_findRepairer 42 = .ok (.aload_n 0, 1) := by decide +kernel
theorem dX5_findRepairer_43 : decode cX5_findRepairer 43 = .ok (.getfield 45, 3) := by decide +kernel
theorem dX5_findRepairer_46 : decode cX5_findRepairer 46 = .ok (.iload_n 3, 1) := by decide +kernel
theorem dX5_findRepairer_47 : decode cX5_findRepairer 47 = .ok (.invokestatic 103, 3) := by decide +kernel
theorem dX5_findRepairer_50 : decode cX5_findRepairer 50 = .ok (.ifCond .ne 14, 3) := by decide +kernel
theorem dX5_findRepairer_53 : decode cX5_findRepairer 53 = .ok (.aload_n 0, 1) := by decide +kernel
theorem dX5_findRepairer_54 : decode cX5_findRepairer 54 = .ok (.iload_n 3, 1) := by decide +kernel
theorem dX5_findRepairer_55 : decode cX5_findRepairer 55 = .ok (.putfield 86, 3) := by decide +kernel
theorem dX5_findRepairer_58 : decode cX5_findRepairer 58 = .ok (.aload_n 0, 1) := by decide +kernel
theorem dX5_findRepairer_59 : decode cX5_findRepairer 59 = .ok (.iload_n 2, 1) := by decide +kernel
theorem dX5_findRepairer_60 : decode cX5_findRepairer 60 = .ok (.putfield 109, 3) := by decide +kernel
theorem dX5_findRepairer_63 : decode cX5_findRepairer 63 = .ok (.return_, 1) := by decide +kernel
theorem dX5_findRepairer_64 : decode cX5_findRepairer 64 = .ok (.iload 4, 2) := by decide +kernel
theorem dX5_findRepairer_66 : decode cX5_findRepairer 66 = .ok (.ifCond .ne 15, 3) := by decide +kernel
theorem dX5_findRepairer_69 : decode cX5_findRepairer 69 = .ok (.aload_n 0, 1) := by decide +kernel
theorem dX5_findRepairer_70 : decode cX5_findRepairer 70 = .ok (.dup, 1) := by decide +kernel
theorem dX5_findRepairer_71 : decode cX5_findRepairer 71 = .ok (.getfield 90, 3) := by decide +kernel
theorem dX5_findRepairer_74 : decode cX5_findRepairer 74 = .ok (.iconst 1, 1) := by decide +kernel
theorem dX5_findRepairer_75 : decode cX5_findRepairer 75 = .ok (.iload_n 3, 1) := by decide +kernel
theorem dX5_findRepairer_76 : decode cX5_findRepairer 76 = .ok (.ishl, 1) := by decide +kernel
theorem dX5_findRepairer_77 : decode cX5_findRepairer 77 = .ok (.ior, 1) := by decide +kernel
theorem dX5_findRepairer_78 : decode cX5_findRepairer 78 = .ok (.putfield 90, 3) := by decide +kernel
theorem dX5_findRepairer_81 : decode cX5_findRepairer 81 = .ok (.iinc 2 1, 3) := by decide +kernel
theorem dX5_findRepairer_84 : decode cX5_findRepairer 84 = .ok (.goto (-77), 3) := by decide +kernel
theorem dX5_findRepairer_87 : decode cX5_findRepairer 87 = .ok (.aload_n 0, 1) := by decide +kernel
theorem dX5_findRepairer_88 : decode cX5_findRepairer 88 = .ok (.ldc 89, 2) := by decide +kernel
theorem dX5_findRepairer_90 : decode cX5_findRepairer 90 = .ok (.putfield 86, 3) := by decide +kernel
theorem dX5_findRepairer_93 : decode cX5_findRepairer 93 = .ok (.return_, 1) := by decide +kernel
theorem dX5_drawWaits_0 : decode cX5_drawWaits 0 = .ok (.aload_n 0, 1) := by decide +kernel
theorem dX5_drawWaits_1 : decode cX5_drawWaits 1 = .ok (.ldc 89, 2) := by decide +kernel
theorem dX5_drawWaits_3 : decode cX5_drawWaits 3 = .ok (.putfield 112, 3) := by decide +kernel
theorem dX5_drawWaits_6 : decode cX5_drawWaits 6 = .ok (.iconst 0, 1) := by decide +kernel
theorem dX5_drawWaits_7 : decode cX5_drawWaits 7 = .ok (.istore_n 3, 1) := by decide +kernel
theorem dX5_drawWaits_8 : decode cX5_drawWaits 8 = .ok (.iload_n 3, 1) := by decide +kernel
theorem dX5_drawWaits_9 : decode cX5_drawWaits 9 = .ok (.bipush 10, 2) := by decide +kernel
theorem dX5_drawWaits_11 : decode cX5_drawWaits 11 = .ok (.if_icmp .ge 90, 3) := by decide +kernel
theorem dX5_drawWaits_14 : decode cX5_drawWaits 14 = .ok (.aload_n 0, 1) := by decide +kernel
theorem dX5_drawWaits_15 : decode cX5_drawWaits 15 = .ok (.getfield 45, 3) := by decide +kernel
theorem dX5_drawWaits_18 : decode cX5_drawWaits 18 = .ok (.iload_n 3, 1) := by decide +kernel
theorem dX5_drawWaits_19 : decode cX5_drawWaits 19 = .ok (.invokestatic 103, 3) := by decide +kernel
theorem dX5_drawWaits_22 : decode cX5_drawWaits 22 = .ok (.ifCond .eq 73, 3) := by decide +kernel
theorem dX5_drawWaits_25 : decode cX5_drawWaits 25 = .ok (.iload_n 1, 1) := by decide +kernel
theorem dX5_drawWaits_26 : decode cX5_drawWaits 26 = .ok (.sipush 1000, 3) := by decide +kernel
theorem dX5_drawWaits_29 : decode cX5_drawWaits 29 = .ok (.aload_n 0, 1) := by decide +kernel
theorem dX5_drawWaits_30 : decode cX5_drawWaits 30 = .ok (.getfield 23, 3) := by decide +kernel
theorem dX5_drawWaits_33 : decode cX5_drawWaits 33 = .ok (.imul, 1) := by decide +kernel
theorem dX5_drawWaits_34 : decode cX5_drawWaits 34 = .ok (.iload_n 3, 1) := by decide +kernel
theorem dX5_drawWaits_35 : decode cX5_drawWaits 35 = .ok (.iadd, 1) := by decide +kernel
theorem dX5_drawWaits_36 : decode cX5_drawWaits 36 = .ok (.ixor, 1) := by decide +kernel
theorem dX5_drawWaits_37 : decode cX5_drawWaits 37 = .ok (.invokestatic 115, 3) := by decide +kernel
theorem dX5_drawWaits_40 : decode cX5_drawWaits 40 = .ok (.istore 4, 2) := by decide +kernel
theorem dX5_drawWaits_42 : decode cX5_drawWaits 42 = .ok (.aload_n 0, 1) := by decide +kernel
theorem dX5_drawWaits_43 : decode cX5_drawWaits 43 = .ok (.getfield 14, 3) := by decide +kernel
theorem dX5_drawWaits_46 : decode cX5_drawWaits 46 = .ok (.iload_n 3, 1) := by decide +kernel
theorem dX5_drawWaits_47 : decode cX5_drawWaits 47 = .ok (.iload 4, 2) := by decide +kernel
theorem dX5_drawWaits_49 : decode cX5_drawWaits 49 = .ok (.invokestatic 115, 3) := by decide +kernel
theorem dX5_drawWaits_52 : decode cX5_drawWaits 52 = .ok (.iload_n 2, 1) := by decide +kernel
theorem dX5_drawWaits_53 : decode cX5_drawWaits 53 = .ok (.invokestatic 118, 3) := by decide +kernel
theorem dX5_drawWaits_56 : decode cX5_drawWaits 56 = .ok (.invokevirtual 122, 3) := by decide +kernel
theorem dX5_drawWaits_59 : decode cX5_drawWaits 59 = .ok (.aload_n 0, 1) := by decide +kernel
theorem dX5_drawWaits_60 : decode cX5_drawWaits 60 = .ok (.getfield 112, 3) := by decide +kernel
theorem dX5_drawWaits_63 : decode cX5_drawWaits 63 = .ok (.ldc 89, 2) := by decide +kernel
theorem dX5_drawWaits_65 : decode cX5_drawWaits 65 = .ok (.if_icmp .eq 25, 3) := by decide +kernel
theorem dX5_drawWaits_68 : decode cX5_drawWaits 68 = .ok (.aload_n 0, 1) := by decide +kernel
theorem dX5_drawWaits_69 : decode cX5_drawWaits 69 = .ok (.getfield 14, 3) := by decide +kernel
theorem dX5_drawWaits_72 : decode cX5_drawWaits 72 = .ok (.iload_n 3, 1) := by decide +kernel
theorem dX5_drawWaits_73 : decode cX5_drawWaits 73 = .ok (.invokevirtual 41, 3) := by decide +kernel
theorem dX5_drawWaits_76 : decode cX5_drawWaits 76 = .ok (.aload_n 0, 1) := by decide +kernel
theorem dX5_drawWaits_77 : decode cX5_drawWaits 77 = .ok (.getfield 14, 3) := by decide +kernel
theorem dX5_drawWaits_80 : decode cX5_drawWaits 80 = .ok (.aload_n 0, 1) := by decide +kernel
theorem dX5_drawWaits_81 : decode cX5_drawWaits 81 = .ok (.getfield 112, 3) := by decide +kernel
theorem dX5_drawWaits_84 : decode cX5_drawWaits 84 = .ok (.invokevirtual 41, 3) := by decide +kernel
theorem dX5_drawWaits_87 : decode cX5_drawWaits 87 = .ok (.if_icmp .ge 8, 3) := by decide +kernel
theorem dX5_drawWaits_90 : decode cX5_drawWaits 90 = .ok (.aload_n 0, 1) := by decide +kernel
theorem dX5_drawWaits_91 : decode cX5_drawWaits 91 = .ok (.iload_n 3, 1) := by decide +kernel
theorem dX5_drawWaits_92 : decode cX5_drawWaits 92 = .ok (.putfield 112, 3) := by decide +kernel
theorem dX5_drawWaits_95 : decode cX5_drawWaits 95 = .ok (.iinc 3 1, 3) := by decide +kernel
