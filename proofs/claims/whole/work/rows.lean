section
-- ===== PART A: goes FIRST, ahead of the names: the tables' words, and 'selects' of the private methods out of them =====
/-- a private method of a class that the tables say can be made, by its rows of tables_1 -/
def lw_okq (q : MethodName × Nat) : Prop := (q.1.cls ≠ "java/lang/invoke/MethodHandle" ∧ q.1.cls ≠ "java/lang/invoke/VarHandle") ∧ Cond.instantiable q.1.cls q.2 ∈ tables_1 ∧ Cond.privateMethod q.1 ∈ tables_1 ∧ Cond.instanceMethod q.1 ∈ tables_1
theorem lw_p0 : lw_okq (⟨"RepairDuty", "isMember", "(I)Z"⟩, 5) := ⟨⟨by decide +kernel, by decide +kernel⟩, List.mem_of_getElem? (i := 16) (by decide +kernel), List.mem_of_getElem? (i := 352) (by decide +kernel), List.mem_of_getElem? (i := 353) (by decide +kernel)⟩
theorem lw_p1 : lw_okq (⟨"RepairDuty", "areEnough", "(I)Z"⟩, 5) := ⟨⟨by decide +kernel, by decide +kernel⟩, List.mem_of_getElem? (i := 16) (by decide +kernel), List.mem_of_getElem? (i := 435) (by decide +kernel), List.mem_of_getElem? (i := 436) (by decide +kernel)⟩
theorem lw_p2 : lw_okq (⟨"RepairDuty", "sumOfTimes", "(I)I"⟩, 5) := ⟨⟨by decide +kernel, by decide +kernel⟩, List.mem_of_getElem? (i := 16) (by decide +kernel), List.mem_of_getElem? (i := 652) (by decide +kernel), List.mem_of_getElem? (i := 653) (by decide +kernel)⟩
theorem lw_p3 : lw_okq (⟨"RepairDutyModel", "act", "()V"⟩, 21) := ⟨⟨by decide +kernel, by decide +kernel⟩, List.mem_of_getElem? (i := 676) (by decide +kernel), List.mem_of_getElem? (i := 755) (by decide +kernel), List.mem_of_getElem? (i := 756) (by decide +kernel)⟩
theorem lw_p4 : lw_okq (⟨"RepairDutyModel", "isMember", "(I)Z"⟩, 21) := ⟨⟨by decide +kernel, by decide +kernel⟩, List.mem_of_getElem? (i := 676) (by decide +kernel), List.mem_of_getElem? (i := 767) (by decide +kernel), List.mem_of_getElem? (i := 768) (by decide +kernel)⟩
theorem lw_p5 : lw_okq (⟨"RepairDutyModel", "sets", "(II)I"⟩, 21) := ⟨⟨by decide +kernel, by decide +kernel⟩, List.mem_of_getElem? (i := 676) (by decide +kernel), List.mem_of_getElem? (i := 771) (by decide +kernel), List.mem_of_getElem? (i := 772) (by decide +kernel)⟩
theorem lw_p6 : lw_okq (⟨"RepairDutyModel", "told", "(II)I"⟩, 21) := ⟨⟨by decide +kernel, by decide +kernel⟩, List.mem_of_getElem? (i := 676) (by decide +kernel), List.mem_of_getElem? (i := 783) (by decide +kernel), List.mem_of_getElem? (i := 784) (by decide +kernel)⟩
theorem lw_p7 : lw_okq (⟨"RepairDutyModel", "has", "(II)Z"⟩, 21) := ⟨⟨by decide +kernel, by decide +kernel⟩, List.mem_of_getElem? (i := 676) (by decide +kernel), List.mem_of_getElem? (i := 787) (by decide +kernel), List.mem_of_getElem? (i := 788) (by decide +kernel)⟩
theorem lw_p8 : lw_okq (⟨"RepairDutyModel", "lives", "(I)Z"⟩, 21) := ⟨⟨by decide +kernel, by decide +kernel⟩, List.mem_of_getElem? (i := 676) (by decide +kernel), List.mem_of_getElem? (i := 811) (by decide +kernel), List.mem_of_getElem? (i := 812) (by decide +kernel)⟩
theorem lw_p9 : lw_okq (⟨"RepairDutyModel", "seeds", "(I)I"⟩, 21) := ⟨⟨by decide +kernel, by decide +kernel⟩, List.mem_of_getElem? (i := 676) (by decide +kernel), List.mem_of_getElem? (i := 824) (by decide +kernel), List.mem_of_getElem? (i := 825) (by decide +kernel)⟩
theorem lw_p10 : lw_okq (⟨"RepairDutyModel", "lists", "(I)V"⟩, 21) := ⟨⟨by decide +kernel, by decide +kernel⟩, List.mem_of_getElem? (i := 676) (by decide +kernel), List.mem_of_getElem? (i := 828) (by decide +kernel), List.mem_of_getElem? (i := 829) (by decide +kernel)⟩
theorem lw_p11 : lw_okq (⟨"RepairDutyModel", "lot", "(I)I"⟩, 21) := ⟨⟨by decide +kernel, by decide +kernel⟩, List.mem_of_getElem? (i := 676) (by decide +kernel), List.mem_of_getElem? (i := 832) (by decide +kernel), List.mem_of_getElem? (i := 833) (by decide +kernel)⟩
theorem lw_p12 : lw_okq (⟨"RepairDutyModel", "wrongAt", "()I"⟩, 21) := ⟨⟨by decide +kernel, by decide +kernel⟩, List.mem_of_getElem? (i := 676) (by decide +kernel), List.mem_of_getElem? (i := 868) (by decide +kernel), List.mem_of_getElem? (i := 869) (by decide +kernel)⟩
theorem lw_p13 : lw_okq (⟨"RepairDutyModel", "readsGroup", "()Z"⟩, 21) := ⟨⟨by decide +kernel, by decide +kernel⟩, List.mem_of_getElem? (i := 676) (by decide +kernel), List.mem_of_getElem? (i := 872) (by decide +kernel), List.mem_of_getElem? (i := 873) (by decide +kernel)⟩
theorem lw_p14 : lw_okq (⟨"RepairDutyModel", "sign", "()I"⟩, 21) := ⟨⟨by decide +kernel, by decide +kernel⟩, List.mem_of_getElem? (i := 676) (by decide +kernel), List.mem_of_getElem? (i := 876) (by decide +kernel), List.mem_of_getElem? (i := 877) (by decide +kernel)⟩
theorem lw_p15 : lw_okq (⟨"RepairDutyModel", "works", "(II)I"⟩, 21) := ⟨⟨by decide +kernel, by decide +kernel⟩, List.mem_of_getElem? (i := 676) (by decide +kernel), List.mem_of_getElem? (i := 888) (by decide +kernel), List.mem_of_getElem? (i := 889) (by decide +kernel)⟩
def lw_privs_1 : List (MethodName × Nat) := [(⟨"RepairDuty", "isMember", "(I)Z"⟩, 5), (⟨"RepairDuty", "areEnough", "(I)Z"⟩, 5), (⟨"RepairDuty", "sumOfTimes", "(I)I"⟩, 5), (⟨"RepairDutyModel", "act", "()V"⟩, 21), (⟨"RepairDutyModel", "isMember", "(I)Z"⟩, 21), (⟨"RepairDutyModel", "sets", "(II)I"⟩, 21), (⟨"RepairDutyModel", "told", "(II)I"⟩, 21), (⟨"RepairDutyModel", "has", "(II)Z"⟩, 21), (⟨"RepairDutyModel", "lives", "(I)Z"⟩, 21), (⟨"RepairDutyModel", "seeds", "(I)I"⟩, 21), (⟨"RepairDutyModel", "lists", "(I)V"⟩, 21), (⟨"RepairDutyModel", "lot", "(I)I"⟩, 21), (⟨"RepairDutyModel", "wrongAt", "()I"⟩, 21), (⟨"RepairDutyModel", "readsGroup", "()Z"⟩, 21), (⟨"RepairDutyModel", "sign", "()I"⟩, 21), (⟨"RepairDutyModel", "works", "(II)I"⟩, 21)]
theorem lw_r1 : ∀ q ∈ lw_privs_1, lw_okq q := List.forall_mem_cons.mpr ⟨lw_p0, List.forall_mem_cons.mpr ⟨lw_p1, List.forall_mem_cons.mpr ⟨lw_p2, List.forall_mem_cons.mpr ⟨lw_p3, List.forall_mem_cons.mpr ⟨lw_p4, List.forall_mem_cons.mpr ⟨lw_p5, List.forall_mem_cons.mpr ⟨lw_p6, List.forall_mem_cons.mpr ⟨lw_p7, List.forall_mem_cons.mpr ⟨lw_p8, List.forall_mem_cons.mpr ⟨lw_p9, List.forall_mem_cons.mpr ⟨lw_p10, List.forall_mem_cons.mpr ⟨lw_p11, List.forall_mem_cons.mpr ⟨lw_p12, List.forall_mem_cons.mpr ⟨lw_p13, List.forall_mem_cons.mpr ⟨lw_p14, List.forall_mem_cons.mpr ⟨lw_p15, fun _ h => absurd h List.not_mem_nil⟩⟩⟩⟩⟩⟩⟩⟩⟩⟩⟩⟩⟩⟩⟩⟩
theorem lw_p16 : lw_okq (⟨"RepairDutyModel", "asks", "(II)V"⟩, 21) := ⟨⟨by decide +kernel, by decide +kernel⟩, List.mem_of_getElem? (i := 676) (by decide +kernel), List.mem_of_getElem? (i := 892) (by decide +kernel), List.mem_of_getElem? (i := 893) (by decide +kernel)⟩
theorem lw_p17 : lw_okq (⟨"RepairDutyModel", "isIn", "(II)Z"⟩, 21) := ⟨⟨by decide +kernel, by decide +kernel⟩, List.mem_of_getElem? (i := 676) (by decide +kernel), List.mem_of_getElem? (i := 896) (by decide +kernel), List.mem_of_getElem? (i := 897) (by decide +kernel)⟩
theorem lw_p18 : lw_okq (⟨"RepairDutyModel", "distance", "(II)I"⟩, 21) := ⟨⟨by decide +kernel, by decide +kernel⟩, List.mem_of_getElem? (i := 676) (by decide +kernel), List.mem_of_getElem? (i := 900) (by decide +kernel), List.mem_of_getElem? (i := 901) (by decide +kernel)⟩
theorem lw_p19 : lw_okq (⟨"RepairDutyModel", "makes", "(I)V"⟩, 21) := ⟨⟨by decide +kernel, by decide +kernel⟩, List.mem_of_getElem? (i := 676) (by decide +kernel), List.mem_of_getElem? (i := 904) (by decide +kernel), List.mem_of_getElem? (i := 905) (by decide +kernel)⟩
theorem lw_p20 : lw_okq (⟨"RepairDutyModel", "roleOf", "(I)I"⟩, 21) := ⟨⟨by decide +kernel, by decide +kernel⟩, List.mem_of_getElem? (i := 676) (by decide +kernel), List.mem_of_getElem? (i := 919) (by decide +kernel), List.mem_of_getElem? (i := 920) (by decide +kernel)⟩
theorem lw_p21 : lw_okq (⟨"RepairDutyModel", "pastOf", "(II)I"⟩, 21) := ⟨⟨by decide +kernel, by decide +kernel⟩, List.mem_of_getElem? (i := 676) (by decide +kernel), List.mem_of_getElem? (i := 927) (by decide +kernel), List.mem_of_getElem? (i := 928) (by decide +kernel)⟩
def lw_privs_2 : List (MethodName × Nat) := [(⟨"RepairDutyModel", "asks", "(II)V"⟩, 21), (⟨"RepairDutyModel", "isIn", "(II)Z"⟩, 21), (⟨"RepairDutyModel", "distance", "(II)I"⟩, 21), (⟨"RepairDutyModel", "makes", "(I)V"⟩, 21), (⟨"RepairDutyModel", "roleOf", "(I)I"⟩, 21), (⟨"RepairDutyModel", "pastOf", "(II)I"⟩, 21)]
theorem lw_r2 : ∀ q ∈ lw_privs_2, lw_okq q := List.forall_mem_cons.mpr ⟨lw_p16, List.forall_mem_cons.mpr ⟨lw_p17, List.forall_mem_cons.mpr ⟨lw_p18, List.forall_mem_cons.mpr ⟨lw_p19, List.forall_mem_cons.mpr ⟨lw_p20, List.forall_mem_cons.mpr ⟨lw_p21, fun _ h => absurd h List.not_mem_nil⟩⟩⟩⟩⟩⟩
def lw_privs : List (MethodName × Nat) := lw_privs_1 ++ (lw_privs_2)
def lw_tbl : List Cond := k2_sels lw_privs ++ tables_1
theorem lw_privs_ok : ∀ q ∈ lw_privs, lw_okq q := by
  show ∀ q ∈ lw_privs_1 ++ (lw_privs_2), lw_okq q
  exact List.forall_mem_append.mpr ⟨lw_r1, lw_r2⟩
/-- the streams that the claim lets the run draw from -/
abbrev lw_cs : List Choice := [Jvm.Choice.named "NaN.bits"]
theorem lw_bits : nanBits ∈ lw_cs := by first | decide | exact List.mem_cons_self | simp [lw_cs, nanBits]
-- ===== end of PART A; then your names; then what follows =====
/-- the words of the tables that every method may lean on -/
def wG : List Cond := lw_tbl.filter goodWord
theorem wG_of {w : Cond} (i : Nat) (h : lw_tbl[i]? = some w) (hg : goodWord w = true) : w ∈ wG := List.mem_filter.mpr ⟨List.mem_of_getElem? h, hg⟩
theorem wG_in {w : Cond} (h : w ∈ wG) : w ∈ lw_tbl := (List.mem_filter.mp h).1
theorem wG_good {w : Cond} (h : w ∈ wG) : (w.onTables && w.keeps) = true ∨ ∃ ty, w = .arrayClass ty := good_of_word (List.mem_filter.mp h).2
end
section
def RX0 : String := "RepairDuty$Duties"
def TX0 : u_T := fun k => match k with
  | 0 => ("RepairDuty$Duties", "round", "I", false)
  | 1 => ("RepairDuty$Duties", "seed", "I", false)
  | 2 => ("RepairDuty$Duties", "size", "I", false)
  | _ => ("RepairDuty$Duties", "list", "LRepairDuty$Row;", true)
def tyX0 : Nat → FieldType := fun k => match k with
  | 0 => .int
  | 1 => .int
  | 2 => .int
  | _ => .object "RepairDuty$Row"
abbrev wsX00 : List Cond := u_ws RX0 TX0 4
theorem nmX0 : ∀ a, a < 4 → ∀ b, b < 4 → a ≠ b → (TX0 a).2.1 ≠ (TX0 b).2.1 := by decide +kernel
theorem tyX0_ok : ∀ k, k < 4 → parseFieldDescriptor (TX0 k).2.2.1 = some (tyX0 k) := by decide +kernel
abbrev cX0_init : ByteArray := prog_2_method_1_code
def yX0_init : MethodName := ⟨RX0, "<init>", "()V"⟩
abbrev cX0_drawNext : ByteArray := prog_2_method_2_code
def yX0_drawNext : MethodName := ⟨RX0, "drawNext", "(ILRepairDuty$Members;I)V"⟩
abbrev cX0_drawList : ByteArray := prog_2_method_3_code
def yX0_drawList : MethodName := ⟨RX0, "drawList", "(LRepairDuty$Members;)V"⟩
abbrev cX0_weightOfOthers : ByteArray := prog_2_method_4_code
def yX0_weightOfOthers : MethodName := ⟨RX0, "weightOfOthers", "(LRepairDuty$Members;I)I"⟩
abbrev cX0_memberOfLot : ByteArray := prog_2_method_5_code
def yX0_memberOfLot : MethodName := ⟨RX0, "memberOfLot", "(LRepairDuty$Members;II)I"⟩
abbrev cX0_memberAt : ByteArray := prog_2_method_6_code
def yX0_memberAt : MethodName := ⟨RX0, "memberAt", "(I)I"⟩
abbrev cX0_rankOf : ByteArray := prog_2_method_7_code
def yX0_rankOf : MethodName := ⟨RX0, "rankOf", "(I)I"⟩
abbrev cX0_copy : ByteArray := prog_2_method_8_code
def yX0_copy : MethodName := ⟨RX0, "copy", "(LRepairDuty$Duties;)V"⟩
def RX1 : String := "RepairDuty$History"
def TX1 : u_T := fun k => match k with
  | 0 => ("RepairDuty$History", "count", "I", false)
  | 1 => ("RepairDuty$History", "oldest", "I", false)
  | _ => ("RepairDuty$History", "states", "[LRepairDuty$State;", true)
def tyX1 : Nat → FieldType := fun k => match k with
  | 0 => .int
  | 1 => .int
  | _ => .array (.object "RepairDuty$State")
abbrev wsX10 : List Cond := u_ws RX1 TX1 3
theorem nmX1 : ∀ a, a < 3 → ∀ b, b < 3 → a ≠ b → (TX1 a).2.1 ≠ (TX1 b).2.1 := by decide +kernel
theorem tyX1_ok : ∀ k, k < 3 → parseFieldDescriptor (TX1 k).2.2.1 = some (tyX1 k) := by decide +kernel
abbrev cX1_init : ByteArray := prog_3_method_1_code
def yX1_init : MethodName := ⟨RX1, "<init>", "()V"⟩
abbrev cX1_keep : ByteArray := prog_3_method_2_code
def yX1_keep : MethodName := ⟨RX1, "keep", "(LRepairDuty$State;)V"⟩
abbrev cX1_giveBack : ByteArray := prog_3_method_3_code
def yX1_giveBack : MethodName := ⟨RX1, "giveBack", "(LRepairDuty$State;)V"⟩
abbrev cX1_stateAt : ByteArray := prog_3_method_4_code
def yX1_stateAt : MethodName := ⟨RX1, "stateAt", "(I)LRepairDuty$State;"⟩
def RX2 : String := "RepairDuty$Log"
def TX2 : u_T := fun k => match k with
  | 0 => ("RepairDuty$Log", "made", "I", false)
  | 1 => ("RepairDuty$Log", "asked", "I", false)
  | 2 => ("RepairDuty$Log", "silent", "I", false)
  | _ => ("RepairDuty$Log", "numbers", "LRepairDuty$Row;", true)
def tyX2 : Nat → FieldType := fun k => match k with
  | 0 => .int
  | 1 => .int
  | 2 => .int
  | _ => .object "RepairDuty$Row"
abbrev wsX20 : List Cond := u_ws RX2 TX2 4
theorem nmX2 : ∀ a, a < 4 → ∀ b, b < 4 → a ≠ b → (TX2 a).2.1 ≠ (TX2 b).2.1 := by decide +kernel
theorem tyX2_ok : ∀ k, k < 4 → parseFieldDescriptor (TX2 k).2.2.1 = some (tyX2 k) := by decide +kernel
abbrev cX2_init : ByteArray := prog_4_method_1_code
def yX2_init : MethodName := ⟨RX2, "<init>", "()V"⟩
abbrev cX2_add : ByteArray := prog_4_method_2_code
def yX2_add : MethodName := ⟨RX2, "add", "(LRepairDuty$Plan;I)V"⟩
abbrev cX2_kept : ByteArray := prog_4_method_3_code
def yX2_kept : MethodName := ⟨RX2, "kept", "()I"⟩
abbrev cX2_number : ByteArray := prog_4_method_4_code
def yX2_number : MethodName := ⟨RX2, "number", "(II)I"⟩
abbrev cX2_copy : ByteArray := prog_4_method_5_code
def yX2_copy : MethodName := ⟨RX2, "copy", "(LRepairDuty$Log;)V"⟩
def RX3 : String := "RepairDuty$Members"
def TX3 : u_T := fun k => match k with
  | 0 => ("RepairDuty$Members", "count", "I", false)
  | 1 => ("RepairDuty$Members", "living", "I", false)
  | 2 => ("RepairDuty$Members", "weights", "LRepairDuty$Row;", true)
  | 3 => ("RepairDuty$Members", "positions", "LRepairDuty$Row;", true)
  | 4 => ("RepairDuty$Members", "credits", "LRepairDuty$Row;", true)
  | 5 => ("RepairDuty$Members", "repaired", "LRepairDuty$Row;", true)
  | 6 => ("RepairDuty$Members", "missed", "LRepairDuty$Row;", true)
  | 7 => ("RepairDuty$Members", "stages", "LRepairDuty$Row;", true)
  | 8 => ("RepairDuty$Members", "told", "LRepairDuty$Row;", true)
  | _ => ("RepairDuty$Members", "secrets", "LRepairDuty$Row;", true)
def tyX3 : Nat → FieldType := fun k => match k with
  | 0 => .int
  | 1 => .int
  | 2 => .object "RepairDuty$Row"
  | 3 => .object "RepairDuty$Row"
  | 4 => .object "RepairDuty$Row"
  | 5 => .object "RepairDuty$Row"
  | 6 => .object "RepairDuty$Row"
  | 7 => .object "RepairDuty$Row"
  | 8 => .object "RepairDuty$Row"
  | _ => .object "RepairDuty$Row"
abbrev wsX30 : List Cond := u_ws RX3 TX3 10
theorem nmX3 : ∀ a, a < 10 → ∀ b, b < 10 → a ≠ b → (TX3 a).2.1 ≠ (TX3 b).2.1 := by decide +kernel
theorem tyX3_ok : ∀ k, k < 10 → parseFieldDescriptor (TX3 k).2.2.1 = some (tyX3 k) := by decide +kernel
abbrev cX3_init : ByteArray := prog_5_method_1_code
def yX3_init : MethodName := ⟨RX3, "<init>", "()V"⟩
abbrev cX3_enter : ByteArray := prog_5_method_2_code
def yX3_enter : MethodName := ⟨RX3, "enter", "(II)I"⟩
abbrev cX3_lives : ByteArray := prog_5_method_3_code
def yX3_lives : MethodName := ⟨RX3, "lives", "(I)Z"⟩
abbrev cX3_distance : ByteArray := prog_5_method_4_code
def yX3_distance : MethodName := ⟨RX3, "distance", "(II)I"⟩
abbrev cX3_rightReveals : ByteArray := prog_5_method_5_code
def yX3_rightReveals : MethodName := ⟨RX3, "rightReveals", "()I"⟩
abbrev cX3_endLottery : ByteArray := prog_5_method_6_code
def yX3_endLottery : MethodName := ⟨RX3, "endLottery", "(I)V"⟩
abbrev cX3_copy : ByteArray := prog_5_method_7_code
def yX3_copy : MethodName := ⟨RX3, "copy", "(LRepairDuty$Members;)V"⟩
def RX4 : String := "RepairDuty$Numbers"
def TX4 : u_T := fun k => match k with
  | _ => ("", "", "", false)
def tyX4 : Nat → FieldType := fun k => match k with
  | _ => .int
abbrev wsX40 : List Cond := u_ws RX4 TX4 0
theorem nmX4 : ∀ a, a < 0 → ∀ b, b < 0 → a ≠ b → (TX4 a).2.1 ≠ (TX4 b).2.1 := by decide +kernel
theorem tyX4_ok : ∀ k, k < 0 → parseFieldDescriptor (TX4 k).2.2.1 = some (tyX4 k) := by decide +kernel
abbrev cX4_mixed : ByteArray := prog_6_method_2_code
def yX4_mixed : MethodName := ⟨RX4, "mixed", "(I)I"⟩
abbrev cX4_lot : ByteArray := prog_6_method_3_code
def yX4_lot : MethodName := ⟨RX4, "lot", "(II)I"⟩
abbrev cX4_has : ByteArray := prog_6_method_4_code
def yX4_has : MethodName := ⟨RX4, "has", "(II)Z"⟩
def RX5 : String := "RepairDuty$Plan"
def TX5 : u_T := fun k => match k with
  | 0 => ("RepairDuty$Plan", "block", "I", false)
  | 1 => ("RepairDuty$Plan", "hindrance", "I", false)
  | 2 => ("RepairDuty$Plan", "losers", "I", false)
  | 3 => ("RepairDuty$Plan", "asking", "I", false)
  | 4 => ("RepairDuty$Plan", "silent", "I", false)
  | 5 => ("RepairDuty$Plan", "missing", "I", false)
  | 6 => ("RepairDuty$Plan", "first", "I", false)
  | 7 => ("RepairDuty$Plan", "repairer", "I", false)
  | 8 => ("RepairDuty$Plan", "repairerRank", "I", false)
  | 9 => ("RepairDuty$Plan", "time", "I", false)
  | 10 => ("RepairDuty$Plan", "waits", "LRepairDuty$Row;", true)
  | _ => ("RepairDuty$Plan", "arrivals", "LRepairDuty$Row;", true)
def tyX5 : Nat → FieldType := fun k => match k with
  | 0 => .int
  | 1 => .int
  | 2 => .int
  | 3 => .int
  | 4 => .int
  | 5 => .int
  | 6 => .int
  | 7 => .int
  | 8 => .int
  | 9 => .int
  | 10 => .object "RepairDuty$Row"
  | _ => .object "RepairDuty$Row"
abbrev wsX50 : List Cond := u_ws RX5 TX5 12
theorem nmX5 : ∀ a, a < 12 → ∀ b, b < 12 → a ≠ b → (TX5 a).2.1 ≠ (TX5 b).2.1 := by decide +kernel
theorem tyX5_ok : ∀ k, k < 12 → parseFieldDescriptor (TX5 k).2.2.1 = some (tyX5 k) := by decide +kernel
abbrev cX5_init : ByteArray := prog_7_method_1_code
def yX5_init : MethodName := ⟨RX5, "<init>", "()V"⟩
abbrev cX5_reckon : ByteArray := prog_7_method_2_code
def yX5_reckon : MethodName := ⟨RX5, "reckon", "(LRepairDuty$State;II)V"⟩
abbrev cX5_hindranceIn : ByteArray := prog_7_method_3_code
def yX5_hindranceIn : MethodName := ⟨RX5, "hindranceIn", "(LRepairDuty$State;)I"⟩
abbrev cX5_findRepairer : ByteArray := prog_7_method_4_code
def yX5_findRepairer : MethodName := ⟨RX5, "findRepairer", "(LRepairDuty$State;)V"⟩
abbrev cX5_drawWaits : ByteArray := prog_7_method_5_code
def yX5_drawWaits : MethodName := ⟨RX5, "drawWaits", "(II)V"⟩
abbrev cX5_findWhoAsks : ByteArray := prog_7_method_6_code
def yX5_findWhoAsks : MethodName := ⟨RX5, "findWhoAsks", "(LRepairDuty$Members;)V"⟩
abbrev cX5_reckonTimes : ByteArray := prog_7_method_7_code
def yX5_reckonTimes : MethodName := ⟨RX5, "reckonTimes", "(LRepairDuty$Members;I)V"⟩
abbrev cX5_timeOfHearing : ByteArray := prog_7_method_8_code
def yX5_timeOfHearing : MethodName := ⟨RX5, "timeOfHearing", "(LRepairDuty$Members;)I"⟩
abbrev cX5_partOf : ByteArray := prog_7_method_9_code
def yX5_partOf : MethodName := ⟨RX5, "partOf", "(I)I"⟩
def RX6 : String := "RepairDuty$Row"
def TX6 : u_T := fun k => match k with
  | _ => ("RepairDuty$Row", "cells", "[I", true)
def tyX6 : Nat → FieldType := fun k => match k with
  | _ => .array .int
abbrev wsX60 : List Cond := u_ws RX6 TX6 1
theorem nmX6 : ∀ a, a < 1 → ∀ b, b < 1 → a ≠ b → (TX6 a).2.1 ≠ (TX6 b).2.1 := by decide +kernel
theorem tyX6_ok : ∀ k, k < 1 → parseFieldDescriptor (TX6 k).2.2.1 = some (tyX6 k) := by decide +kernel
abbrev cX6_init : ByteArray := prog_8_method_1_code
def yX6_init : MethodName := ⟨RX6, "<init>", "(I)V"⟩
abbrev cX6_at : ByteArray := prog_8_method_2_code
def yX6_at : MethodName := ⟨RX6, "at", "(I)I"⟩
abbrev cX6_put : ByteArray := prog_8_method_3_code
def yX6_put : MethodName := ⟨RX6, "put", "(II)V"⟩
abbrev cX6_add : ByteArray := prog_8_method_4_code
def yX6_add : MethodName := ⟨RX6, "add", "(II)V"⟩
abbrev cX6_swap : ByteArray := prog_8_method_5_code
def yX6_swap : MethodName := ⟨RX6, "swap", "(II)I"⟩
abbrev cX6_copy : ByteArray := prog_8_method_6_code
def yX6_copy : MethodName := ⟨RX6, "copy", "(LRepairDuty$Row;)V"⟩
def RX7 : String := "RepairDuty$State"
def TX7 : u_T := fun k => match k with
  | 0 => ("RepairDuty$State", "settings", "LRepairDuty$Row;", true)
  | 1 => ("RepairDuty$State", "members", "LRepairDuty$Members;", true)
  | 2 => ("RepairDuty$State", "duties", "LRepairDuty$Duties;", true)
  | 3 => ("RepairDuty$State", "lost", "LRepairDuty$Row;", true)
  | _ => ("RepairDuty$State", "log", "LRepairDuty$Log;", true)
def tyX7 : Nat → FieldType := fun k => match k with
  | 0 => .object "RepairDuty$Row"
  | 1 => .object "RepairDuty$Members"
  | 2 => .object "RepairDuty$Duties"
  | 3 => .object "RepairDuty$Row"
  | _ => .object "RepairDuty$Log"
abbrev wsX70 : List Cond := u_ws RX7 TX7 5
theorem nmX7 : ∀ a, a < 5 → ∀ b, b < 5 → a ≠ b → (TX7 a).2.1 ≠ (TX7 b).2.1 := by decide +kernel
theorem tyX7_ok : ∀ k, k < 5 → parseFieldDescriptor (TX7 k).2.2.1 = some (tyX7 k) := by decide +kernel
abbrev cX7_init : ByteArray := prog_9_method_1_code
def yX7_init : MethodName := ⟨RX7, "<init>", "()V"⟩
abbrev cX7_blocksLostBy : ByteArray := prog_9_method_2_code
def yX7_blocksLostBy : MethodName := ⟨RX7, "blocksLostBy", "(I)I"⟩
abbrev cX7_carryOut : ByteArray := prog_9_method_3_code
def yX7_carryOut : MethodName := ⟨RX7, "carryOut", "(LRepairDuty$Plan;)V"⟩
abbrev cX7_copy : ByteArray := prog_9_method_4_code
def yX7_copy : MethodName := ⟨RX7, "copy", "(LRepairDuty$State;)V"⟩
def RX8 : String := "RepairDuty$Text"
def TX8 : u_T := fun k => match k with
  | 0 => ("RepairDuty$Text", "length", "I", false)
  | _ => ("RepairDuty$Text", "signs", "LRepairDuty$Row;", true)
def tyX8 : Nat → FieldType := fun k => match k with
  | 0 => .int
  | _ => .object "RepairDuty$Row"
abbrev wsX80 : List Cond := u_ws RX8 TX8 2
theorem nmX8 : ∀ a, a < 2 → ∀ b, b < 2 → a ≠ b → (TX8 a).2.1 ≠ (TX8 b).2.1 := by decide +kernel
theorem tyX8_ok : ∀ k, k < 2 → parseFieldDescriptor (TX8 k).2.2.1 = some (tyX8 k) := by decide +kernel
abbrev cX8_init : ByteArray := prog_10_method_1_code
def yX8_init : MethodName := ⟨RX8, "<init>", "()V"⟩
abbrev cX8_append : ByteArray := prog_10_method_2_code
def yX8_append : MethodName := ⟨RX8, "append", "(I)Z"⟩
abbrev cX8_empty : ByteArray := prog_10_method_3_code
def yX8_empty : MethodName := ⟨RX8, "empty", "()I"⟩
abbrev cX8_isDigit : ByteArray := prog_10_method_4_code
def yX8_isDigit : MethodName := ⟨RX8, "isDigit", "(I)Z"⟩
abbrev cX8_errorPlace : ByteArray := prog_10_method_5_code
def yX8_errorPlace : MethodName := ⟨RX8, "errorPlace", "(I)I"⟩
abbrev cX8_wrongSignPlace : ByteArray := prog_10_method_6_code
def yX8_wrongSignPlace : MethodName := ⟨RX8, "wrongSignPlace", "(I)I"⟩
abbrev cX8_greatBlockPlace : ByteArray := prog_10_method_7_code
def yX8_greatBlockPlace : MethodName := ⟨RX8, "greatBlockPlace", "()I"⟩
abbrev cX8_numberFrom : ByteArray := prog_10_method_8_code
def yX8_numberFrom : MethodName := ⟨RX8, "numberFrom", "(I)I"⟩
abbrev cX8_enterLosses : ByteArray := prog_10_method_9_code
def yX8_enterLosses : MethodName := ⟨RX8, "enterLosses", "(LRepairDuty$Row;)I"⟩
def RX9 : String := "RepairDuty"
def TX9 : u_T := fun k => match k with
  | 0 => ("RepairDuty", "now", "LRepairDuty$State;", true)
  | 1 => ("RepairDuty", "history", "LRepairDuty$History;", true)
  | 2 => ("RepairDuty", "text", "LRepairDuty$Text;", true)
  | 3 => ("RepairDuty", "plan", "LRepairDuty$Plan;", true)
  | _ => ("RepairDuty", "guess", "LRepairDuty$Duties;", true)
def tyX9 : Nat → FieldType := fun k => match k with
  | 0 => .object "RepairDuty$State"
  | 1 => .object "RepairDuty$History"
  | 2 => .object "RepairDuty$Text"
  | 3 => .object "RepairDuty$Plan"
  | _ => .object "RepairDuty$Duties"
abbrev wsX90 : List Cond := u_ws RX9 TX9 5
theorem nmX9 : ∀ a, a < 5 → ∀ b, b < 5 → a ≠ b → (TX9 a).2.1 ≠ (TX9 b).2.1 := by decide +kernel
theorem tyX9_ok : ∀ k, k < 5 → parseFieldDescriptor (TX9 k).2.2.1 = some (tyX9 k) := by decide +kernel
abbrev cX9_init : ByteArray := prog_1_method_1_code
def yX9_init : MethodName := ⟨RX9, "<init>", "()V"⟩
abbrev cX9_join : ByteArray := prog_1_method_2_code
def yX9_join : MethodName := ⟨RX9, "join", "(II)I"⟩
abbrev cX9_change : ByteArray := prog_1_method_3_code
def yX9_change : MethodName := ⟨RX9, "change", "(III)I"⟩
abbrev cX9_live : ByteArray := prog_1_method_4_code
def yX9_live : MethodName := ⟨RX9, "live", "(IZ)I"⟩
abbrev cX9_member : ByteArray := prog_1_method_5_code
def yX9_member : MethodName := ⟨RX9, "member", "(II)I"⟩
abbrev cX9_set : ByteArray := prog_1_method_6_code
def yX9_set : MethodName := ⟨RX9, "set", "(II)I"⟩
abbrev cX9_about : ByteArray := prog_1_method_7_code
def yX9_about : MethodName := ⟨RX9, "about", "(I)I"⟩
abbrev cX9_mix : ByteArray := prog_1_method_8_code
def yX9_mix : MethodName := ⟨RX9, "mix", "(I)I"⟩
abbrev cX9_commit : ByteArray := prog_1_method_9_code
def yX9_commit : MethodName := ⟨RX9, "commit", "(II)I"⟩
abbrev cX9_reveal : ByteArray := prog_1_method_10_code
def yX9_reveal : MethodName := ⟨RX9, "reveal", "(II)I"⟩
abbrev cX9_draw : ByteArray := prog_1_method_11_code
def yX9_draw : MethodName := ⟨RX9, "draw", "()I"⟩
abbrev cX9_seed : ByteArray := prog_1_method_12_code
def yX9_seed : MethodName := ⟨RX9, "seed", "()J"⟩
abbrev cX9_duty : ByteArray := prog_1_method_13_code
def yX9_duty : MethodName := ⟨RX9, "duty", "(I)I"⟩
abbrev cX9_ifLeft : ByteArray := prog_1_method_14_code
def yX9_ifLeft : MethodName := ⟨RX9, "ifLeft", "(II)I"⟩
abbrev cX9_lose : ByteArray := prog_1_method_15_code
def yX9_lose : MethodName := ⟨RX9, "lose", "(II)I"⟩
abbrev cX9_type : ByteArray := prog_1_method_16_code
def yX9_type : MethodName := ⟨RX9, "type", "(I)I"⟩
abbrev cX9_clear : ByteArray := prog_1_method_17_code
def yX9_clear : MethodName := ⟨RX9, "clear", "()I"⟩
abbrev cX9_read : ByteArray := prog_1_method_18_code
def yX9_read : MethodName := ⟨RX9, "read", "()I"⟩
abbrev cX9_lost : ByteArray := prog_1_method_19_code
def yX9_lost : MethodName := ⟨RX9, "lost", "(II)I"⟩
abbrev cX9_repair : ByteArray := prog_1_method_20_code
def yX9_repair : MethodName := ⟨RX9, "repair", "(I)I"⟩
abbrev cX9_repairAll : ByteArray := prog_1_method_21_code
def yX9_repairAll : MethodName := ⟨RX9, "repairAll", "()I"⟩
abbrev cX9_look : ByteArray := prog_1_method_22_code
def yX9_look : MethodName := ⟨RX9, "look", "(III)I"⟩
abbrev cX9_past : ByteArray := prog_1_method_23_code
def yX9_past : MethodName := ⟨RX9, "past", "(II)I"⟩
abbrev cX9_why : ByteArray := prog_1_method_24_code
def yX9_why : MethodName := ⟨RX9, "why", "(I)I"⟩
abbrev cX9_silence : ByteArray := prog_1_method_25_code
def yX9_silence : MethodName := ⟨RX9, "silence", "()F"⟩
abbrev cX9_bestWait : ByteArray := prog_1_method_26_code
def yX9_bestWait : MethodName := ⟨RX9, "bestWait", "()I"⟩
abbrev cX9_undo : ByteArray := prog_1_method_27_code
def yX9_undo : MethodName := ⟨RX9, "undo", "()I"⟩
abbrev cX9_fingerprint : ByteArray := prog_1_method_28_code
def yX9_fingerprint : MethodName := ⟨RX9, "fingerprint", "()J"⟩
abbrev cX9_isMember : ByteArray := prog_1_method_29_code
def yX9_isMember : MethodName := ⟨RX9, "isMember", "(I)Z"⟩
abbrev cX9_isBlock : ByteArray := prog_1_method_30_code
def yX9_isBlock : MethodName := ⟨RX9, "isBlock", "(I)Z"⟩
abbrev cX9_isWeight : ByteArray := prog_1_method_31_code
def yX9_isWeight : MethodName := ⟨RX9, "isWeight", "(I)Z"⟩
abbrev cX9_isPosition : ByteArray := prog_1_method_32_code
def yX9_isPosition : MethodName := ⟨RX9, "isPosition", "(I)Z"⟩
abbrev cX9_isSettingValue : ByteArray := prog_1_method_33_code
def yX9_isSettingValue : MethodName := ⟨RX9, "isSettingValue", "(II)Z"⟩
abbrev cX9_areEnough : ByteArray := prog_1_method_34_code
def yX9_areEnough : MethodName := ⟨RX9, "areEnough", "(I)Z"⟩
abbrev cX9_sumOfTimes : ByteArray := prog_1_method_35_code
def yX9_sumOfTimes : MethodName := ⟨RX9, "sumOfTimes", "(I)I"⟩
def RX10 : String := "RepairDutyModel"
def TX10 : u_T := fun k => match k with
  | 0 => ("RepairDutyModel", "v", "[I", true)
  | 1 => ("RepairDutyModel", "past", "[I", true)
  | 2 => ("RepairDutyModel", "pastMany", "I", false)
  | 3 => ("RepairDutyModel", "seeded", "I", false)
  | 4 => ("RepairDutyModel", "list", "[I", true)
  | 5 => ("RepairDutyModel", "lotted", "I", false)
  | 6 => ("RepairDutyModel", "text", "[I", true)
  | 7 => ("RepairDutyModel", "typed", "I", false)
  | 8 => ("RepairDutyModel", "placed", "I", false)
  | 9 => ("RepairDutyModel", "wrong", "I", false)
  | 10 => ("RepairDutyModel", "losses", "[I", true)
  | 11 => ("RepairDutyModel", "readMany", "I", false)
  | 12 => ("RepairDutyModel", "losers", "I", false)
  | 13 => ("RepairDutyModel", "waits", "[I", true)
  | 14 => ("RepairDutyModel", "first", "I", false)
  | 15 => ("RepairDutyModel", "asking", "I", false)
  | 16 => ("RepairDutyModel", "silent", "I", false)
  | 17 => ("RepairDutyModel", "missing", "I", false)
  | 18 => ("RepairDutyModel", "repairer", "I", false)
  | 19 => ("RepairDutyModel", "sends", "I", false)
  | _ => ("RepairDutyModel", "time", "I", false)
def tyX10 : Nat → FieldType := fun k => match k with
  | 0 => .array .int
  | 1 => .array .int
  | 2 => .int
  | 3 => .int
  | 4 => .array .int
  | 5 => .int
  | 6 => .array .int
  | 7 => .int
  | 8 => .int
  | 9 => .int
  | 10 => .array .int
  | 11 => .int
  | 12 => .int
  | 13 => .array .int
  | 14 => .int
  | 15 => .int
  | 16 => .int
  | 17 => .int
  | 18 => .int
  | 19 => .int
  | _ => .int
abbrev wsX100 : List Cond := u_ws RX10 TX10 21
theorem nmX10 : ∀ a, a < 21 → ∀ b, b < 21 → a ≠ b → (TX10 a).2.1 ≠ (TX10 b).2.1 := by decide +kernel
theorem tyX10_ok : ∀ k, k < 21 → parseFieldDescriptor (TX10 k).2.2.1 = some (tyX10 k) := by decide +kernel
abbrev cX10_init : ByteArray := prog_12_method_1_code
def yX10_init : MethodName := ⟨RX10, "<init>", "()V"⟩
abbrev cX10_in : ByteArray := prog_12_method_2_code
def yX10_in : MethodName := ⟨RX10, "in", "(III)Z"⟩
abbrev cX10_act : ByteArray := prog_12_method_3_code
def yX10_act : MethodName := ⟨RX10, "act", "()V"⟩
abbrev cX10_sets : ByteArray := prog_12_method_4_code
def yX10_sets : MethodName := ⟨RX10, "sets", "(II)I"⟩
abbrev cX10_at : ByteArray := prog_12_method_5_code
def yX10_at : MethodName := ⟨RX10, "at", "(II)I"⟩
abbrev cX10_isMember : ByteArray := prog_12_method_6_code
def yX10_isMember : MethodName := ⟨RX10, "isMember", "(I)Z"⟩
abbrev cX10_isBlock : ByteArray := prog_12_method_7_code
def yX10_isBlock : MethodName := ⟨RX10, "isBlock", "(I)Z"⟩
abbrev cX10_mixed : ByteArray := prog_12_method_8_code
def yX10_mixed : MethodName := ⟨RX10, "mixed", "(I)I"⟩
abbrev cX10_join : ByteArray := prog_12_method_9_code
def yX10_join : MethodName := ⟨RX10, "join", "(II)I"⟩
abbrev cX10_change : ByteArray := prog_12_method_10_code
def yX10_change : MethodName := ⟨RX10, "change", "(III)I"⟩
abbrev cX10_live : ByteArray := prog_12_method_11_code
def yX10_live : MethodName := ⟨RX10, "live", "(IZ)I"⟩
abbrev cX10_has : ByteArray := prog_12_method_12_code
def yX10_has : MethodName := ⟨RX10, "has", "(II)Z"⟩
abbrev cX10_told : ByteArray := prog_12_method_13_code
def yX10_told : MethodName := ⟨RX10, "told", "(II)I"⟩
abbrev cX10_member : ByteArray := prog_12_method_14_code
def yX10_member : MethodName := ⟨RX10, "member", "(II)I"⟩
abbrev cX10_set : ByteArray := prog_12_method_15_code
def yX10_set : MethodName := ⟨RX10, "set", "(II)I"⟩
abbrev cX10_about : ByteArray := prog_12_method_16_code
def yX10_about : MethodName := ⟨RX10, "about", "(I)I"⟩
abbrev cX10_mix : ByteArray := prog_12_method_17_code
def yX10_mix : MethodName := ⟨RX10, "mix", "(I)I"⟩
abbrev cX10_lives : ByteArray := prog_12_method_18_code
def yX10_lives : MethodName := ⟨RX10, "lives", "(I)Z"⟩
abbrev cX10_commit : ByteArray := prog_12_method_19_code
def yX10_commit : MethodName := ⟨RX10, "commit", "(II)I"⟩
abbrev cX10_reveal : ByteArray := prog_12_method_20_code
def yX10_reveal : MethodName := ⟨RX10, "reveal", "(II)I"⟩
abbrev cX10_seeds : ByteArray := prog_12_method_21_code
def yX10_seeds : MethodName := ⟨RX10, "seeds", "(I)I"⟩
abbrev cX10_lot : ByteArray := prog_12_method_22_code
def yX10_lot : MethodName := ⟨RX10, "lot", "(I)I"⟩
abbrev cX10_lists : ByteArray := prog_12_method_23_code
def yX10_lists : MethodName := ⟨RX10, "lists", "(I)V"⟩
abbrev cX10_draw : ByteArray := prog_12_method_24_code
def yX10_draw : MethodName := ⟨RX10, "draw", "()I"⟩
abbrev cX10_seed : ByteArray := prog_12_method_25_code
def yX10_seed : MethodName := ⟨RX10, "seed", "()J"⟩
abbrev cX10_duty : ByteArray := prog_12_method_26_code
def yX10_duty : MethodName := ⟨RX10, "duty", "(I)I"⟩
abbrev cX10_ifLeft : ByteArray := prog_12_method_27_code
def yX10_ifLeft : MethodName := ⟨RX10, "ifLeft", "(II)I"⟩
abbrev cX10_lose : ByteArray := prog_12_method_28_code
def yX10_lose : MethodName := ⟨RX10, "lose", "(II)I"⟩
abbrev cX10_type : ByteArray := prog_12_method_29_code
def yX10_type : MethodName := ⟨RX10, "type", "(I)I"⟩
abbrev cX10_clear : ByteArray := prog_12_method_30_code
def yX10_clear : MethodName := ⟨RX10, "clear", "()I"⟩
abbrev cX10_sign : ByteArray := prog_12_method_31_code
def yX10_sign : MethodName := ⟨RX10, "sign", "()I"⟩
abbrev cX10_readsGroup : ByteArray := prog_12_method_32_code
def yX10_readsGroup : MethodName := ⟨RX10, "readsGroup", "()Z"⟩
abbrev cX10_wrongAt : ByteArray := prog_12_method_33_code
def yX10_wrongAt : MethodName := ⟨RX10, "wrongAt", "()I"⟩
abbrev cX10_read : ByteArray := prog_12_method_34_code
def yX10_read : MethodName := ⟨RX10, "read", "()I"⟩
abbrev cX10_lost : ByteArray := prog_12_method_35_code
def yX10_lost : MethodName := ⟨RX10, "lost", "(II)I"⟩
abbrev cX10_isIn : ByteArray := prog_12_method_36_code
def yX10_isIn : MethodName := ⟨RX10, "isIn", "(II)Z"⟩
abbrev cX10_distance : ByteArray := prog_12_method_37_code
def yX10_distance : MethodName := ⟨RX10, "distance", "(II)I"⟩
abbrev cX10_works : ByteArray := prog_12_method_38_code
def yX10_works : MethodName := ⟨RX10, "works", "(II)I"⟩
abbrev cX10_asks : ByteArray := prog_12_method_39_code
def yX10_asks : MethodName := ⟨RX10, "asks", "(II)V"⟩
abbrev cX10_many : ByteArray := prog_12_method_40_code
def yX10_many : MethodName := ⟨RX10, "many", "(I)I"⟩
abbrev cX10_makes : ByteArray := prog_12_method_41_code
def yX10_makes : MethodName := ⟨RX10, "makes", "(I)V"⟩
abbrev cX10_repair : ByteArray := prog_12_method_42_code
def yX10_repair : MethodName := ⟨RX10, "repair", "(I)I"⟩
abbrev cX10_repairAll : ByteArray := prog_12_method_43_code
def yX10_repairAll : MethodName := ⟨RX10, "repairAll", "()I"⟩
abbrev cX10_roleOf : ByteArray := prog_12_method_44_code
def yX10_roleOf : MethodName := ⟨RX10, "roleOf", "(I)I"⟩
abbrev cX10_look : ByteArray := prog_12_method_45_code
def yX10_look : MethodName := ⟨RX10, "look", "(III)I"⟩
abbrev cX10_pastOf : ByteArray := prog_12_method_46_code
def yX10_pastOf : MethodName := ⟨RX10, "pastOf", "(II)I"⟩
abbrev cX10_past : ByteArray := prog_12_method_47_code
def yX10_past : MethodName := ⟨RX10, "past", "(II)I"⟩
abbrev cX10_why : ByteArray := prog_12_method_48_code
def yX10_why : MethodName := ⟨RX10, "why", "(I)I"⟩
abbrev cX10_silence : ByteArray := prog_12_method_49_code
def yX10_silence : MethodName := ⟨RX10, "silence", "()F"⟩
abbrev cX10_waitOf : ByteArray := prog_12_method_50_code
def yX10_waitOf : MethodName := ⟨RX10, "waitOf", "(I)I"⟩
abbrev cX10_bestWait : ByteArray := prog_12_method_51_code
def yX10_bestWait : MethodName := ⟨RX10, "bestWait", "()I"⟩
abbrev cX10_undo : ByteArray := prog_12_method_52_code
def yX10_undo : MethodName := ⟨RX10, "undo", "()I"⟩
abbrev cX10_fingerprint : ByteArray := prog_12_method_53_code
def yX10_fingerprint : MethodName := ⟨RX10, "fingerprint", "()J"⟩
def RJ6 : String := "java/lang/Integer"
def TJ6 : u_T := fun k => match k with
  | _ => ("", "", "", false)
def tyJ6 : Nat → FieldType := fun k => match k with
  | _ => .int
abbrev wsJ60 : List Cond := u_ws RJ6 TJ6 0
theorem nmJ6 : ∀ a, a < 0 → ∀ b, b < 0 → a ≠ b → (TJ6 a).2.1 ≠ (TJ6 b).2.1 := by decide +kernel
theorem tyJ6_ok : ∀ k, k < 0 → parseFieldDescriptor (TJ6 k).2.2.1 = some (tyJ6 k) := by decide +kernel
abbrev cJ6_bitCount_0f7a4 : ByteArray := prog_13_method_49_code
def yJ6_bitCount_0f7a4 : MethodName := ⟨RJ6, "bitCount", "(I)I"⟩
def RJ9 : String := "java/lang/Math"
def TJ9 : u_T := fun k => match k with
  | _ => ("", "", "", false)
def tyJ9 : Nat → FieldType := fun k => match k with
  | _ => .int
abbrev wsJ90 : List Cond := u_ws RJ9 TJ9 0
theorem nmJ9 : ∀ a, a < 0 → ∀ b, b < 0 → a ≠ b → (TJ9 a).2.1 ≠ (TJ9 b).2.1 := by decide +kernel
theorem tyJ9_ok : ∀ k, k < 0 → parseFieldDescriptor (TJ9 k).2.2.1 = some (tyJ9 k) := by decide +kernel
abbrev cJ9_abs_0f7a4 : ByteArray := prog_14_method_59_code
def yJ9_abs_0f7a4 : MethodName := ⟨RJ9, "abs", "(I)I"⟩
abbrev cJ9_max_7cf53 : ByteArray := prog_14_method_65_code
def yJ9_max_7cf53 : MethodName := ⟨RJ9, "max", "(II)I"⟩
abbrev cJ9_min_7cf53 : ByteArray := prog_14_method_69_code
def yJ9_min_7cf53 : MethodName := ⟨RJ9, "min", "(II)I"⟩
def RJ10 : String := "java/lang/System"
def TJ10 : u_T := fun k => match k with
  | _ => ("", "", "", false)
def tyJ10 : Nat → FieldType := fun k => match k with
  | _ => .int
abbrev wsJ100 : List Cond := u_ws RJ10 TJ10 0
theorem nmJ10 : ∀ a, a < 0 → ∀ b, b < 0 → a ≠ b → (TJ10 a).2.1 ≠ (TJ10 b).2.1 := by decide +kernel
theorem tyJ10_ok : ∀ k, k < 0 → parseFieldDescriptor (TJ10 k).2.2.1 = some (tyJ10 k) := by decide +kernel
def RL : String := "RepairDutyLaw"
abbrev cL_law : ByteArray := code
def yL_law : MethodName := ⟨RL, "law", "([I)Z"⟩
theorem dX0_init_0 : decode cX0_init 0 = .ok (.aload_n 0, 1) := by decide +kernel
theorem dX0_init_1 : decode cX0_init 1 = .ok (.invokespecial 3, 3) := by decide +kernel
theorem dX0_init_4 : decode cX0_init 4 = .ok (.aload_n 0, 1) := by decide +kernel
theorem dX0_init_5 : decode cX0_init 5 = .ok (.new 9, 3) := by decide +kernel
theorem dX0_init_8 : decode cX0_init 8 = .ok (.dup, 1) := by decide +kernel
theorem dX0_init_9 : decode cX0_init 9 = .ok (.bipush 10, 2) := by decide +kernel
theorem dX0_init_11 : decode cX0_init 11 = .ok (.invokespecial 11, 3) := by decide +kernel
theorem dX0_init_14 : decode cX0_init 14 = .ok (.putfield 14, 3) := by decide +kernel
theorem dX0_init_17 : decode cX0_init 17 = .ok (.return_, 1) := by decide +kernel
theorem dX0_drawNext_0 : decode cX0_drawNext 0 = .ok (.aload_n 0, 1) := by decide +kernel
theorem dX0_drawNext_1 : decode cX0_drawNext 1 = .ok (.iload_n 1, 1) := by decide +kernel
theorem dX0_drawNext_2 : decode cX0_drawNext 2 = .ok (.iconst 1, 1) := by decide +kernel
theorem dX0_drawNext_3 : decode cX0_drawNext 3 = .ok (.iadd, 1) := by decide +kernel
theorem dX0_drawNext_4 : decode cX0_drawNext 4 = .ok (.putfield 20, 3) := by decide +kernel
theorem dX0_drawNext_7 : decode cX0_drawNext 7 = .ok (.aload_n 0, 1) := by decide +kernel
theorem dX0_drawNext_8 : decode cX0_drawNext 8 = .ok (.aload_n 0, 1) := by decide +kernel
theorem dX0_drawNext_9 : decode cX0_drawNext 9 = .ok (.getfield 20, 3) := by decide +kernel
theorem dX0_drawNext_12 : decode cX0_drawNext 12 = .ok (.putfield 24, 3) := by decide +kernel
theorem dX0_drawNext_15 : decode cX0_drawNext 15 = .ok (.iconst 0, 1) := by decide +kernel
theorem dX0_drawNext_16 : decode cX0_drawNext 16 = .ok (.istore 4, 2) := by decide +kernel
theorem dX0_drawNext_18 : decode cX0_drawNext 18 = .ok (.iload 4, 2) := by decide +kernel
theorem dX0_drawNext_20 : decode cX0_drawNext 20 = .ok (.aload_n 2, 1) := by decide +kernel
theorem dX0_drawNext_21 : decode cX0_drawNext 21 = .ok (.getfield 27, 3) := by decide +kernel
theorem dX0_drawNext_24 : decode cX0_drawNext 24 = .ok (.if_icmp .ge 39, 3) := by decide +kernel
theorem dX0_drawNext_27 : decode cX0_drawNext 27 = .ok (.iload_n 3, 1) := by decide +kernel
theorem dX0_drawNext_28 : decode cX0_drawNext 28 = .ok (.iload 4, 2) := by decide +kernel
theorem dX0_drawNext_30 : decode cX0_drawNext 30 = .ok (.invokestatic 32, 3) := by decide +kernel
theorem dX0_drawNext_33 : decode cX0_drawNext 33 = .ok (.ifCond .eq 24, 3) := by decide +kernel
theorem dX0_drawNext_36 : decode cX0_drawNext 36 = .ok (.aload_n 0, 1) := by decide +kernel
theorem dX0_drawNext_37 : decode cX0_drawNext 37 = .ok (.aload_n 0, 1) := by decide +kernel
theorem dX0_drawNext_38 : decode cX0_drawNext 38 = .ok (.getfield 24, 3) := by decide +kernel
theorem dX0_drawNext_41 : decode cX0_drawNext 41 = .ok (.aload_n 2, 1) := by decide +kernel
theorem dX0_drawNext_42 : decode cX0_drawNext 42 = .ok (.getfield 38, 3) := by decide +kernel
theorem dX0_drawNext_45 : decode cX0_drawNext 45 = .ok (.iload 4, 2) := by decide +kernel
theorem dX0_drawNext_47 : decode cX0_drawNext 47 = .ok (.invokevirtual 41, 3) := by decide +kernel
theorem dX0_drawNext_50 : decode cX0_drawNext 50 = .ok (.ixor, 1) := by decide +kernel
theorem dX0_drawNext_51 : decode cX0_drawNext 51 = .ok (.invokestatic 45, 3) := by decide +kernel
theorem dX0_drawNext_54 : decode cX0_drawNext 54 = .ok (.putfield 24, 3) := by decide +kernel
theorem dX0_drawNext_57 : decode cX0_drawNext 57 = .ok (.iinc 4 1, 3) := by decide +kernel
theorem dX0_drawNext_60 : decode cX0_drawNext 60 = .ok (.goto (-42), 3) := by decide +kernel
theorem dX0_drawNext_63 : decode cX0_drawNext 63 = .ok (.aload_n 0, 1) := by decide +kernel
theorem dX0_drawNext_64 : decode cX0_drawNext 64 = .ok (.aload_n 2, 1) := by decide +kernel
theorem dX0_drawNext_65 : decode cX0_drawNext 65 = .ok (.invokevirtual 48, 3) := by decide +kernel
theorem dX0_drawNext_68 : decode cX0_drawNext 68 = .ok (.return_, 1) := by decide +kernel
theorem dX0_drawList_0 : decode cX0_drawList 0 = .ok (.aload_n 0, 1) := by decide +kernel
theorem dX0_drawList_1 : decode cX0_drawList 1 = .ok (.getfield 24, 3) := by decide +kernel
theorem dX0_drawList_4 : decode cX0_drawList 4 = .ok (.istore_n 2, 1) := by decide +kernel
theorem dX0_drawList_5 : decode cX0_drawList 5 = .ok (.iconst 0, 1) := by decide +kernel
theorem dX0_drawList_6 : decode cX0_drawList 6 = .ok (.istore_n 3, 1) := by decide +kernel
theorem dX0_drawList_7 : decode cX0_drawList 7 = .ok (.iconst 0, 1) := by decide +kernel
theorem dX0_drawList_8 : decode cX0_drawList 8 = .ok (.istore 4, 2) := by decide +kernel
theorem dX0_drawList_10 : decode cX0_drawList 10 = .ok (.iload 4, 2) := by decide +kernel
theorem dX0_drawList_12 : decode cX0_drawList 12 = .ok (.aload_n 1, 1) := by decide +kernel
theorem dX0_drawList_13 : decode cX0_drawList 13 = .ok (.getfield 27, 3) := by decide +kernel
theorem dX0_drawList_16 : decode cX0_drawList 16 = .ok (.if_icmp .ge 52, 3) := by decide +kernel
theorem dX0_drawList_19 : decode cX0_drawList 19 = .ok (.iload_n 2, 1) := by decide +kernel
theorem dX0_drawList_20 : decode cX0_drawList 20 = .ok (.invokestatic 45, 3) := by decide +kernel
theorem dX0_drawList_23 : decode cX0_drawList 23 = .ok (.istore_n 2, 1) := by decide +kernel
theorem dX0_drawList_24 : decode cX0_drawList 24 = .ok (.iload_n 2, 1) := by decide +kernel
theorem dX0_drawList_25 : decode cX0_drawList 25 = .ok (.aload_n 1, 1) := by decide +kernel
theorem dX0_drawList_26 : decode cX0_drawList 26 = .ok (.iload_n 3, 1) := by decide +kernel
theorem dX0_drawList_27 : decode cX0_drawList 27 = .ok (.invokestatic 52, 3) := by decide +kernel
theorem dX0_drawList_30 : decode cX0_drawList 30 = .ok (.invokestatic 56, 3) := by decide +kernel
theorem dX0_drawList_33 : decode cX0_drawList 33 = .ok (.istore 5, 2) := by decide +kernel
theorem dX0_drawList_35 : decode cX0_drawList 35 = .ok (.aload_n 1, 1) := by decide +kernel
theorem dX0_drawList_36 : decode cX0_drawList 36 = .ok (.iload_n 3, 1) := by decide +kernel
theorem dX0_drawList_37 : decode cX0_drawList 37 = .ok (.iload 5, 2) := by decide +kernel
theorem dX0_drawList_39 : decode cX0_drawList 39 = .ok (.invokestatic 60, 3) := by decide +kernel
theorem dX0_drawList_42 : decode cX0_drawList 42 = .ok (.istore 6, 2) := by decide +kernel
theorem dX0_drawList_44 : decode cX0_drawList 44 = .ok (.aload_n 0, 1) := by decide +kernel
theorem dX0_drawList_45 : decode cX0_drawList 45 = .ok (.getfield 14, 3) := by decide +kernel
theorem dX0_drawList_48 : decode cX0_drawList 48 = .ok (.iload 4, 2) := by decide +kernel
theorem dX0_drawList_50 : decode cX0_drawList 50 = .ok (.iload 6, 2) := by decide +kernel
theorem dX0_drawList_52 : decode cX0_drawList 52 = .ok (.invokevirtual 64, 3) := by decide +kernel
theorem dX0_drawList_55 : decode cX0_drawList 55 = .ok (.iload_n 3, 1) := by decide +kernel
theorem dX0_drawList_56 : decode cX0_drawList 56 = .ok (.iconst 1, 1) := by decide +kernel
theorem dX0_drawList_57 : decode cX0_drawList 57 = .ok (.iload 6, 2) := by decide +kernel
theorem dX0_drawList_59 : decode cX0_drawList 59 = .ok (.ishl, 1) := by decide +kernel
theorem dX0_drawList_60 : decode cX0_drawList 60 = .ok (.ior, 1) := by decide +kernel
theorem dX0_drawList_61 : decode cX0_drawList 61 = .ok (.istore_n 3, 1) := by decide +kernel
theorem dX0_drawList_62 : decode cX0_drawList 62 = .ok (.iinc 4 1, 3) := by decide +kernel
theorem dX0_drawList_65 : decode cX0_drawList 65 = .ok (.goto (-55), 3) := by decide +kernel
theorem dX0_drawList_68 : decode cX0_drawList 68 = .ok (.aload_n 0, 1) := by decide +kernel
theorem dX0_drawList_69 : decode cX0_drawList 69 = .ok (.aload_n 1, 1) := by decide +kernel
theorem dX0_drawList_70 : decode cX0_drawList 70 = .ok (.getfield 27, 3) := by decide +kernel
theorem dX0_drawList_73 : decode cX0_drawList 73 = .ok (.putfield 68, 3) := by decide +kernel
theorem dX0_drawList_76 : decode cX0_drawList 76 = .ok (.return_, 1) := by decide +kernel
theorem dX0_weightOfOthers_0 : decode cX0_weightOfOthers 0 = .ok (.iconst 0, 1) := by decide +kernel
theorem dX0_weightOfOthers_1 : decode cX0_weightOfOthers 1 = .ok (.istore_n 2, 1) := by decide +kernel
theorem dX0_weightOfOthers_2 : decode cX0_weightOfOthers 2 = .ok (.iconst 0, 1) := by decide +kernel
theorem dX0_weightOfOthers_3 : decode cX0_weightOfOthers 3 = .ok (.istore_n 3, 1) := by decide +kernel
theorem dX0_weightOfOthers_4 : decode cX0_weightOfOthers 4 = .ok (.iload_n 3, 1) := by decide +kernel
theorem dX0_weightOfOthers_5 : decode cX0_weightOfOthers 5 = .ok (.aload_n 0, 1) := by decide +kernel
theorem dX0_weightOfOthers_6 : decode cX0_weightOfOthers 6 = .ok (.getfield 27, 3) := by decide +kernel
theorem dX0_weightOfOthers_9 : decode cX0_weightOfOthers 9 = .ok (.if_icmp .ge 28, 3) := by decide +kernel
theorem dX0_weightOfOthers_12 : decode cX0_weightOfOthers 12 = .ok (.iload_n 1, 1) := by decide +kernel
theorem dX0_weightOfOthers_13 : decode cX0_weightOfOthers 13 = .ok (.iload_n 3, 1) := by decide +kernel
theorem dX0_weightOfOthers_14 : decode cX0_weightOfOthers 14 = .ok (.invokestatic 32, 3) := by decide +kernel
theorem dX0_weightOfOthers_17 : decode cX0_weightOfOthers 17 = .ok (.ifCond .ne 14, 3) := by decide +kernel
theorem dX0_weightOfOthers_20 : decode cX0_weightOfOthers 20 = .ok (.iload_n 2, 1) := by decide +kernel
theorem dX0_weightOfOthers_21 : decode cX0_weightOfOthers 21 = .ok (.aload_n 0, 1) := by decide +kernel
theorem dX0_weightOfOthers_22 : decode cX0_weightOfOthers 22 = .ok (.getfield 71, 3) := by decide +kernel
theorem dX0_weightOfOthers_25 : decode cX0_weightOfOthers 25 = .ok (.iload_n 3, 1) := by decide +kernel
theorem dX0_weightOfOthers_26 : decode cX0_weightOfOthers 26 = .ok (.invokevirtual 41, 3) := by decide +kernel
theorem dX0_weightOfOthers_29 : decode cX0_weightOfOthers 29 = .ok (.iadd, 1) := by decide +kernel
theorem dX0_weightOfOthers_30 : decode cX0_weightOfOthers 30 = .ok (.istore_n 2, 1) := by decide +kernel
theorem dX0_weightOfOthers_31 : decode cX0_weightOfOthers 31 = .ok (.iinc 3 1, 3) := by decide +kernel
theorem dX0_weightOfOthers_34 : decode cX0_weightOfOthers 34 = .ok (.goto (-30), 3) := by decide +kernel
theorem dX0_weightOfOthers_37 : decode cX0_weightOfOthers 37 = .ok (.iload_n 2, 1) := by decide +kernel
theorem dX0_weightOfOthers_38 : decode cX0_weightOfOthers 38 = .ok (.ireturn, 1) := by decide +kernel
theorem dX0_memberOfLot_0 : decode cX0_memberOfLot 0 = .ok (.iconst 0, 1) := by decide +kernel
theorem dX0_memberOfLot_1 : decode cX0_memberOfLot 1 = .ok (.istore_n 3, 1) := by decide +kernel
theorem dX0_memberOfLot_2 : decode cX0_memberOfLot 2 = .ok (.iconst 0, 1) := by decide +kernel
theorem dX0_memberOfLot_3 : decode cX0_memberOfLot 3 = .ok (.istore 4, 2) := by decide +kernel
theorem dX0_memberOfLot_5 : decode cX0_memberOfLot 5 = .ok (.iload 4, 2) := by decide +kernel
theorem dX0_memberOfLot_7 : decode cX0_memberOfLot 7 = .ok (.aload_n 0, 1) := by decide +kernel
theorem dX0_memberOfLot_8 : decode cX0_memberOfLot 8 = .ok (.getfield 27, 3) := by decide +kernel
theorem dX0_memberOfLot_11 : decode cX0_memberOfLot 11 = .ok (.if_icmp .ge 38, 3) := by decide +kernel
theorem dX0_memberOfLot_14 : decode cX0_memberOfLot 14 = .ok (.iload_n 1, 1) := by decide +kernel
theorem dX0_memberOfLot_15 : decode cX0_memberOfLot 15 = .ok (.iload 4, 2) := by decide +kernel
theorem dX0_memberOfLot_17 : decode cX0_memberOfLot 17 = .ok (.invokestatic 32, 3) := by decide +kernel
theorem dX0_memberOfLot_20 : decode cX0_memberOfLot 20 = .ok (.ifCond .ne 23, 3) := by decide +kernel
theorem dX0_memberOfLot_23 : decode cX0_memberOfLot 23 = .ok (.iload_n 3, 1) := by decide +kernel
theorem dX0_memberOfLot_24 : decode cX0_memberOfLot 24 = .ok (.aload_n 0, 1) := by decide +kernel
theorem dX0_memberOfLot_25 : decode cX0_memberOfLot 25 = .ok (.getfield 71, 3) := by decide +kernel
theorem dX0_memberOfLot_28 : decode cX0_memberOfLot 28 = .ok (.iload 4, 2) := by decide +kernel
theorem dX0_memberOfLot_30 : decode cX0_memberOfLot 30 = .ok (.invokevirtual 41, 3) := by decide +kernel
theorem dX0_memberOfLot_33 : decode cX0_memberOfLot 33 = .ok (.iadd, 1) := by decide +kernel
theorem dX0_memberOfLot_34 : decode cX0_memberOfLot 34 = .ok (.istore_n 3, 1) := by decide +kernel
theorem dX0_memberOfLot_35 : decode cX0_memberOfLot 35 = .ok (.iload_n 3, 1) := by decide +kernel
theorem dX0_memberOfLot_36 : decode cX0_memberOfLot 36 = .ok (.iload_n 2, 1) := by decide +kernel
theorem dX0_memberOfLot_37 : decode cX0_memberOfLot 37 = .ok (.if_icmp .le 6, 3) := by decide +kernel
theorem dX0_memberOfLot_40 : decode cX0_memberOfLot 40 = .ok (.iload 4, 2) := by decide +kernel
theorem dX0_memberOfLot_42 : decode cX0_memberOfLot 42 = .ok (.ireturn, 1) := by decide +kernel
theorem dX0_memberOfLot_43 : decode cX0_memberOfLot 43 = .ok (.iinc 4 1, 3) := by decide +kernel
theorem dX0_memberOfLot_46 : decode cX0_memberOfLot 46 = .ok (.goto (-41), 3) := by decide +kernel
theorem dX0_memberOfLot_49 : decode cX0_memberOfLot 49 = .ok (.iconst 0, 1) := by decide +kernel
theorem dX0_memberOfLot_50 : decode cX0_memberOfLot 50 = .ok (.ireturn, 1) := by decide +kernel
theorem dX0_memberAt_0 : decode cX0_memberAt 0 = .ok (.iload_n 1, 1) := by decide +kernel
theorem dX0_memberAt_1 : decode cX0_memberAt 1 = .ok (.ifCond .lt 22, 3) := by decide +kernel
theorem dX0_memberAt_4 : decode cX0_memberAt 4 = .ok (.iload_n 1, 1) := by decide +kernel
theorem dX0_memberAt_5 : decode cX0_memberAt 5 = .ok (.aload_n 0, 1) := by decide +kernel
theorem dX0_memberAt_6 : decode cX0_memberAt 6 = .ok (.getfield 68, 3) := by decide +kernel
theorem dX0_memberAt_9 : decode cX0_memberAt 9 = .ok (.if_icmp .ge 14, 3) := by decide +kernel
theorem dX0_memberAt_12 : decode cX0_memberAt 12 = .ok (.aload_n 0, 1) := by decide +kernel
theorem dX0_memberAt_13 : decode cX0_memberAt 13 = .ok (.getfield 14, 3) := by decide +kernel
theorem dX0_memberAt_16 : decode cX0_memberAt 16 = .ok (.iload_n 1, 1) := by decide +kernel
theorem dX0_memberAt_17 : decode cX0_memberAt 17 = .ok (.invokevirtual 41, 3) := by decide +kernel
theorem dX0_memberAt_20 : decode cX0_memberAt 20 = .ok (.goto 5, 3) := by decide +kernel
theorem dX0_memberAt_23 : decode cX0_memberAt 23 = .ok (.ldc 74, 2) := by decide +kernel
theorem dX0_memberAt_25 : decode cX0_memberAt 25 = .ok (.ireturn, 1) := by decide +kernel
theorem dX0_rankOf_0 : decode cX0_rankOf 0 = .ok (.iconst 0, 1) := by decide +kernel
theorem dX0_rankOf_1 : decode cX0_rankOf 1 = .ok (.istore_n 2, 1) := by decide +kernel
theorem dX0_rankOf_2 : decode cX0_rankOf 2 = .ok (.iload_n 2, 1) := by decide +kernel
theorem dX0_rankOf_3 : decode cX0_rankOf 3 = .ok (.aload_n 0, 1) := by decide +kernel
theorem dX0_rankOf_4 : decode cX0_rankOf 4 = .ok (.getfield 68, 3) := by decide +kernel
theorem dX0_rankOf_7 : decode cX0_rankOf 7 = .ok (.if_icmp .ge 23, 3) := by decide +kernel
theorem dX0_rankOf_10 : decode cX0_rankOf 10 = .ok (.aload_n 0, 1) := by decide +kernel
theorem dX0_rankOf_11 : decode cX0_rankOf 11 = .ok (.getfield 14, 3) := by decide +kernel
theorem dX0_rankOf_14 : decode cX0_rankOf 14 = .ok (.iload_n 2, 1) := by decide +kernel
theorem dX0_rankOf_15 : decode cX0_rankOf 15 = .ok (.invokevirtual 41, 3) := by decide +kernel
theorem dX0_rankOf_18 : decode cX0_rankOf 18 = .ok (.iload_n 1, 1) := by decide +kernel
theorem dX0_rankOf_19 : decode cX0_rankOf 19 = .ok (.if_icmp .ne 5, 3) := by decide +kernel
theorem dX0_rankOf_22 : decode cX0_rankOf 22 = .ok (.iload_n 2, 1) := by decide +kernel
theorem dX0_rankOf_23 : decode cX0_rankOf 23 = .ok (.ireturn, 1) := by decide +kernel
theorem dX0_rankOf_24 : decode cX0_rankOf 24 = .ok (.iinc 2 1, 3) := by decide +kernel
theorem dX0_rankOf_27 : decode cX0_rankOf 27 = .ok (.goto (-25), 3) := by decide +kernel
theorem dX0_rankOf_30 : decode cX0_rankOf 30 = .ok (.ldc 74, 2) := by decide +kernel
theorem dX0_rankOf_32 : decode cX0_rankOf 32 = .ok (.ireturn, 1) := by decide +kernel
theorem dX0_copy_0 : decode cX0_copy 0 = .ok (.aload_n 0, 1) := by decide +kernel
theorem dX0_copy_1 : decode cX0_copy 1 = .ok (.aload_n 1, 1) := by decide +kernel
theorem dX0_copy_2 : decode cX0_copy 2 = .ok (.getfield 20, 3) := by decide +kernel
theorem dX0_copy_5 : decode cX0_copy 5 = .ok (.putfield 20, 3) := by decide +kernel
theorem dX0_copy_8 : decode cX0_copy 8 = .ok (.aload_n 0, 1) := by decide +kernel
theorem dX0_copy_9 : decode cX0_copy 9 = .ok (.aload_n 1, 1) := by decide +kernel
theorem dX0_copy_10 : decode cX0_copy 10 = .ok (.getfield 24, 3) := by decide +kernel
theorem dX0_copy_13 : decode cX0_copy 13 = .ok (.putfield 24, 3) := by decide +kernel
theorem dX0_copy_16 : decode cX0_copy 16 = .ok (.aload_n 0, 1) := by decide +kernel
theorem dX0_copy_17 : decode cX0_copy 17 = .ok (.aload_n 1, 1) := by decide +kernel
theorem dX0_copy_18 : decode cX0_copy 18 = .ok (.getfield 68, 3) := by decide +kernel
theorem dX0_copy_21 : decode cX0_copy 21 = .ok (.putfield 68, 3) := by decide +kernel
theorem dX0_copy_24 : decode cX0_copy 24 = .ok (.aload_n 0, 1) := by decide +kernel
theorem dX0_copy_25 : decode cX0_copy 25 = .ok (.getfield 14, 3) := by decide +kernel
theorem dX0_copy_28 : decode cX0_copy 28 = .ok (.aload_n 1, 1) := by decide +kernel
theorem dX0_copy_29 : decode cX0_copy 29 = .ok (.getfield 14, 3) := by decide +kernel
theorem dX0_copy_32 : decode cX0_copy 32 = .ok (.invokevirtual 75, 3) := by decide +kernel
theorem dX0_copy_35 : decode cX0_copy 35 = .ok (.return_, 1) := by decide +kernel
theorem dX1_init_0 : decode cX1_init 0 = .ok (.aload_n 0, 1) := by decide +kernel
theorem dX1_init_1 : decode cX1_init 1 = .ok (.invokespecial 3, 3) := by decide +kernel
theorem dX1_init_4 : decode cX1_init 4 = .ok (.aload_n 0, 1) := by decide +kernel
theorem dX1_init_5 : decode cX1_init 5 = .ok (.iconst 4, 1) := by decide +kernel
theorem dX1_init_6 : decode cX1_init 6 = .ok (.anewarray 9, 3) := by decide +kernel
theorem dX1_init_9 : decode cX1_init 9 = .ok (.putfield 11, 3) := by decide +kernel
theorem dX1_init_12 : decode cX1_init 12 = .ok (.iconst 0, 1) := by decide +kernel
theorem dX1_init_13 : decode cX1_init 13 = .ok (.istore_n 1, 1) := by decide +kernel
theorem dX1_init_14 : decode cX1_init 14 = .ok (.iload_n 1, 1) := by decide +kernel
theorem dX1_init_15 : decode cX1_init 15 = .ok (.aload_n 0, 1) := by decide +kernel
theorem dX1_init_16 : decode cX1_init 16 = .ok (.getfield 11, 3) := by decide +kernel
theorem dX1_init_19 : decode cX1_init 19 = .ok (.arraylength, 1) := by decide +kernel
theorem dX1_init_20 : decode cX1_init 20 = .ok (.if_icmp .ge 22, 3) := by decide +kernel
theorem dX1_init_23 : decode cX1_init 23 = .ok (.aload_n 0, 1) := by decide +kernel
theorem dX1_init_24 : decode cX1_init 24 = .ok (.getfield 11, 3) := by decide +kernel
theorem dX1_init_27 : decode cX1_init 27 = .ok (.iload_n 1, 1) := by decide +kernel
theorem dX1_init_28 : decode cX1_init 28 = .ok (.new 9, 3) := by decide +kernel
theorem dX1_init_31 : decode cX1_init 31 = .ok (.dup, 1) := by decide +kernel
theorem dX1_init_32 : decode cX1_init 32 = .ok (.invokespecial 17, 3) := by decide +kernel
theorem dX1_init_35 : decode cX1_init 35 = .ok (.aastore, 1) := by decide +kernel
theorem dX1_init_36 : decode cX1_init 36 = .ok (.iinc 1 1, 3) := by decide +kernel
theorem dX1_init_39 : decode cX1_init 39 = .ok (.goto (-25), 3) := by decide +kernel
theorem dX1_init_42 : decode cX1_init 42 = .ok (.return_, 1) := by decide +kernel
theorem dX1_keep_0 : decode cX1_keep 0 = .ok (.aload_n 0, 1) := by decide +kernel
theorem dX1_keep_1 : decode cX1_keep 1 = .ok (.aload_n 0, 1) := by decide +kernel
theorem dX1_keep_2 : decode cX1_keep 2 = .ok (.getfield 18, 3) := by decide +kernel
theorem dX1_keep_5 : decode cX1_keep 5 = .ok (.invokevirtual 22, 3) := by decide +kernel
theorem dX1_keep_8 : decode cX1_keep 8 = .ok (.astore_n 2, 1) := by decide +kernel
theorem dX1_keep_9 : decode cX1_keep 9 = .ok (.aload_n 2, 1) := by decide +kernel
theorem dX1_keep_10 : decode cX1_keep 10 = .ok (.ifnull 8, 3) := by decide +kernel
theorem dX1_keep_13 : decode cX1_keep 13 = .ok (.aload_n 2, 1) := by decide +kernel
theorem dX1_keep_14 : decode cX1_keep 14 = .ok (.aload_n 1, 1) := by decide +kernel
theorem dX1_keep_15 : decode cX1_keep 15 = .ok (.invokevirtual 26, 3) := by decide +kernel
theorem dX1_keep_18 : decode cX1_keep 18 = .ok (.aload_n 0, 1) := by decide +kernel
theorem dX1_keep_19 : decode cX1_keep 19 = .ok (.getfield 18, 3) := by decide +kernel
theorem dX1_keep_22 : decode cX1_keep 22 = .ok (.iconst 4, 1) := by decide +kernel
theorem dX1_keep_23 : decode cX1_keep 23 = .ok (.if_icmp .ge 16, 3) := by decide +kernel
theorem dX1_keep_26 : decode cX1_keep 26 = .ok (.aload_n 0, 1) := by decide +kernel
theorem dX1_keep_27 : decode cX1_keep 27 = .ok (.dup, 1) := by decide +kernel
theorem dX1_keep_28 : decode cX1_keep 28 = .ok (.getfield 18, 3) := by decide +kernel
theorem dX1_keep_31 : decode cX1_keep 31 = .ok (.iconst 1, 1) := by decide +kernel
theorem dX1_keep_32 : decode cX1_keep 32 = .ok (.iadd, 1) := by decide +kernel
theorem dX1_keep_33 : decode cX1_keep 33 = .ok (.putfield 18, 3) := by decide +kernel
theorem dX1_keep_36 : decode cX1_keep 36 = .ok (.goto 15, 3) := by decide +kernel
theorem dX1_keep_39 : decode cX1_keep 39 = .ok (.aload_n 0, 1) := by decide +kernel
theorem dX1_keep_40 : decode cX1_keep 40 = .ok (.aload_n 0, 1) := by decide +kernel
theorem dX1_keep_41 : decode cX1_keep 41 = .ok (.getfield 30, 3) := by decide +kernel
theorem dX1_keep_44 : decode cX1_keep 44 = .ok (.iconst 1, 1) := by decide +kernel
theorem dX1_keep_45 : decode cX1_keep 45 = .ok (.iadd, 1) := by decide +kernel
theorem dX1_keep_46 : decode cX1_keep 46 = .ok (.iconst 4, 1) := by decide +kernel
theorem dX1_keep_47 : decode cX1_keep 47 = .ok (.irem, 1) := by decide +kernel
theorem dX1_keep_48 : decode cX1_keep 48 = .ok (.putfield 30, 3) := by decide +kernel
theorem dX1_keep_51 : decode cX1_keep 51 = .ok (.return_, 1) := by decide +kernel
theorem dX1_giveBack_0 : decode cX1_giveBack 0 = .ok (.aload_n 0, 1) := by decide +kernel
theorem dX1_giveBack_1 : decode cX1_giveBack 1 = .ok (.aload_n 0, 1) := by decide +kernel
theorem dX1_giveBack_2 : decode cX1_giveBack 2 = .ok (.getfield 18, 3) := by decide +kernel
theorem dX1_giveBack_5 : decode cX1_giveBack 5 = .ok (.iconst 1, 1) := by decide +kernel
theorem dX1_giveBack_6 : decode cX1_giveBack 6 = .ok (.isub, 1) := by decide +kernel
theorem dX1_giveBack_7 : decode cX1_giveBack 7 = .ok (.invokevirtual 22, 3) := by decide +kernel
theorem dX1_giveBack_10 : decode cX1_giveBack 10 = .ok (.astore_n 2, 1) := by decide +kernel
theorem dX1_giveBack_11 : decode cX1_giveBack 11 = .ok (.aload_n 2, 1) := by decide +kernel
theorem dX1_giveBack_12 : decode cX1_giveBack 12 = .ok (.ifnull 18, 3) := by decide +kernel
theorem dX1_giveBack_15 : decode cX1_giveBack 15 = .ok (.aload_n 1, 1) := by decide +kernel
theorem dX1_giveBack_16 : decode cX1_giveBack 16 = .ok (.aload_n 2, 1) := by decide +kernel
theorem dX1_giveBack_17 : decode cX1_giveBack 17 = .ok (.invokevirtual 26, 3) := by decide +kernel
theorem dX1_giveBack_20 : decode cX1_giveBack 20 = .ok (.aload_n 0, 1) := by decide +kernel
theorem dX1_giveBack_21 : decode cX1_giveBack 21 = .ok (.dup, 1) := by decide +kernel
theorem dX1_giveBack_22 : decode cX1_giveBack 22 = .ok (.getfield 18, 3) := by decide +kernel
theorem dX1_giveBack_25 : decode cX1_giveBack 25 = .ok (.iconst 1, 1) := by decide +kernel
theorem dX1_giveBack_26 : decode cX1_giveBack 26 = .ok (.isub, 1) := by decide +kernel
theorem dX1_giveBack_27 : decode cX1_giveBack 27 = .ok (.putfield 18, 3) := by decide +kernel
theorem dX1_giveBack_30 : decode cX1_giveBack 30 = .ok (.return_, 1) := by decide +kernel
theorem dX1_stateAt_0 : decode cX1_stateAt 0 = .ok (.aload_n 0, 1) := by decide +kernel
theorem dX1_stateAt_1 : decode cX1_stateAt 1 = .ok (.getfield 30, 3) := by decide +kernel
theorem dX1_stateAt_4 : decode cX1_stateAt 4 = .ok (.iload_n 1, 1) := by decide +kernel
theorem dX1_stateAt_5 : decode cX1_stateAt 5 = .ok (.iadd, 1) := by decide +kernel
theorem dX1_stateAt_6 : decode cX1_stateAt 6 = .ok (.iconst 4, 1) := by decide +kernel
theorem dX1_stateAt_7 : decode cX1_stateAt 7 = .ok (.irem, 1) := by decide +kernel
theorem dX1_stateAt_8 : decode cX1_stateAt 8 = .ok (.istore_n 2, 1) := by decide +kernel
theorem dX1_stateAt_9 : decode cX1_stateAt 9 = .ok (.iload_n 2, 1) := by decide +kernel
theorem dX1_stateAt_10 : decode cX1_stateAt 10 = .ok (.ifCond .lt 21, 3) := by decide +kernel
theorem dX1_stateAt_13 : decode cX1_stateAt 13 = .ok (.iload_n 2, 1) := by decide +kernel
theorem dX1_stateAt_14 : decode cX1_stateAt 14 = .ok (.aload_n 0, 1) := by decide +kernel
theorem dX1_stateAt_15 : decode cX1_stateAt 15 = .ok (.getfield 11, 3) := by decide +kernel
theorem dX1_stateAt_18 : decode cX1_stateAt 18 = .ok (.arraylength, 1) := by decide +kernel
theorem dX1_stateAt_19 : decode cX1_stateAt 19 = .ok (.if_icmp .ge 12, 3) := by decide +kernel
theorem dX1_stateAt_22 : decode cX1_stateAt 22 = .ok (.aload_n 0, 1) := by decide +kernel
theorem dX1_stateAt_23 : decode cX1_stateAt 23 = .ok (.getfield 11, 3) := by decide +kernel
theorem dX1_stateAt_26 : decode cX1_stateAt 26 = .ok (.iload_n 2, 1) := by decide +kernel
theorem dX1_stateAt_27 : decode cX1_stateAt 27 = .ok (.aaload, 1) := by decide +kernel
theorem dX1_stateAt_28 : decode cX1_stateAt 28 = .ok (.goto 4, 3) := by decide +kernel
theorem dX1_stateAt_31 : decode cX1_stateAt 31 = .ok (.aconst_null, 1) := by decide +kernel
theorem dX1_stateAt_32 : decode cX1_stateAt 32 = .ok (.areturn, 1) := by decide +kernel
theorem dX2_init_0 : decode cX2_init 0 = .ok (.aload_n 0, 1) := by decide +kernel
theorem dX2_init_1 : decode cX2_init 1 = .ok (.invokespecial 3, 3) := by decide +kernel
theorem dX2_init_4 : decode cX2_init 4 = .ok (.aload_n 0, 1) := by decide +kernel
theorem dX2_init_5 : decode cX2_init 5 = .ok (.new 9, 3) := by decide +kernel
theorem dX2_init_8 : decode cX2_init 8 = .ok (.dup, 1) := by decide +kernel
theorem dX2_init_9 : decode cX2_init 9 = .ok (.sipush 140, 3) := by decide +kernel
theorem dX2_init_12 : decode cX2_init 12 = .ok (.invokespecial 11, 3) := by decide +kernel
theorem dX2_init_15 : decode cX2_init 15 = .ok (.putfield 14, 3) := by decide +kernel
theorem dX2_init_18 : decode cX2_init 18 = .ok (.return_, 1) := by decide +kernel
theorem dX2_add_0 : decode cX2_add 0 = .ok (.aload_n 0, 1) := by decide +kernel
theorem dX2_add_1 : decode cX2_add 1 = .ok (.getfield 20, 3) := by decide +kernel
theorem dX2_add_4 : decode cX2_add 4 = .ok (.bipush 20, 2) := by decide +kernel
theorem dX2_add_6 : decode cX2_add 6 = .ok (.irem, 1) := by decide +kernel
theorem dX2_add_7 : decode cX2_add 7 = .ok (.bipush 7, 2) := by decide +kernel
theorem dX2_add_9 : decode cX2_add 9 = .ok (.imul, 1) := by decide +kernel
theorem dX2_add_10 : decode cX2_add 10 = .ok (.istore_n 3, 1) := by decide +kernel
theorem dX2_add_11 : decode cX2_add 11 = .ok (.aload_n 0, 1) := by decide +kernel
theorem dX2_add_12 : decode cX2_add 12 = .ok (.getfield 14, 3) := by decide +kernel
theorem dX2_add_15 : decode cX2_add 15 = .ok (.iload_n 3, 1) := by decide +kernel
theorem dX2_add_16 : decode cX2_add 16 = .ok (.aload_n 1, 1) := by decide +kernel
theorem dX2_add_17 : decode cX2_add 17 = .ok (.getfield 24, 3) := by decide +kernel
theorem dX2_add_20 : decode cX2_add 20 = .ok (.invokevirtual 29, 3) := by decide +kernel
theorem dX2_add_23 : decode cX2_add 23 = .ok (.aload_n 0, 1) := by decide +kernel
theorem dX2_add_24 : decode cX2_add 24 = .ok (.getfield 14, 3) := by decide +kernel
theorem dX2_add_27 : decode cX2_add 27 = .ok (.iload_n 3, 1) := by decide +kernel
theorem dX2_add_28 : decode cX2_add 28 = .ok (.iconst 1, 1) := by decide +kernel
theorem dX2_add_29 : decode cX2_add 29 = .ok (.iadd, 1) := by decide +kernel
theorem dX2_add_30 : decode cX2_add 30 = .ok (.iload_n 2, 1) := by decide +kernel
theorem dX2_add_31 : decode cX2_add 31 = .ok (.invokevirtual 29, 3) := by decide +kernel
theorem dX2_add_34 : decode cX2_add 34 = .ok (.aload_n 0, 1) := by decide +kernel
theorem dX2_add_35 : decode cX2_add 35 = .ok (.getfield 14, 3) := by decide +kernel
theorem dX2_add_38 : decode cX2_add 38 = .ok (.iload_n 3, 1) := by decide +kernel
theorem dX2_add_39 : decode cX2_add 39 = .ok (.iconst 2, 1) := by decide +kernel
theorem dX2_add_40 : decode cX2_add 40 = .ok (.iadd, 1) := by decide +kernel
theorem dX2_add_41 : decode cX2_add 41 = .ok (.aload_n 1, 1) := by decide +kernel
theorem dX2_add_42 : decode cX2_add 42 = .ok (.getfield 33, 3) := by decide +kernel
theorem dX2_add_45 : decode cX2_add 45 = .ok (.invokevirtual 29, 3) := by decide +kernel
theorem dX2_add_48 : decode cX2_add 48 = .ok (.aload_n 0, 1) := by decide +kernel
theorem dX2_add_49 : decode cX2_add 49 = .ok (.getfield 14, 3) := by decide +kernel
theorem dX2_add_52 : decode cX2_add 52 = .ok (.iload_n 3, 1) := by decide +kernel
theorem dX2_add_53 : decode cX2_add 53 = .ok (.iconst 3, 1) := by decide +kernel
theorem dX2_add_54 : decode cX2_add 54 = .ok (.iadd, 1) := by decide +kernel
theorem dX2_add_55 : decode cX2_add 55 = .ok (.aload_n 1, 1) := by decide +kernel
theorem dX2_add_56 : decode cX2_add 56 = .ok (.getfield 36, 3) := by decide +kernel
theorem dX2_add_59 : decode cX2_add 59 = .ok (.invokevirtual 29, 3) := by decide +kernel
theorem dX2_add_62 : decode cX2_add 62 = .ok (.aload_n 0, 1) := by decide +kernel
theorem dX2_add_63 : decode cX2_add 63 = .ok (.getfield 14, 3) := by decide +kernel
theorem dX2_add_66 : decode cX2_add 66 = .ok (.iload_n 3, 1) := by decide +kernel
theorem dX2_add_67 : decode cX2_add 67 = .ok (.iconst 4, 1) := by decide +kernel
theorem dX2_add_68 : decode cX2_add 68 = .ok (.iadd, 1) := by decide +kernel
theorem dX2_add_69 : decode cX2_add 69 = .ok (.aload_n 1, 1) := by decide +kernel
theorem dX2_add_70 : decode cX2_add 70 = .ok (.getfield 39, 3) := by decide +kernel
theorem dX2_add_73 : decode cX2_add 73 = .ok (.invokevirtual 29, 3) := by decide +kernel
theorem dX2_add_76 : decode cX2_add 76 = .ok (.aload_n 0, 1) := by decide +kernel
theorem dX2_add_77 : decode cX2_add 77 = .ok (.getfield 14, 3) := by decide +kernel
theorem dX2_add_80 : decode cX2_add 80 = .ok (.iload_n 3, 1) := by decide +kernel
theorem dX2_add_81 : decode cX2_add 81 = .ok (.iconst 5, 1) := by decide +kernel
theorem dX2_add_82 : decode cX2_add 82 = .ok (.iadd, 1) := by decide +kernel
theorem dX2_add_83 : decode cX2_add 83 = .ok (.aload_n 1, 1) := by decide +kernel
theorem dX2_add_84 : decode cX2_add 84 = .ok (.getfield 42, 3) := by decide +kernel
theorem dX2_add_87 : decode cX2_add 87 = .ok (.invokevirtual 29, 3) := by decide +kernel
theorem dX2_add_90 : decode cX2_add 90 = .ok (.aload_n 0, 1) := by decide +kernel
theorem dX2_add_91 : decode cX2_add 91 = .ok (.getfield 14, 3) := by decide +kernel
theorem dX2_add_94 : decode cX2_add 94 = .ok (.iload_n 3, 1) := by decide +kernel
theorem dX2_add_95 : decode cX2_add 95 = .ok (.bipush 6, 2) := by decide +kernel
theorem dX2_add_97 : decode cX2_add 97 = .ok (.iadd, 1) := by decide +kernel
theorem dX2_add_98 : decode cX2_add 98 = .ok (.aload_n 1, 1) := by decide +kernel
theorem dX2_add_99 : decode cX2_add 99 = .ok (.getfield 45, 3) := by decide +kernel
theorem dX2_add_102 : decode cX2_add 102 = .ok (.invokevirtual 29, 3) := by decide +kernel
theorem dX2_add_105 : decode cX2_add 105 = .ok (.aload_n 0, 1) := by decide +kernel
theorem dX2_add_106 : decode cX2_add 106 = .ok (.dup, 1) := by decide +kernel
theorem dX2_add_107 : decode cX2_add 107 = .ok (.getfield 20, 3) := by decide +kernel
theorem dX2_add_110 : decode cX2_add 110 = .ok (.iconst 1, 1) := by decide +kernel
theorem dX2_add_111 : decode cX2_add 111 = .ok (.iadd, 1) := by decide +kernel
theorem dX2_add_112 : decode cX2_add 112 = .ok (.putfield 20, 3) := by decide +kernel
theorem dX2_add_115 : decode cX2_add 115 = .ok (.aload_n 0, 1) := by decide +kernel
theorem dX2_add_116 : decode cX2_add 116 = .ok (.dup, 1) := by decide +kernel
theorem dX2_add_117 : decode cX2_add 117 = .ok (.getfield 48, 3) := by decide +kernel
theorem dX2_add_120 : decode cX2_add 120 = .ok (.aload_n 1, 1) := by decide +kernel
theorem dX2_add_121 : decode cX2_add 121 = .ok (.getfield 36, 3) := by decide +kernel
theorem dX2_add_124 : decode cX2_add 124 = .ok (.invokestatic 51, 3) := by decide +kernel
theorem dX2_add_127 : decode cX2_add 127 = .ok (.iadd, 1) := by decide +kernel
theorem dX2_add_128 : decode cX2_add 128 = .ok (.putfield 48, 3) := by decide +kernel
theorem dX2_add_131 : decode cX2_add 131 = .ok (.aload_n 0, 1) := by decide +kernel
theorem dX2_add_132 : decode cX2_add 132 = .ok (.dup, 1) := by decide +kernel
theorem dX2_add_133 : decode cX2_add 133 = .ok (.getfield 57, 3) := by decide +kernel
theorem dX2_add_136 : decode cX2_add 136 = .ok (.aload_n 1, 1) := by decide +kernel
theorem dX2_add_137 : decode cX2_add 137 = .ok (.getfield 39, 3) := by decide +kernel
theorem dX2_add_140 : decode cX2_add 140 = .ok (.invokestatic 51, 3) := by decide +kernel
theorem dX2_add_143 : decode cX2_add 143 = .ok (.iadd, 1) := by decide +kernel
theorem dX2_add_144 : decode cX2_add 144 = .ok (.putfield 57, 3) := by decide +kernel
theorem dX2_add_147 : decode cX2_add 147 = .ok (.return_, 1) := by decide +kernel
theorem dX2_kept_0 : decode cX2_kept 0 = .ok (.aload_n 0, 1) := by decide +kernel
theorem dX2_kept_1 : decode cX2_kept 1 = .ok (.getfield 20, 3) := by decide +kernel
theorem dX2_kept_4 : decode cX2_kept 4 = .ok (.bipush 20, 2) := by decide +kernel
theorem dX2_kept_6 : decode cX2_kept 6 = .ok (.invokestatic 58, 3) := by decide +kernel
theorem dX2_kept_9 : decode cX2_kept 9 = .ok (.ireturn, 1) := by decide +kernel
theorem dX2_number_0 : decode cX2_number 0 = .ok (.iload_n 1, 1) := by decide +kernel
theorem dX2_number_1 : decode cX2_number 1 = .ok (.aload_n 0, 1) := by decide +kernel
theorem dX2_number_2 : decode cX2_number 2 = .ok (.invokevirtual 64, 3) := by decide +kernel
theorem dX2_number_5 : decode cX2_number 5 = .ok (.if_icmp .lt 6, 3) := by decide +kernel
theorem dX2_number_8 : decode cX2_number 8 = .ok (.ldc 68, 2) := by decide +kernel
theorem dX2_number_10 : decode cX2_number 10 = .ok (.ireturn, 1) := by decide +kernel
theorem dX2_number_11 : decode cX2_number 11 = .ok (.aload_n 0, 1) := by decide +kernel
theorem dX2_number_12 : decode cX2_number 12 = .ok (.getfield 14, 3) := by decide +kernel
theorem dX2_number_15 : decode cX2_number 15 = .ok (.aload_n 0, 1) := by decide +kernel
theorem dX2_number_16 : decode cX2_number 16 = .ok (.getfield 20, 3) := by decide +kernel
theorem dX2_number_19 : decode cX2_number 19 = .ok (.iconst 1, 1) := by decide +kernel
theorem dX2_number_20 : decode cX2_number 20 = .ok (.isub, 1) := by decide +kernel
theorem dX2_number_21 : decode cX2_number 21 = .ok (.iload_n 1, 1) := by decide +kernel
theorem dX2_number_22 : decode cX2_number 22 = .ok (.isub, 1) := by decide +kernel
theorem dX2_number_23 : decode cX2_number 23 = .ok (.bipush 20, 2) := by decide +kernel
theorem dX2_number_25 : decode cX2_number 25 = .ok (.irem, 1) := by decide +kernel
theorem dX2_number_26 : decode cX2_number 26 = .ok (.bipush 7, 2) := by decide +kernel
theorem dX2_number_28 : decode cX2_number 28 = .ok (.imul, 1) := by decide +kernel
theorem dX2_number_29 : decode cX2_number 29 = .ok (.iload_n 2, 1) := by decide +kernel
theorem dX2_number_30 : decode cX2_number 30 = .ok (.iadd, 1) := by decide +kernel
theorem dX2_number_31 : decode cX2_number 31 = .ok (.invokevirtual 69, 3) := by decide +kernel
theorem dX2_number_34 : decode cX2_number 34 = .ok (.ireturn, 1) := by decide +kernel
theorem dX2_copy_0 : decode cX2_copy 0 = .ok (.aload_n 0, 1) := by decide +kernel
theorem dX2_copy_1 : decode cX2_copy 1 = .ok (.aload_n 1, 1) := by decide +kernel
theorem dX2_copy_2 : decode cX2_copy 2 = .ok (.getfield 20, 3) := by decide +kernel
theorem dX2_copy_5 : decode cX2_copy 5 = .ok (.putfield 20, 3) := by decide +kernel
theorem dX2_copy_8 : decode cX2_copy 8 = .ok (.aload_n 0, 1) := by decide +kernel
theorem dX2_copy_9 : decode cX2_copy 9 = .ok (.aload_n 1, 1) := by decide +kernel
theorem dX2_copy_10 : decode cX2_copy 10 = .ok (.getfield 48, 3) := by decide +kernel
theorem dX2_copy_13 : decode cX2_copy 13 = .ok (.putfield 48, 3) := by decide +kernel
theorem dX2_copy_16 : decode cX2_copy 16 = .ok (.aload_n 0, 1) := by decide +kernel
theorem dX2_copy_17 : decode cX2_copy 17 = .ok (.aload_n 1, 1) := by decide +kernel
theorem dX2_copy_18 : decode cX2_copy 18 = .ok (.getfield 57, 3) := by decide +kernel
theorem dX2_copy_21 : decode cX2_copy 21 = .ok (.putfield 57, 3) := by decide +kernel
theorem dX2_copy_24 : decode cX2_copy 24 = .ok (.aload_n 0, 1) := by decide +kernel
theorem dX2_copy_25 : decode cX2_copy 25 = .ok (.getfield 14, 3) := by decide +kernel
theorem dX2_copy_28 : decode cX2_copy 28 = .ok (.aload_n 1, 1) := by decide +kernel
theorem dX2_copy_29 : decode cX2_copy 29 = .ok (.getfield 14, 3) := by decide +kernel
theorem dX2_copy_32 : decode cX2_copy 32 = .ok (.invokevirtual 72, 3) := by decide +kernel
theorem dX2_copy_35 : decode cX2_copy 35 = .ok (.return_, 1) := by decide +kernel
theorem dX3_init_0 : decode cX3_init 0 = .ok (.aload_n 0, 1) := by decide +kernel
theorem dX3_init_1 : decode cX3_init 1 = .ok (.invokespecial 3, 3) := by decide +kernel
theorem dX3_init_4 : decode cX3_init 4 = .ok (.aload_n 0, 1) := by decide +kernel
theorem dX3_init_5 : decode cX3_init 5 = .ok (.new 9, 3) := by decide +kernel
theorem dX3_init_8 : decode cX3_init 8 = .ok (.dup, 1) := by decide +kernel
theorem dX3_init_9 : decode cX3_init 9 = .ok (.bipush 10, 2) := by decide +kernel
theorem dX3_init_11 : decode cX3_init 11 = .ok (.invokespecial 11, 3) := by decide +kernel
theorem dX3_init_14 : decode cX3_init 14 = .ok (.putfield 14, 3) := by decide +kernel
theorem dX3_init_17 : decode cX3_init 17 = .ok (.aload_n 0, 1) := by decide +kernel
theorem dX3_init_18 : decode cX3_init 18 = .ok (.new 9, 3) := by decide +kernel
theorem dX3_init_21 : decode cX3_init 21 = .ok (.dup, 1) := by decide +kernel
theorem dX3_init_22 : decode cX3_init 22 = .ok (.bipush 10, 2) := by decide +kernel
theorem dX3_init_24 : decode cX3_init 24 = .ok (.invokespecial 11, 3) := by decide +kernel
theorem dX3_init_27 : decode cX3_init 27 = .ok (.putfield 20, 3) := by decide +kernel
theorem dX3_init_30 : decode cX3_init 30 = .ok (.aload_n 0, 1) := by decide +kernel
theorem dX3_init_31 : decode cX3_init 31 = .ok (.new 9, 3) := by decide +kernel
theorem dX3_init_34 : decode cX3_init 34 = .ok (.dup, 1) := by decide +kernel
theorem dX3_init_35 : decode cX3_init 35 = .ok (.bipush 10, 2) := by decide +kernel
theorem dX3_init_37 : decode cX3_init 37 = .ok (.invokespecial 11, 3) := by decide +kernel
theorem dX3_init_40 : decode cX3_init 40 = .ok (.putfield 23, 3) := by decide +kernel
theorem dX3_init_43 : decode cX3_init 43 = .ok (.aload_n 0, 1) := by decide +kernel
theorem dX3_init_44 : decode cX3_init 44 = .ok (.new 9, 3) := by decide +kernel
theorem dX3_init_47 : decode cX3_init 47 = .ok (.dup, 1) := by decide +kernel
theorem dX3_init_48 : decode cX3_init 48 = .ok (.bipush 10, 2) := by decide +kernel
theorem dX3_init_50 : decode cX3_init 50 = .ok (.invokespecial 11, 3) := by decide +kernel
theorem dX3_init_53 : decode cX3_init 53 = .ok (.putfield 26, 3) := by decide +kernel
theorem dX3_init_56 : decode cX3_init 56 = .ok (.aload_n 0, 1) := by decide +kernel
theorem dX3_init_57 : decode cX3_init 57 = .ok (.new 9, 3) := by decide +kernel
theorem dX3_init_60 : decode cX3_init 60 = .ok (.dup, 1) := by decide +kernel
theorem dX3_init_61 : decode cX3_init 61 = .ok (.bipush 10, 2) := by decide +kernel
theorem dX3_init_63 : decode cX3_init 63 = .ok (.invokespecial 11, 3) := by decide +kernel
theorem dX3_init_66 : decode cX3_init 66 = .ok (.putfield 29, 3) := by decide +kernel
theorem dX3_init_69 : decode cX3_init 69 = .ok (.aload_n 0, 1) := by decide +kernel
theorem dX3_init_70 : decode cX3_init 70 = .ok (.new 9, 3) := by decide +kernel
theorem dX3_init_73 : decode cX3_init 73 = .ok (.dup, 1) := by decide +kernel
theorem dX3_init_74 : decode cX3_init 74 = .ok (.bipush 10, 2) := by decide +kernel
theorem dX3_init_76 : decode cX3_init 76 = .ok (.invokespecial 11, 3) := by decide +kernel
theorem dX3_init_79 : decode cX3_init 79 = .ok (.putfield 32, 3) := by decide +kernel
theorem dX3_init_82 : decode cX3_init 82 = .ok (.aload_n 0, 1) := by decide +kernel
theorem dX3_init_83 : decode cX3_init 83 = .ok (.new 9, 3) := by decide +kernel
theorem dX3_init_86 : decode cX3_init 86 = .ok (.dup, 1) := by decide +kernel
theorem dX3_init_87 : decode cX3_init 87 = .ok (.bipush 10, 2) := by decide +kernel
theorem dX3_init_89 : decode cX3_init 89 = .ok (.invokespecial 11, 3) := by decide +kernel
theorem dX3_init_92 : decode cX3_init 92 = .ok (.putfield 35, 3) := by decide +kernel
theorem dX3_init_95 : decode cX3_init 95 = .ok (.aload_n 0, 1) := by decide +kernel
theorem dX3_init_96 : decode cX3_init 96 = .ok (.new 9, 3) := by decide +kernel
theorem dX3_init_99 : decode cX3_init 99 = .ok (.dup, 1) := by decide +kernel
theorem dX3_init_100 : decode cX3_init 100 = .ok (.bipush 10, 2) := by decide +kernel
theorem dX3_init_102 : decode cX3_init 102 = .ok (.invokespecial 11, 3) := by decide +kernel
theorem dX3_init_105 : decode cX3_init 105 = .ok (.putfield 38, 3) := by decide +kernel
theorem dX3_init_108 : decode cX3_init 108 = .ok (.return_, 1) := by decide +kernel
theorem dX3_enter_0 : decode cX3_enter 0 = .ok (.aload_n 0, 1) := by decide +kernel
theorem dX3_enter_1 : decode cX3_enter 1 = .ok (.getfield 41, 3) := by decide +kernel
theorem dX3_enter_4 : decode cX3_enter 4 = .ok (.istore_n 3, 1) := by decide +kernel
theorem dX3_enter_5 : decode cX3_enter 5 = .ok (.aload_n 0, 1) := by decide +kernel
theorem dX3_enter_6 : decode cX3_enter 6 = .ok (.getfield 14, 3) := by decide +kernel
theorem dX3_enter_9 : decode cX3_enter 9 = .ok (.iload_n 3, 1) := by decide +kernel
theorem dX3_enter_10 : decode cX3_enter 10 = .ok (.iload_n 1, 1) := by decide +kernel
theorem dX3_enter_11 : decode cX3_enter 11 = .ok (.invokevirtual 45, 3) := by decide +kernel
theorem dX3_enter_14 : decode cX3_enter 14 = .ok (.aload_n 0, 1) := by decide +kernel
theorem dX3_enter_15 : decode cX3_enter 15 = .ok (.getfield 20, 3) := by decide +kernel
theorem dX3_enter_18 : decode cX3_enter 18 = .ok (.iload_n 3, 1) := by decide +kernel
theorem dX3_enter_19 : decode cX3_enter 19 = .ok (.iload_n 2, 1) := by decide +kernel
theorem dX3_enter_20 : decode cX3_enter 20 = .ok (.invokevirtual 45, 3) := by decide +kernel
theorem dX3_enter_23 : decode cX3_enter 23 = .ok (.aload_n 0, 1) := by decide +kernel
theorem dX3_enter_24 : decode cX3_enter 24 = .ok (.dup, 1) := by decide +kernel
theorem dX3_enter_25 : decode cX3_enter 25 = .ok (.getfield 49, 3) := by decide +kernel
theorem dX3_enter_28 : decode cX3_enter 28 = .ok (.iconst 1, 1) := by decide +kernel
theorem dX3_enter_29 : decode cX3_enter 29 = .ok (.iload_n 3, 1) := by decide +kernel
theorem dX3_enter_30 : decode cX3_enter 30 = .ok (.ishl, 1) := by decide +kernel
theorem dX3_enter_31 : decode cX3_enter 31 = .ok (.ior, 1) := by decide +kernel
theorem dX3_enter_32 : decode cX3_enter 32 = .ok (.putfield 49, 3) := by decide +kernel
theorem dX3_enter_35 : decode cX3_enter 35 = .ok (.aload_n 0, 1) := by decide +kernel
theorem dX3_enter_36 : decode cX3_enter 36 = .ok (.dup, 1) := by decide +kernel
theorem dX3_enter_37 : decode cX3_enter 37 = .ok (.getfield 41, 3) := by decide +kernel
theorem dX3_enter_40 : decode cX3_enter 40 = .ok (.iconst 1, 1) := by decide +kernel
theorem dX3_enter_41 : decode cX3_enter 41 = .ok (.iadd, 1) := by decide +kernel
theorem dX3_enter_42 : decode cX3_enter 42 = .ok (.putfield 41, 3) := by decide +kernel
theorem dX3_enter_45 : decode cX3_enter 45 = .ok (.iload_n 3, 1) := by decide +kernel
theorem dX3_enter_46 : decode cX3_enter 46 = .ok (.ireturn, 1) := by decide +kernel
theorem dX3_lives_0 : decode cX3_lives 0 = .ok (.aload_n 0, 1) := by decide +kernel
theorem dX3_lives_1 : decode cX3_lives 1 = .ok (.getfield 49, 3) := by decide +kernel
theorem dX3_lives_4 : decode cX3_lives 4 = .ok (.iload_n 1, 1) := by decide +kernel
theorem dX3_lives_5 : decode cX3_lives 5 = .ok (.invokestatic 52, 3) := by decide +kernel
theorem dX3_lives_8 : decode cX3_lives 8 = .ok (.ireturn, 1) := by decide +kernel
theorem dX3_distance_0 : decode cX3_distance 0 = .ok (.aload_n 0, 1) := by decide +kernel
theorem dX3_distance_1 : decode cX3_distance 1 = .ok (.getfield 20, 3) := by decide +kernel
theorem dX3_distance_4 : decode cX3_distance 4 = .ok (.iload_n 1, 1) := by decide +kernel
theorem dX3_distance_5 : decode cX3_distance 5 = .ok (.invokevirtual 58, 3) := by decide +kernel
theorem dX3_distance_8 : decode cX3_distance 8 = .ok (.aload_n 0, 1) := by decide +kernel
theorem dX3_distance_9 : decode cX3_distance 9 = .ok (.getfield 20, 3) := by decide +kernel
theorem dX3_distance_12 : decode cX3_distance 12 = .ok (.iload_n 2, 1) := by decide +kernel
theorem dX3_distance_13 : decode cX3_distance 13 = .ok (.invokevirtual 58, 3) := by decide +kernel
theorem dX3_distance_16 : decode cX3_distance 16 = .ok (.isub, 1) := by decide +kernel
theorem dX3_distance_17 : decode cX3_distance 17 = .ok (.invokestatic 62, 3) := by decide +kernel
theorem dX3_distance_20 : decode cX3_distance 20 = .ok (.ireturn, 1) := by decide +kernel
theorem dX3_rightReveals_0 : decode cX3_rightReveals 0 = .ok (.iconst 0, 1) := by decide +kernel
theorem dX3_rightReveals_1 : decode cX3_rightReveals 1 = .ok (.istore_n 1, 1) := by decide +kernel
theorem dX3_rightReveals_2 : decode cX3_rightReveals 2 = .ok (.iconst 0, 1) := by decide +kernel
theorem dX3_rightReveals_3 : decode cX3_rightReveals 3 = .ok (.istore_n 2, 1) := by decide +kernel
theorem dX3_rightReveals_4 : decode cX3_rightReveals 4 = .ok (.iload_n 2, 1) := by decide +kernel
theorem dX3_rightReveals_5 : decode cX3_rightReveals 5 = .ok (.aload_n 0, 1) := by decide +kernel
theorem dX3_rightReveals_6 : decode cX3_rightReveals 6 = .ok (.getfield 41, 3) := by decide +kernel
theorem dX3_rightReveals_9 : decode cX3_rightReveals 9 = .ok (.if_icmp .ge 27, 3) := by decide +kernel
theorem dX3_rightReveals_12 : decode cX3_rightReveals 12 = .ok (.aload_n 0, 1) := by decide +kernel
theorem dX3_rightReveals_13 : decode cX3_rightReveals 13 = .ok (.getfield 32, 3) := by decide +kernel
theorem dX3_rightReveals_16 : decode cX3_rightReveals 16 = .ok (.iload_n 2, 1) := by decide +kernel
theorem dX3_rightReveals_17 : decode cX3_rightReveals 17 = .ok (.invokevirtual 58, 3) := by decide +kernel
theorem dX3_rightReveals_20 : decode cX3_rightReveals 20 = .ok (.iconst 2, 1) := by decide +kernel
theorem dX3_rightReveals_21 : decode cX3_rightReveals 21 = .ok (.if_icmp .ne 9, 3) := by decide +kernel
theorem dX3_rightReveals_24 : decode cX3_rightReveals 24 = .ok (.iload_n 1, 1) := by decide +kernel
theorem dX3_rightReveals_25 : decode cX3_rightReveals 25 = .ok (.iconst 1, 1) := by decide +kernel
theorem dX3_rightReveals_26 : decode cX3_rightReveals 26 = .ok (.iload_n 2, 1) := by decide +kernel
theorem dX3_rightReveals_27 : decode cX3_rightReveals 27 = .ok (.ishl, 1) := by decide +kernel
theorem dX3_rightReveals_28 : decode cX3_rightReveals 28 = .ok (.ior, 1) := by decide +kernel
theorem dX3_rightReveals_29 : decode cX3_rightReveals 29 = .ok (.istore_n 1, 1) := by decide +kernel
theorem dX3_rightReveals_30 : decode cX3_rightReveals 30 = .ok (.iinc 2 1, 3) := by decide +kernel
theorem dX3_rightReveals_33 : decode cX3_rightReveals 33 = .ok (.goto (-29), 3) := by decide +kernel
theorem dX3_rightReveals_36 : decode cX3_rightReveals 36 = .ok (.iload_n 1, 1) := by decide +kernel
theorem dX3_rightReveals_37 : decode cX3_rightReveals 37 = .ok (.ireturn, 1) := by decide +kernel
theorem dX3_endLottery_0 : decode cX3_endLottery 0 = .ok (.iconst 0, 1) := by decide +kernel
theorem dX3_endLottery_1 : decode cX3_endLottery 1 = .ok (.istore_n 2, 1) := by decide +kernel
theorem dX3_endLottery_2 : decode cX3_endLottery 2 = .ok (.iload_n 2, 1) := by decide +kernel
theorem dX3_endLottery_3 : decode cX3_endLottery 3 = .ok (.aload_n 0, 1) := by decide +kernel
theorem dX3_endLottery_4 : decode cX3_endLottery 4 = .ok (.getfield 41, 3) := by decide +kernel
theorem dX3_endLottery_7 : decode cX3_endLottery 7 = .ok (.if_icmp .ge 39, 3) := by decide +kernel
theorem dX3_endLottery_10 : decode cX3_endLottery 10 = .ok (.aload_n 0, 1) := by decide +kernel
theorem dX3_endLottery_11 : decode cX3_endLottery 11 = .ok (.getfield 32, 3) := by decide +kernel
theorem dX3_endLottery_14 : decode cX3_endLottery 14 = .ok (.iload_n 2, 1) := by decide +kernel
theorem dX3_endLottery_15 : decode cX3_endLottery 15 = .ok (.iconst 0, 1) := by decide +kernel
theorem dX3_endLottery_16 : decode cX3_endLottery 16 = .ok (.invokevirtual 67, 3) := by decide +kernel
theorem dX3_endLottery_19 : decode cX3_endLottery 19 = .ok (.istore_n 3, 1) := by decide +kernel
theorem dX3_endLottery_20 : decode cX3_endLottery 20 = .ok (.iload_n 3, 1) := by decide +kernel
theorem dX3_endLottery_21 : decode cX3_endLottery 21 = .ok (.iconst 1, 1) := by decide +kernel
theorem dX3_endLottery_22 : decode cX3_endLottery 22 = .ok (.if_icmp .eq 8, 3) := by decide +kernel
theorem dX3_endLottery_25 : decode cX3_endLottery 25 = .ok (.iload_n 3, 1) := by decide +kernel
theorem dX3_endLottery_26 : decode cX3_endLottery 26 = .ok (.iconst 3, 1) := by decide +kernel
theorem dX3_endLottery_27 : decode cX3_endLottery 27 = .ok (.if_icmp .ne 13, 3) := by decide +kernel
theorem dX3_endLottery_30 : decode cX3_endLottery 30 = .ok (.aload_n 0, 1) := by decide +kernel
theorem dX3_endLottery_31 : decode cX3_endLottery 31 = .ok (.getfield 23, 3) := by decide +kernel
theorem dX3_endLottery_34 : decode cX3_endLottery 34 = .ok (.iload_n 2, 1) := by decide +kernel
theorem dX3_endLottery_35 : decode cX3_endLottery 35 = .ok (.iload_n 1, 1) := by decide +kernel
theorem dX3_endLottery_36 : decode cX3_endLottery 36 = .ok (.ineg, 1) := by decide +kernel
theorem dX3_endLottery_37 : decode cX3_endLottery 37 = .ok (.invokevirtual 71, 3) := by decide +kernel
theorem dX3_endLottery_40 : decode cX3_endLottery 40 = .ok (.iinc 2 1, 3) := by decide +kernel
theorem dX3_endLottery_43 : decode cX3_endLottery 43 = .ok (.goto (-41), 3) := by decide +kernel
theorem dX3_endLottery_46 : decode cX3_endLottery 46 = .ok (.return_, 1) := by decide +kernel
theorem dX3_copy_0 : decode cX3_copy 0 = .ok (.aload_n 0, 1) := by decide +kernel
theorem dX3_copy_1 : decode cX3_copy 1 = .ok (.aload_n 1, 1) := by decide +kernel
theorem dX3_copy_2 : decode cX3_copy 2 = .ok (.getfield 41, 3) := by decide +kernel
theorem dX3_copy_5 : decode cX3_copy 5 = .ok (.putfield 41, 3) := by decide +kernel
theorem dX3_copy_8 : decode cX3_copy 8 = .ok (.aload_n 0, 1) := by decide +kernel
theorem dX3_copy_9 : decode cX3_copy 9 = .ok (.aload_n 1, 1) := by decide +kernel
theorem dX3_copy_10 : decode cX3_copy 10 = .ok (.getfield 49, 3) := by decide +kernel
theorem dX3_copy_13 : decode cX3_copy 13 = .ok (.putfield 49, 3) := by decide +kernel
theorem dX3_copy_16 : decode cX3_copy 16 = .ok (.aload_n 0, 1) := by decide +kernel
theorem dX3_copy_17 : decode cX3_copy 17 = .ok (.getfield 14, 3) := by decide +kernel
theorem dX3_copy_20 : decode cX3_copy 20 = .ok (.aload_n 1, 1) := by decide +kernel
theorem dX3_copy_21 : decode cX3_copy 21 = .ok (.getfield 14, 3) := by decide +kernel
theorem dX3_copy_24 : decode cX3_copy 24 = .ok (.invokevirtual 74, 3) := by decide +kernel
theorem dX3_copy_27 : decode cX3_copy 27 = .ok (.aload_n 0, 1) := by decide +kernel
theorem dX3_copy_28 : decode cX3_copy 28 = .ok (.getfield 20, 3) := by decide +kernel
theorem dX3_copy_31 : decode cX3_copy 31 = .ok (.aload_n 1, 1) := by decide +kernel
theorem dX3_copy_32 : decode cX3_copy 32 = .ok (.getfield 20, 3) := by decide +kernel
theorem dX3_copy_35 : decode cX3_copy 35 = .ok (.invokevirtual 74, 3) := by decide +kernel
theorem dX3_copy_38 : decode cX3_copy 38 = .ok (.aload_n 0, 1) := by decide +kernel
theorem dX3_copy_39 : decode cX3_copy 39 = .ok (.getfield 23, 3) := by decide +kernel
theorem dX3_copy_42 : decode cX3_copy 42 = .ok (.aload_n 1, 1) := by decide +kernel
theorem dX3_copy_43 : decode cX3_copy 43 = .ok (.getfield 23, 3) := by decide +kernel
theorem dX3_copy_46 : decode cX3_copy 46 = .ok (.invokevirtual 74, 3) := by decide +kernel
theorem dX3_copy_49 : decode cX3_copy 49 = .ok (.aload_n 0, 1) := by decide +kernel
theorem dX3_copy_50 : decode cX3_copy 50 = .ok (.getfield 26, 3) := by decide +kernel
theorem dX3_copy_53 : decode cX3_copy 53 = .ok (.aload_n 1, 1) := by decide +kernel
theorem dX3_copy_54 : decode cX3_copy 54 = .ok (.getfield 26, 3) := by decide +kernel
theorem dX3_copy_57 : decode cX3_copy 57 = .ok (.invokevirtual 74, 3) := by decide +kernel
theorem dX3_copy_60 : decode cX3_copy 60 = .ok (.aload_n 0, 1) := by decide +kernel
theorem dX3_copy_61 : decode cX3_copy 61 = .ok (.getfield 29, 3) := by decide +kernel
theorem dX3_copy_64 : decode cX3_copy 64 = .ok (.aload_n 1, 1) := by decide +kernel
theorem dX3_copy_65 : decode cX3_copy 65 = .ok (.getfield 29, 3) := by decide +kernel
theorem dX3_copy_68 : decode cX3_copy 68 = .ok (.invokevirtual 74, 3) := by decide +kernel
theorem dX3_copy_71 : decode cX3_copy 71 = .ok (.aload_n 0, 1) := by decide +kernel
theorem dX3_copy_72 : decode cX3_copy 72 = .ok (.getfield 32, 3) := by decide +kernel
theorem dX3_copy_75 : decode cX3_copy 75 = .ok (.aload_n 1, 1) := by decide +kernel
theorem dX3_copy_76 : decode cX3_copy 76 = .ok (.getfield 32, 3) := by decide +kernel
theorem dX3_copy_79 : decode cX3_copy 79 = .ok (.invokevirtual 74, 3) := by decide +kernel
theorem dX3_copy_82 : decode cX3_copy 82 = .ok (.aload_n 0, 1) := by decide +kernel
theorem dX3_copy_83 : decode cX3_copy 83 = .ok (.getfield 35, 3) := by decide +kernel
theorem dX3_copy_86 : decode cX3_copy 86 = .ok (.aload_n 1, 1) := by decide +kernel
theorem dX3_copy_87 : decode cX3_copy 87 = .ok (.getfield 35, 3) := by decide +kernel
theorem dX3_copy_90 : decode cX3_copy 90 = .ok (.invokevirtual 74, 3) := by decide +kernel
theorem dX3_copy_93 : decode cX3_copy 93 = .ok (.aload_n 0, 1) := by decide +kernel
theorem dX3_copy_94 : decode cX3_copy 94 = .ok (.getfield 38, 3) := by decide +kernel
theorem dX3_copy_97 : decode cX3_copy 97 = .ok (.aload_n 1, 1) := by decide +kernel
theorem dX3_copy_98 : decode cX3_copy 98 = .ok (.getfield 38, 3) := by decide +kernel
theorem dX3_copy_101 : decode cX3_copy 101 = .ok (.invokevirtual 74, 3) := by decide +kernel
theorem dX3_copy_104 : decode cX3_copy 104 = .ok (.return_, 1) := by decide +kernel
theorem dX4_mixed_0 : decode cX4_mixed 0 = .ok (.iload_n 0, 1) := by decide +kernel
theorem dX4_mixed_1 : decode cX4_mixed 1 = .ok (.ldc 7, 2) := by decide +kernel
theorem dX4_mixed_3 : decode cX4_mixed 3 = .ok (.imul, 1) := by decide +kernel
theorem dX4_mixed_4 : decode cX4_mixed 4 = .ok (.sipush 12345, 3) := by decide +kernel
theorem dX4_mixed_7 : decode cX4_mixed 7 = .ok (.iadd, 1) := by decide +kernel
theorem dX4_mixed_8 : decode cX4_mixed 8 = .ok (.istore_n 1, 1) := by decide +kernel
theorem dX4_mixed_9 : decode cX4_mixed 9 = .ok (.iload_n 1, 1) := by decide +kernel
theorem dX4_mixed_10 : decode cX4_mixed 10 = .ok (.iload_n 1, 1) := by decide +kernel
theorem dX4_mixed_11 : decode cX4_mixed 11 = .ok (.bipush 15, 2) := by decide +kernel
theorem dX4_mixed_13 : decode cX4_mixed 13 = .ok (.iushr, 1) := by decide +kernel
theorem dX4_mixed_14 : decode cX4_mixed 14 = .ok (.ixor, 1) := by decide +kernel
theorem dX4_mixed_15 : decode cX4_mixed 15 = .ok (.ldc 7, 2) := by decide +kernel
theorem dX4_mixed_17 : decode cX4_mixed 17 = .ok (.imul, 1) := by decide +kernel
theorem dX4_mixed_18 : decode cX4_mixed 18 = .ok (.sipush 12345, 3) := by decide +kernel
theorem dX4_mixed_21 : decode cX4_mixed 21 = .ok (.iadd, 1) := by decide +kernel
theorem dX4_mixed_22 : decode cX4_mixed 22 = .ok (.ireturn, 1) := by decide +kernel
theorem dX4_lot_0 : decode cX4_lot 0 = .ok (.iload_n 1, 1) := by decide +kernel
theorem dX4_lot_1 : decode cX4_lot 1 = .ok (.ifCond .le 12, 3) := by decide +kernel
theorem dX4_lot_4 : decode cX4_lot 4 = .ok (.iload_n 0, 1) := by decide +kernel
theorem dX4_lot_5 : decode cX4_lot 5 = .ok (.bipush 16, 2) := by decide +kernel
theorem dX4_lot_7 : decode cX4_lot 7 = .ok (.iushr, 1) := by decide +kernel
theorem dX4_lot_8 : decode cX4_lot 8 = .ok (.iload_n 1, 1) := by decide +kernel
theorem dX4_lot_9 : decode cX4_lot 9 = .ok (.irem, 1) := by decide +kernel
theorem dX4_lot_10 : decode cX4_lot 10 = .ok (.goto 4, 3) := by decide +kernel
theorem dX4_lot_13 : decode cX4_lot 13 = .ok (.iconst 0, 1) := by decide +kernel
theorem dX4_lot_14 : decode cX4_lot 14 = .ok (.ireturn, 1) := by decide +kernel
theorem dX4_has_0 : decode cX4_has 0 = .ok (.iload_n 0, 1) := by decide +kernel
theorem dX4_has_1 : decode cX4_has 1 = .ok (.iload_n 1, 1) := by decide +kernel
theorem dX4_has_2 : decode cX4_has 2 = .ok (.ishr, 1) := by decide +kernel
theorem dX4_has_3 : decode cX4_has 3 = .ok (.iconst 1, 1) := by decide +kernel
theorem dX4_has_4 : decode cX4_has 4 = .ok (.iand, 1) := by decide +kernel
theorem dX4_has_5 : decode cX4_has 5 = .ok (.iconst 1, 1) := by decide +kernel
theorem dX4_has_6 : decode cX4_has 6 = .ok (.if_icmp .ne 7, 3) := by decide +kernel
theorem dX4_has_9 : decode cX4_has 9 = .ok (.iconst 1, 1) := by decide +kernel
theorem dX4_has_10 : decode cX4_has 10 = .ok (.goto 4, 3) := by decide +kernel
theorem dX4_has_13 : decode cX4_has 13 = .ok (.iconst 0, 1) := by decide +kernel
theorem dX4_has_14 : decode cX4_has 14 = .ok (.ireturn, 1) := by decide +kernel
theorem dX5_init_0 : decode cX5_init 0 = .ok (.aload_n 0, 1) := by decide +kernel
theorem dX5_init_1 : decode cX5_init 1 = .ok (.invokespecial 3, 3) := by decide +kernel
theorem dX5_init_4 : decode cX5_init 4 = .ok (.aload_n 0, 1) := by decide +kernel
theorem dX5_init_5 : decode cX5_init 5 = .ok (.new 9, 3) := by decide +kernel
theorem dX5_init_8 : decode cX5_init 8 = .ok (.dup, 1) := by decide +kernel
theorem dX5_init_9 : decode cX5_init 9 = .ok (.bipush 10, 2) := by decide +kernel
theorem dX5_init_11 : decode cX5_init 11 = .ok (.invokespecial 11, 3) := by decide +kernel
theorem dX5_init_14 : decode cX5_init 14 = .ok (.putfield 14, 3) := by decide +kernel
theorem dX5_init_17 : decode cX5_init 17 = .ok (.aload_n 0, 1) := by decide +kernel
theorem dX5_init_18 : decode cX5_init 18 = .ok (.new 9, 3) := by decide +kernel
theorem dX5_init_21 : decode cX5_init 21 = .ok (.dup, 1) := by decide +kernel
theorem dX5_init_22 : decode cX5_init 22 = .ok (.bipush 10, 2) := by decide +kernel
theorem dX5_init_24 : decode cX5_init 24 = .ok (.invokespecial 11, 3) := by decide +kernel
theorem dX5_init_27 : decode cX5_init 27 = .ok (.putfield 20, 3) := by decide +kernel
theorem dX5_init_30 : decode cX5_init 30 = .ok (.return_, 1) := by decide +kernel
theorem dX5_reckon_0 : decode cX5_reckon 0 = .ok (.aload_n 0, 1) := by decide +kernel
theorem dX5_reckon_1 : decode cX5_reckon 1 = .ok (.iload_n 2, 1) := by decide +kernel
theorem dX5_reckon_2 : decode cX5_reckon 2 = .ok (.putfield 23, 3) := by decide +kernel
theorem dX5_reckon_5 : decode cX5_reckon 5 = .ok (.aload_n 0, 1) := by decide +kernel
theorem dX5_reckon_6 : decode cX5_reckon 6 = .ok (.aload_n 1, 1) := by decide +kernel
theorem dX5_reckon_7 : decode cX5_reckon 7 = .ok (.getfield 27, 3) := by decide +kernel
theorem dX5_reckon_10 : decode cX5_reckon 10 = .ok (.getfield 33, 3) := by decide +kernel
theorem dX5_reckon_13 : decode cX5_reckon 13 = .ok (.aload_n 1, 1) := by decide +kernel
theorem dX5_reckon_14 : decode cX5_reckon 14 = .ok (.getfield 38, 3) := by decide +kernel
theorem dX5_reckon_17 : decode cX5_reckon 17 = .ok (.aload_n 0, 1) := by decide +kernel
theorem dX5_reckon_18 : decode cX5_reckon 18 = .ok (.getfield 23, 3) := by decide +kernel
theorem dX5_reckon_21 : decode cX5_reckon 21 = .ok (.invokevirtual 41, 3) := by decide +kernel
end
section
theorem dX5_reckon_24 : decode cX5_reckon 24 = .ok (.iand, 1) := by decide +kernel
theorem dX5_reckon_25 : decode cX5_reckon 25 = .ok (.putfield 45, 3) := by decide +kernel
theorem dX5_reckon_28 : decode cX5_reckon 28 = .ok (.aload_n 0, 1) := by decide +kernel
theorem dX5_reckon_29 : decode cX5_reckon 29 = .ok (.aload_n 0, 1) := by decide +kernel
theorem dX5_reckon_30 : decode cX5_reckon 30 = .ok (.aload_n 1, 1) := by decide +kernel
theorem dX5_reckon_31 : decode cX5_reckon 31 = .ok (.invokevirtual 48, 3) := by decide +kernel
theorem dX5_reckon_34 : decode cX5_reckon 34 = .ok (.putfield 52, 3) := by decide +kernel
theorem dX5_reckon_37 : decode cX5_reckon 37 = .ok (.aload_n 0, 1) := by decide +kernel
theorem dX5_reckon_38 : decode cX5_reckon 38 = .ok (.getfield 52, 3) := by decide +kernel
theorem dX5_reckon_41 : decode cX5_reckon 41 = .ok (.ifCond .ne 39, 3) := by decide +kernel
theorem dX5_reckon_44 : decode cX5_reckon 44 = .ok (.aload_n 0, 1) := by decide +kernel
theorem dX5_reckon_45 : decode cX5_reckon 45 = .ok (.aload_n 1, 1) := by decide +kernel
theorem dX5_reckon_46 : decode cX5_reckon 46 = .ok (.getfield 55, 3) := by decide +kernel
theorem dX5_reckon_49 : decode cX5_reckon 49 = .ok (.getfield 59, 3) := by decide +kernel
theorem dX5_reckon_52 : decode cX5_reckon 52 = .ok (.iload_n 3, 1) := by decide +kernel
theorem dX5_reckon_53 : decode cX5_reckon 53 = .ok (.invokevirtual 64, 3) := by decide +kernel
theorem dX5_reckon_56 : decode cX5_reckon 56 = .ok (.aload_n 0, 1) := by decide +kernel
theorem dX5_reckon_57 : decode cX5_reckon 57 = .ok (.aload_n 1, 1) := by decide +kernel
theorem dX5_reckon_58 : decode cX5_reckon 58 = .ok (.getfield 27, 3) := by decide +kernel
theorem dX5_reckon_61 : decode cX5_reckon 61 = .ok (.invokevirtual 68, 3) := by decide +kernel
theorem dX5_reckon_64 : decode cX5_reckon 64 = .ok (.aload_n 0, 1) := by decide +kernel
theorem dX5_reckon_65 : decode cX5_reckon 65 = .ok (.aload_n 1, 1) := by decide +kernel
theorem dX5_reckon_66 : decode cX5_reckon 66 = .ok (.getfield 27, 3) := by decide +kernel
theorem dX5_reckon_69 : decode cX5_reckon 69 = .ok (.aload_n 1, 1) := by decide +kernel
theorem dX5_reckon_70 : decode cX5_reckon 70 = .ok (.getfield 72, 3) := by decide +kernel
theorem dX5_reckon_73 : decode cX5_reckon 73 = .ok (.iconst 1, 1) := by decide +kernel
theorem dX5_reckon_74 : decode cX5_reckon 74 = .ok (.invokevirtual 41, 3) := by decide +kernel
theorem dX5_reckon_77 : decode cX5_reckon 77 = .ok (.invokevirtual 75, 3) := by decide +kernel
theorem dX5_reckon_80 : decode cX5_reckon 80 = .ok (.return_, 1) := by decide +kernel
theorem dX5_hindranceIn_0 : decode cX5_hindranceIn 0 = .ok (.aload_n 1, 1) := by decide +kernel
theorem dX5_hindranceIn_1 : decode cX5_hindranceIn 1 = .ok (.getfield 55, 3) := by decide +kernel
theorem dX5_hindranceIn_4 : decode cX5_hindranceIn 4 = .ok (.getfield 79, 3) := by decide +kernel
theorem dX5_hindranceIn_7 : decode cX5_hindranceIn 7 = .ok (.ifCond .ne 5, 3) := by decide +kernel
theorem dX5_hindranceIn_10 : decode cX5_hindranceIn 10 = .ok (.iconst 1, 1) := by decide +kernel
theorem dX5_hindranceIn_11 : decode cX5_hindranceIn 11 = .ok (.ireturn, 1) := by decide +kernel
theorem dX5_hindranceIn_12 : decode cX5_hindranceIn 12 = .ok (.aload_n 0, 1) := by decide +kernel
theorem dX5_hindranceIn_13 : decode cX5_hindranceIn 13 = .ok (.getfield 45, 3) := by decide +kernel
theorem dX5_hindranceIn_16 : decode cX5_hindranceIn 16 = .ok (.ifCond .ne 5, 3) := by decide +kernel
theorem dX5_hindranceIn_19 : decode cX5_hindranceIn 19 = .ok (.iconst 2, 1) := by decide +kernel
theorem dX5_hindranceIn_20 : decode cX5_hindranceIn 20 = .ok (.ireturn, 1) := by decide +kernel
theorem dX5_hindranceIn_21 : decode cX5_hindranceIn 21 = .ok (.aload_n 0, 1) := by decide +kernel
theorem dX5_hindranceIn_22 : decode cX5_hindranceIn 22 = .ok (.aload_n 1, 1) := by decide +kernel
theorem dX5_hindranceIn_23 : decode cX5_hindranceIn 23 = .ok (.invokevirtual 82, 3) := by decide +kernel
theorem dX5_hindranceIn_26 : decode cX5_hindranceIn 26 = .ok (.aload_n 0, 1) := by decide +kernel
theorem dX5_hindranceIn_27 : decode cX5_hindranceIn 27 = .ok (.getfield 86, 3) := by decide +kernel
theorem dX5_hindranceIn_30 : decode cX5_hindranceIn 30 = .ok (.ldc 89, 2) := by decide +kernel
theorem dX5_hindranceIn_32 : decode cX5_hindranceIn 32 = .ok (.if_icmp .ne 7, 3) := by decide +kernel
theorem dX5_hindranceIn_35 : decode cX5_hindranceIn 35 = .ok (.iconst 3, 1) := by decide +kernel
theorem dX5_hindranceIn_36 : decode cX5_hindranceIn 36 = .ok (.goto 4, 3) := by decide +kernel
theorem dX5_hindranceIn_39 : decode cX5_hindranceIn 39 = .ok (.iconst 0, 1) := by decide +kernel
theorem dX5_hindranceIn_40 : decode cX5_hindranceIn 40 = .ok (.ireturn, 1) := by decide +kernel
theorem dX5_findRepairer_0 : decode cX5_findRepairer 0 = .ok (.aload_n 0, 1) := by decide +kernel
theorem dX5_findRepairer_1 : decode cX5_findRepairer 1 = .ok (.iconst 0, 1) := by decide +kernel
theorem dX5_findRepairer_2 : decode cX5_findRepairer 2 = .ok (.putfield 90, 3) := by decide +kernel
theorem dX5_findRepairer_5 : decode cX5_findRepairer 5 = .ok (.iconst 0, 1) := by decide +kernel
theorem dX5_findRepairer_6 : decode cX5_findRepairer 6 = .ok (.istore_n 2, 1) := by decide +kernel
theorem dX5_findRepairer_7 : decode cX5_findRepairer 7 = .ok (.iload_n 2, 1) := by decide +kernel
theorem dX5_findRepairer_8 : decode cX5_findRepairer 8 = .ok (.aload_n 1, 1) := by decide +kernel
theorem dX5_findRepairer_9 : decode cX5_findRepairer 9 = .ok (.getfield 55, 3) := by decide +kernel
theorem dX5_findRepairer_12 : decode cX5_findRepairer 12 = .ok (.getfield 93, 3) := by decide +kernel
theorem dX5_findRepairer_15 : decode cX5_findRepairer 15 = .ok (.if_icmp .ge 72, 3) := by decide +kernel
theorem dX5_findRepairer_18 : decode cX5_findRepairer 18 = .ok (.aload_n 1, 1) := by decide +kernel
theorem dX5_findRepairer_19 : decode cX5_findRepairer 19 = .ok (.getfield 55, 3) := by decide +kernel
theorem dX5_findRepairer_22 : decode cX5_findRepairer 22 = .ok (.iload_n 2, 1) := by decide +kernel
theorem dX5_findRepairer_23 : decode cX5_findRepairer 23 = .ok (.invokevirtual 96, 3) := by decide +kernel
theorem dX5_findRepairer_26 : decode cX5_findRepairer 26 = .ok (.istore_n 3, 1) := by decide +kernel
theorem dX5_findRepairer_27 : decode cX5_findRepairer 27 = .ok (.aload_n 1, 1) := by decide +kernel
theorem dX5_findRepairer_28 : decode cX5_findRepairer 28 = .ok (.getfield 27, 3) := by decide +kernel
theorem dX5_findRepairer_31 : decode cX5_findRepairer 31 = .ok (.iload_n 3, 1) := by decide +kernel
theorem dX5_findRepairer_32 : decode cX5_findRepairer 32 = .ok (.invokevirtual 99, 3) := by decide +kernel
theorem dX5_findRepairer_35 : decode cX5_findRepairer 35 = .ok (.istore 4, 2) := by decide +kernel
theorem dX5_findRepairer_37 : decode cX5_findRepairer 37 = .ok (.iload 4, 2) := by decide +kernel
theorem dX5_findRepairer_39 : decode cX5_findRepairer 39 = .ok (.ifCond .eq 25, 3) := by decide +kernel
theorem dX5_findRepairer_42 : decode cX5_findRepairer 42 = .ok (.aload_n 0, 1) := by decide +kernel
theorem dX5_findRepairer_43 : decode cX5_findRepairer 43 = .ok (.getfield 45, 3) := by decide +kernel
theorem dX5_findRepairer_46 : decode cX5_findRepairer 46 = .ok (.iload_n 3, 1) := by decide +kernel
theorem dX5_findRepairer_47 : decode cX5_findRepairer 47 = .ok (.invokestatic 103, 3) := by decide +kernel
theorem dX5_findRepairer_50 : decode cX5_findRepairer 50 = .ok (.ifCond .ne 14, 3) := by decide +kernel
theorem dX5_findRepairer_53 : decode cX5_findRepairer 53 = .ok (.aload_n 0, 1) := by decide +kernel
theorem dX5_findRepairer_54 : decode cX5_findRepairer 54 = .ok (.iload_n 3, 1) := by decide +kernel
theorem dX5_findRepairer_55 : decode cX5_findRepairer 55 = .ok (.putfield 86, 3) := by decide +kernel
theorem dX5_findRepairer_58 : decode cX5_findRepairer 58 = .ok (.aload_n 0, 1) := by decide +kernel
theorem dX5_findRepairer_59 : decode cX5_findRepairer 59 = .ok (.iload_n 2, 1) := by decide +kernel
theorem dX5_findRepairer_60 : decode cX5_findRepairer 60 = .ok (.putfield 109, 3) := by decide +kernel
theorem dX5_findRepairer_63 : decode cX5_findRepairer 63 = .ok (.return_, 1) := by decide +kernel
theorem dX5_findRepairer_64 : decode cX5_findRepairer 64 = .ok (.iload 4, 2) := by decide +kernel
theorem dX5_findRepairer_66 : decode cX5_findRepairer 66 = .ok (.ifCond .ne 15, 3) := by decide +kernel
theorem dX5_findRepairer_69 : decode cX5_findRepairer 69 = .ok (.aload_n 0, 1) := by decide +kernel
theorem dX5_findRepairer_70 : decode cX5_findRepairer 70 = .ok (.dup, 1) := by decide +kernel
theorem dX5_findRepairer_71 : decode cX5_findRepairer 71 = .ok (.getfield 90, 3) := by decide +kernel
theorem dX5_findRepairer_74 : decode cX5_findRepairer 74 = .ok (.iconst 1, 1) := by decide +kernel
theorem dX5_findRepairer_75 : decode cX5_findRepairer 75 = .ok (.iload_n 3, 1) := by decide +kernel
theorem dX5_findRepairer_76 : decode cX5_findRepairer 76 = .ok (.ishl, 1) := by decide +kernel
theorem dX5_findRepairer_77 : decode cX5_findRepairer 77 = .ok (.ior, 1) := by decide +kernel
theorem dX5_findRepairer_78 : decode cX5_findRepairer 78 = .ok (.putfield 90, 3) := by decide +kernel
theorem dX5_findRepairer_81 : decode cX5_findRepairer 81 = .ok (.iinc 2 1, 3) := by decide +kernel
theorem dX5_findRepairer_84 : decode cX5_findRepairer 84 = .ok (.goto (-77), 3) := by decide +kernel
theorem dX5_findRepairer_87 : decode cX5_findRepairer 87 = .ok (.aload_n 0, 1) := by decide +kernel
theorem dX5_findRepairer_88 : decode cX5_findRepairer 88 = .ok (.ldc 89, 2) := by decide +kernel
theorem dX5_findRepairer_90 : decode cX5_findRepairer 90 = .ok (.putfield 86, 3) := by decide +kernel
theorem dX5_findRepairer_93 : decode cX5_findRepairer 93 = .ok (.return_, 1) := by decide +kernel
theorem dX5_drawWaits_0 : decode cX5_drawWaits 0 = .ok (.aload_n 0, 1) := by decide +kernel
theorem dX5_drawWaits_1 : decode cX5_drawWaits 1 = .ok (.ldc 89, 2) := by decide +kernel
theorem dX5_drawWaits_3 : decode cX5_drawWaits 3 = .ok (.putfield 112, 3) := by decide +kernel
theorem dX5_drawWaits_6 : decode cX5_drawWaits 6 = .ok (.iconst 0, 1) := by decide +kernel
theorem dX5_drawWaits_7 : decode cX5_drawWaits 7 = .ok (.istore_n 3, 1) := by decide +kernel
theorem dX5_drawWaits_8 : decode cX5_drawWaits 8 = .ok (.iload_n 3, 1) := by decide +kernel
theorem dX5_drawWaits_9 : decode cX5_drawWaits 9 = .ok (.bipush 10, 2) := by decide +kernel
theorem dX5_drawWaits_11 : decode cX5_drawWaits 11 = .ok (.if_icmp .ge 90, 3) := by decide +kernel
theorem dX5_drawWaits_14 : decode cX5_drawWaits 14 = .ok (.aload_n 0, 1) := by decide +kernel
theorem dX5_drawWaits_15 : decode cX5_drawWaits 15 = .ok (.getfield 45, 3) := by decide +kernel
theorem dX5_drawWaits_18 : decode cX5_drawWaits 18 = .ok (.iload_n 3, 1) := by decide +kernel
theorem dX5_drawWaits_19 : decode cX5_drawWaits 19 = .ok (.invokestatic 103, 3) := by decide +kernel
theorem dX5_drawWaits_22 : decode cX5_drawWaits 22 = .ok (.ifCond .eq 73, 3) := by decide +kernel
theorem dX5_drawWaits_25 : decode cX5_drawWaits 25 = .ok (.iload_n 1, 1) := by decide +kernel
theorem dX5_drawWaits_26 : decode cX5_drawWaits 26 = .ok (.sipush 1000, 3) := by decide +kernel
theorem dX5_drawWaits_29 : decode cX5_drawWaits 29 = .ok (.aload_n 0, 1) := by decide +kernel
theorem dX5_drawWaits_30 : decode cX5_drawWaits 30 = .ok (.getfield 23, 3) := by decide +kernel
theorem dX5_drawWaits_33 : decode cX5_drawWaits 33 = .ok (.imul, 1) := by decide +kernel
theorem dX5_drawWaits_34 : decode cX5_drawWaits 34 = .ok (.iload_n 3, 1) := by decide +kernel
theorem dX5_drawWaits_35 : decode cX5_drawWaits 35 = .ok (.iadd, 1) := by decide +kernel
theorem dX5_drawWaits_36 : decode cX5_drawWaits 36 = .ok (.ixor, 1) := by decide +kernel
theorem dX5_drawWaits_37 : decode cX5_drawWaits 37 = .ok (.invokestatic 115, 3) := by decide +kernel
theorem dX5_drawWaits_40 : decode cX5_drawWaits 40 = .ok (.istore 4, 2) := by decide +kernel
theorem dX5_drawWaits_42 : decode cX5_drawWaits 42 = .ok (.aload_n 0, 1) := by decide +kernel
theorem dX5_drawWaits_43 : decode cX5_drawWaits 43 = .ok (.getfield 14, 3) := by decide +kernel
theorem dX5_drawWaits_46 : decode cX5_drawWaits 46 = .ok (.iload_n 3, 1) := by decide +kernel
theorem dX5_drawWaits_47 : decode cX5_drawWaits 47 = .ok (.iload 4, 2) := by decide +kernel
theorem dX5_drawWaits_49 : decode cX5_drawWaits 49 = .ok (.invokestatic 115, 3) := by decide +kernel
theorem dX5_drawWaits_52 : decode cX5_drawWaits 52 = .ok (.iload_n 2, 1) := by decide +kernel
theorem dX5_drawWaits_53 : decode cX5_drawWaits 53 = .ok (.invokestatic 118, 3) := by decide +kernel
theorem dX5_drawWaits_56 : decode cX5_drawWaits 56 = .ok (.invokevirtual 122, 3) := by decide +kernel
theorem dX5_drawWaits_59 : decode cX5_drawWaits 59 = .ok (.aload_n 0, 1) := by decide +kernel
theorem dX5_drawWaits_60 : decode cX5_drawWaits 60 = .ok (.getfield 112, 3) := by decide +kernel
theorem dX5_drawWaits_63 : decode cX5_drawWaits 63 = .ok (.ldc 89, 2) := by decide +kernel
theorem dX5_drawWaits_65 : decode cX5_drawWaits 65 = .ok (.if_icmp .eq 25, 3) := by decide +kernel
theorem dX5_drawWaits_68 : decode cX5_drawWaits 68 = .ok (.aload_n 0, 1) := by decide +kernel
theorem dX5_drawWaits_69 : decode cX5_drawWaits 69 = .ok (.getfield 14, 3) := by decide +kernel
theorem dX5_drawWaits_72 : decode cX5_drawWaits 72 = .ok (.iload_n 3, 1) := by decide +kernel
theorem dX5_drawWaits_73 : decode cX5_drawWaits 73 = .ok (.invokevirtual 41, 3) := by decide +kernel
theorem dX5_drawWaits_76 : decode cX5_drawWaits 76 = .ok (.aload_n 0, 1) := by decide +kernel
theorem dX5_drawWaits_77 : decode cX5_drawWaits 77 = .ok (.getfield 14, 3) := by decide +kernel
theorem dX5_drawWaits_80 : decode cX5_drawWaits 80 = .ok (.aload_n 0, 1) := by decide +kernel
theorem dX5_drawWaits_81 : decode cX5_drawWaits 81 = .ok (.getfield 112, 3) := by decide +kernel
theorem dX5_drawWaits_84 : decode cX5_drawWaits 84 = .ok (.invokevirtual 41, 3) := by decide +kernel
theorem dX5_drawWaits_87 : decode cX5_drawWaits 87 = .ok (.if_icmp .ge 8, 3) := by decide +kernel
theorem dX5_drawWaits_90 : decode cX5_drawWaits 90 = .ok (.aload_n 0, 1) := by decide +kernel
theorem dX5_drawWaits_91 : decode cX5_drawWaits 91 = .ok (.iload_n 3, 1) := by decide +kernel
theorem dX5_drawWaits_92 : decode cX5_drawWaits 92 = .ok (.putfield 112, 3) := by decide +kernel
theorem dX5_drawWaits_95 : decode cX5_drawWaits 95 = .ok (.iinc 3 1, 3) := by decide +kernel
theorem dX5_drawWaits_98 : decode cX5_drawWaits 98 = .ok (.goto (-90), 3) := by decide +kernel
theorem dX5_drawWaits_101 : decode cX5_drawWaits 101 = .ok (.return_, 1) := by decide +kernel
theorem dX5_findWhoAsks_0 : decode cX5_findWhoAsks 0 = .ok (.aload_n 0, 1) := by decide +kernel
theorem dX5_findWhoAsks_1 : decode cX5_findWhoAsks 1 = .ok (.iconst 0, 1) := by decide +kernel
theorem dX5_findWhoAsks_2 : decode cX5_findWhoAsks 2 = .ok (.putfield 125, 3) := by decide +kernel
theorem dX5_findWhoAsks_5 : decode cX5_findWhoAsks 5 = .ok (.iconst 0, 1) := by decide +kernel
theorem dX5_findWhoAsks_6 : decode cX5_findWhoAsks 6 = .ok (.istore_n 2, 1) := by decide +kernel
theorem dX5_findWhoAsks_7 : decode cX5_findWhoAsks 7 = .ok (.iload_n 2, 1) := by decide +kernel
theorem dX5_findWhoAsks_8 : decode cX5_findWhoAsks 8 = .ok (.aload_n 1, 1) := by decide +kernel
theorem dX5_findWhoAsks_9 : decode cX5_findWhoAsks 9 = .ok (.getfield 128, 3) := by decide +kernel
theorem dX5_findWhoAsks_12 : decode cX5_findWhoAsks 12 = .ok (.if_icmp .ge 74, 3) := by decide +kernel
theorem dX5_findWhoAsks_15 : decode cX5_findWhoAsks 15 = .ok (.aload_n 0, 1) := by decide +kernel
theorem dX5_findWhoAsks_16 : decode cX5_findWhoAsks 16 = .ok (.getfield 14, 3) := by decide +kernel
theorem dX5_findWhoAsks_19 : decode cX5_findWhoAsks 19 = .ok (.iload_n 2, 1) := by decide +kernel
theorem dX5_findWhoAsks_20 : decode cX5_findWhoAsks 20 = .ok (.invokevirtual 41, 3) := by decide +kernel
theorem dX5_findWhoAsks_23 : decode cX5_findWhoAsks 23 = .ok (.aload_n 0, 1) := by decide +kernel
theorem dX5_findWhoAsks_24 : decode cX5_findWhoAsks 24 = .ok (.getfield 14, 3) := by decide +kernel
theorem dX5_findWhoAsks_27 : decode cX5_findWhoAsks 27 = .ok (.aload_n 0, 1) := by decide +kernel
theorem dX5_findWhoAsks_28 : decode cX5_findWhoAsks 28 = .ok (.getfield 112, 3) := by decide +kernel
theorem dX5_findWhoAsks_31 : decode cX5_findWhoAsks 31 = .ok (.invokevirtual 41, 3) := by decide +kernel
theorem dX5_findWhoAsks_34 : decode cX5_findWhoAsks 34 = .ok (.aload_n 1, 1) := by decide +kernel
theorem dX5_findWhoAsks_35 : decode cX5_findWhoAsks 35 = .ok (.iload_n 2, 1) := by decide +kernel
theorem dX5_findWhoAsks_36 : decode cX5_findWhoAsks 36 = .ok (.aload_n 0, 1) := by decide +kernel
theorem dX5_findWhoAsks_37 : decode cX5_findWhoAsks 37 = .ok (.getfield 112, 3) := by decide +kernel
theorem dX5_findWhoAsks_40 : decode cX5_findWhoAsks 40 = .ok (.invokevirtual 131, 3) := by decide +kernel
theorem dX5_findWhoAsks_43 : decode cX5_findWhoAsks 43 = .ok (.iadd, 1) := by decide +kernel
theorem dX5_findWhoAsks_44 : decode cX5_findWhoAsks 44 = .ok (.if_icmp .gt 7, 3) := by decide +kernel
theorem dX5_findWhoAsks_47 : decode cX5_findWhoAsks 47 = .ok (.iconst 1, 1) := by decide +kernel
theorem dX5_findWhoAsks_48 : decode cX5_findWhoAsks 48 = .ok (.goto 4, 3) := by decide +kernel
theorem dX5_findWhoAsks_51 : decode cX5_findWhoAsks 51 = .ok (.iconst 0, 1) := by decide +kernel
theorem dX5_findWhoAsks_52 : decode cX5_findWhoAsks 52 = .ok (.istore_n 3, 1) := by decide +kernel
theorem dX5_findWhoAsks_53 : decode cX5_findWhoAsks 53 = .ok (.aload_n 0, 1) := by decide +kernel
theorem dX5_findWhoAsks_54 : decode cX5_findWhoAsks 54 = .ok (.getfield 45, 3) := by decide +kernel
theorem dX5_findWhoAsks_57 : decode cX5_findWhoAsks 57 = .ok (.iload_n 2, 1) := by decide +kernel
theorem dX5_findWhoAsks_58 : decode cX5_findWhoAsks 58 = .ok (.invokestatic 103, 3) := by decide +kernel
theorem dX5_findWhoAsks_61 : decode cX5_findWhoAsks 61 = .ok (.ifCond .eq 19, 3) := by decide +kernel
theorem dX5_findWhoAsks_64 : decode cX5_findWhoAsks 64 = .ok (.iload_n 3, 1) := by decide +kernel
theorem dX5_findWhoAsks_65 : decode cX5_findWhoAsks 65 = .ok (.ifCond .eq 15, 3) := by decide +kernel
theorem dX5_findWhoAsks_68 : decode cX5_findWhoAsks 68 = .ok (.aload_n 0, 1) := by decide +kernel
theorem dX5_findWhoAsks_69 : decode cX5_findWhoAsks 69 = .ok (.dup, 1) := by decide +kernel
theorem dX5_findWhoAsks_70 : decode cX5_findWhoAsks 70 = .ok (.getfield 125, 3) := by decide +kernel
theorem dX5_findWhoAsks_73 : decode cX5_findWhoAsks 73 = .ok (.iconst 1, 1) := by decide +kernel
theorem dX5_findWhoAsks_74 : decode cX5_findWhoAsks 74 = .ok (.iload_n 2, 1) := by decide +kernel
theorem dX5_findWhoAsks_75 : decode cX5_findWhoAsks 75 = .ok (.ishl, 1) := by decide +kernel
theorem dX5_findWhoAsks_76 : decode cX5_findWhoAsks 76 = .ok (.ior, 1) := by decide +kernel
theorem dX5_findWhoAsks_77 : decode cX5_findWhoAsks 77 = .ok (.putfield 125, 3) := by decide +kernel
theorem dX5_findWhoAsks_80 : decode cX5_findWhoAsks 80 = .ok (.iinc 2 1, 3) := by decide +kernel
theorem dX5_findWhoAsks_83 : decode cX5_findWhoAsks 83 = .ok (.goto (-76), 3) := by decide +kernel
theorem dX5_findWhoAsks_86 : decode cX5_findWhoAsks 86 = .ok (.aload_n 0, 1) := by decide +kernel
theorem dX5_findWhoAsks_87 : decode cX5_findWhoAsks 87 = .ok (.aload_n 0, 1) := by decide +kernel
theorem dX5_findWhoAsks_88 : decode cX5_findWhoAsks 88 = .ok (.getfield 45, 3) := by decide +kernel
theorem dX5_findWhoAsks_91 : decode cX5_findWhoAsks 91 = .ok (.aload_n 0, 1) := by decide +kernel
theorem dX5_findWhoAsks_92 : decode cX5_findWhoAsks 92 = .ok (.getfield 125, 3) := by decide +kernel
theorem dX5_findWhoAsks_95 : decode cX5_findWhoAsks 95 = .ok (.iconst (-1), 1) := by decide +kernel
theorem dX5_findWhoAsks_96 : decode cX5_findWhoAsks 96 = .ok (.ixor, 1) := by decide +kernel
theorem dX5_findWhoAsks_97 : decode cX5_findWhoAsks 97 = .ok (.iand, 1) := by decide +kernel
theorem dX5_findWhoAsks_98 : decode cX5_findWhoAsks 98 = .ok (.putfield 134, 3) := by decide +kernel
theorem dX5_findWhoAsks_101 : decode cX5_findWhoAsks 101 = .ok (.return_, 1) := by decide +kernel
theorem dX5_reckonTimes_0 : decode cX5_reckonTimes 0 = .ok (.aload_n 0, 1) := by decide +kernel
theorem dX5_reckonTimes_1 : decode cX5_reckonTimes 1 = .ok (.aload_n 1, 1) := by decide +kernel
theorem dX5_reckonTimes_2 : decode cX5_reckonTimes 2 = .ok (.invokevirtual 137, 3) := by decide +kernel
theorem dX5_reckonTimes_5 : decode cX5_reckonTimes 5 = .ok (.iload_n 2, 1) := by decide +kernel
theorem dX5_reckonTimes_6 : decode cX5_reckonTimes 6 = .ok (.aload_n 0, 1) := by decide +kernel
theorem dX5_reckonTimes_7 : decode cX5_reckonTimes 7 = .ok (.getfield 109, 3) := by decide +kernel
theorem dX5_reckonTimes_10 : decode cX5_reckonTimes 10 = .ok (.imul, 1) := by decide +kernel
theorem dX5_reckonTimes_11 : decode cX5_reckonTimes 11 = .ok (.iadd, 1) := by decide +kernel
theorem dX5_reckonTimes_12 : decode cX5_reckonTimes 12 = .ok (.istore_n 3, 1) := by decide +kernel
theorem dX5_reckonTimes_13 : decode cX5_reckonTimes 13 = .ok (.aload_n 0, 1) := by decide +kernel
theorem dX5_reckonTimes_14 : decode cX5_reckonTimes 14 = .ok (.iconst 0, 1) := by decide +kernel
theorem dX5_reckonTimes_15 : decode cX5_reckonTimes 15 = .ok (.putfield 141, 3) := by decide +kernel
theorem dX5_reckonTimes_18 : decode cX5_reckonTimes 18 = .ok (.iconst 0, 1) := by decide +kernel
theorem dX5_reckonTimes_19 : decode cX5_reckonTimes 19 = .ok (.istore 4, 2) := by decide +kernel
theorem dX5_reckonTimes_21 : decode cX5_reckonTimes 21 = .ok (.iload 4, 2) := by decide +kernel
theorem dX5_reckonTimes_23 : decode cX5_reckonTimes 23 = .ok (.aload_n 1, 1) := by decide +kernel
theorem dX5_reckonTimes_24 : decode cX5_reckonTimes 24 = .ok (.getfield 128, 3) := by decide +kernel
theorem dX5_reckonTimes_27 : decode cX5_reckonTimes 27 = .ok (.if_icmp .ge 59, 3) := by decide +kernel
theorem dX5_reckonTimes_30 : decode cX5_reckonTimes 30 = .ok (.aload_n 0, 1) := by decide +kernel
theorem dX5_reckonTimes_31 : decode cX5_reckonTimes 31 = .ok (.getfield 45, 3) := by decide +kernel
theorem dX5_reckonTimes_34 : decode cX5_reckonTimes 34 = .ok (.iload 4, 2) := by decide +kernel
theorem dX5_reckonTimes_36 : decode cX5_reckonTimes 36 = .ok (.invokestatic 103, 3) := by decide +kernel
theorem dX5_reckonTimes_39 : decode cX5_reckonTimes 39 = .ok (.ifCond .eq 41, 3) := by decide +kernel
theorem dX5_reckonTimes_42 : decode cX5_reckonTimes 42 = .ok (.iload_n 3, 1) := by decide +kernel
theorem dX5_reckonTimes_43 : decode cX5_reckonTimes 43 = .ok (.aload_n 1, 1) := by decide +kernel
theorem dX5_reckonTimes_44 : decode cX5_reckonTimes 44 = .ok (.iload 4, 2) := by decide +kernel
theorem dX5_reckonTimes_46 : decode cX5_reckonTimes 46 = .ok (.aload_n 0, 1) := by decide +kernel
theorem dX5_reckonTimes_47 : decode cX5_reckonTimes 47 = .ok (.getfield 86, 3) := by decide +kernel
theorem dX5_reckonTimes_50 : decode cX5_reckonTimes 50 = .ok (.invokevirtual 131, 3) := by decide +kernel
theorem dX5_reckonTimes_53 : decode cX5_reckonTimes 53 = .ok (.iadd, 1) := by decide +kernel
theorem dX5_reckonTimes_54 : decode cX5_reckonTimes 54 = .ok (.istore 5, 2) := by decide +kernel
theorem dX5_reckonTimes_56 : decode cX5_reckonTimes 56 = .ok (.aload_n 0, 1) := by decide +kernel
theorem dX5_reckonTimes_57 : decode cX5_reckonTimes 57 = .ok (.getfield 20, 3) := by decide +kernel
theorem dX5_reckonTimes_60 : decode cX5_reckonTimes 60 = .ok (.iload 4, 2) := by decide +kernel
theorem dX5_reckonTimes_62 : decode cX5_reckonTimes 62 = .ok (.iload 5, 2) := by decide +kernel
theorem dX5_reckonTimes_64 : decode cX5_reckonTimes 64 = .ok (.invokevirtual 122, 3) := by decide +kernel
theorem dX5_reckonTimes_67 : decode cX5_reckonTimes 67 = .ok (.aload_n 0, 1) := by decide +kernel
theorem dX5_reckonTimes_68 : decode cX5_reckonTimes 68 = .ok (.aload_n 0, 1) := by decide +kernel
theorem dX5_reckonTimes_69 : decode cX5_reckonTimes 69 = .ok (.getfield 141, 3) := by decide +kernel
theorem dX5_reckonTimes_72 : decode cX5_reckonTimes 72 = .ok (.iload 5, 2) := by decide +kernel
theorem dX5_reckonTimes_74 : decode cX5_reckonTimes 74 = .ok (.invokestatic 144, 3) := by decide +kernel
theorem dX5_reckonTimes_77 : decode cX5_reckonTimes 77 = .ok (.putfield 141, 3) := by decide +kernel
theorem dX5_reckonTimes_80 : decode cX5_reckonTimes 80 = .ok (.iinc 4 1, 3) := by decide +kernel
theorem dX5_reckonTimes_83 : decode cX5_reckonTimes 83 = .ok (.goto (-62), 3) := by decide +kernel
theorem dX5_reckonTimes_86 : decode cX5_reckonTimes 86 = .ok (.return_, 1) := by decide +kernel
theorem dX5_timeOfHearing_0 : decode cX5_timeOfHearing 0 = .ok (.aload_n 0, 1) := by decide +kernel
theorem dX5_timeOfHearing_1 : decode cX5_timeOfHearing 1 = .ok (.getfield 14, 3) := by decide +kernel
theorem dX5_timeOfHearing_4 : decode cX5_timeOfHearing 4 = .ok (.aload_n 0, 1) := by decide +kernel
theorem dX5_timeOfHearing_5 : decode cX5_timeOfHearing 5 = .ok (.getfield 112, 3) := by decide +kernel
theorem dX5_timeOfHearing_8 : decode cX5_timeOfHearing 8 = .ok (.invokevirtual 41, 3) := by decide +kernel
theorem dX5_timeOfHearing_11 : decode cX5_timeOfHearing 11 = .ok (.aload_n 1, 1) := by decide +kernel
theorem dX5_timeOfHearing_12 : decode cX5_timeOfHearing 12 = .ok (.aload_n 0, 1) := by decide +kernel
theorem dX5_timeOfHearing_13 : decode cX5_timeOfHearing 13 = .ok (.getfield 112, 3) := by decide +kernel
theorem dX5_timeOfHearing_16 : decode cX5_timeOfHearing 16 = .ok (.aload_n 0, 1) := by decide +kernel
theorem dX5_timeOfHearing_17 : decode cX5_timeOfHearing 17 = .ok (.getfield 86, 3) := by decide +kernel
theorem dX5_timeOfHearing_20 : decode cX5_timeOfHearing 20 = .ok (.invokevirtual 131, 3) := by decide +kernel
theorem dX5_timeOfHearing_23 : decode cX5_timeOfHearing 23 = .ok (.iadd, 1) := by decide +kernel
theorem dX5_timeOfHearing_24 : decode cX5_timeOfHearing 24 = .ok (.istore_n 2, 1) := by decide +kernel
theorem dX5_timeOfHearing_25 : decode cX5_timeOfHearing 25 = .ok (.iconst 0, 1) := by decide +kernel
theorem dX5_timeOfHearing_26 : decode cX5_timeOfHearing 26 = .ok (.istore_n 3, 1) := by decide +kernel
theorem dX5_timeOfHearing_27 : decode cX5_timeOfHearing 27 = .ok (.iload_n 3, 1) := by decide +kernel
theorem dX5_timeOfHearing_28 : decode cX5_timeOfHearing 28 = .ok (.aload_n 1, 1) := by decide +kernel
theorem dX5_timeOfHearing_29 : decode cX5_timeOfHearing 29 = .ok (.getfield 128, 3) := by decide +kernel
theorem dX5_timeOfHearing_32 : decode cX5_timeOfHearing 32 = .ok (.if_icmp .ge 43, 3) := by decide +kernel
theorem dX5_timeOfHearing_35 : decode cX5_timeOfHearing 35 = .ok (.aload_n 0, 1) := by decide +kernel
theorem dX5_timeOfHearing_36 : decode cX5_timeOfHearing 36 = .ok (.getfield 125, 3) := by decide +kernel
theorem dX5_timeOfHearing_39 : decode cX5_timeOfHearing 39 = .ok (.iload_n 3, 1) := by decide +kernel
theorem dX5_timeOfHearing_40 : decode cX5_timeOfHearing 40 = .ok (.invokestatic 103, 3) := by decide +kernel
theorem dX5_timeOfHearing_43 : decode cX5_timeOfHearing 43 = .ok (.ifCond .eq 26, 3) := by decide +kernel
theorem dX5_timeOfHearing_46 : decode cX5_timeOfHearing 46 = .ok (.iload_n 2, 1) := by decide +kernel
theorem dX5_timeOfHearing_47 : decode cX5_timeOfHearing 47 = .ok (.aload_n 0, 1) := by decide +kernel
theorem dX5_timeOfHearing_48 : decode cX5_timeOfHearing 48 = .ok (.getfield 14, 3) := by decide +kernel
theorem dX5_timeOfHearing_51 : decode cX5_timeOfHearing 51 = .ok (.iload_n 3, 1) := by decide +kernel
theorem dX5_timeOfHearing_52 : decode cX5_timeOfHearing 52 = .ok (.invokevirtual 41, 3) := by decide +kernel
theorem dX5_timeOfHearing_55 : decode cX5_timeOfHearing 55 = .ok (.aload_n 1, 1) := by decide +kernel
theorem dX5_timeOfHearing_56 : decode cX5_timeOfHearing 56 = .ok (.iload_n 3, 1) := by decide +kernel
theorem dX5_timeOfHearing_57 : decode cX5_timeOfHearing 57 = .ok (.aload_n 0, 1) := by decide +kernel
theorem dX5_timeOfHearing_58 : decode cX5_timeOfHearing 58 = .ok (.getfield 86, 3) := by decide +kernel
theorem dX5_timeOfHearing_61 : decode cX5_timeOfHearing 61 = .ok (.invokevirtual 131, 3) := by decide +kernel
theorem dX5_timeOfHearing_64 : decode cX5_timeOfHearing 64 = .ok (.iadd, 1) := by decide +kernel
theorem dX5_timeOfHearing_65 : decode cX5_timeOfHearing 65 = .ok (.invokestatic 149, 3) := by decide +kernel
theorem dX5_timeOfHearing_68 : decode cX5_timeOfHearing 68 = .ok (.istore_n 2, 1) := by decide +kernel
theorem dX5_timeOfHearing_69 : decode cX5_timeOfHearing 69 = .ok (.iinc 3 1, 3) := by decide +kernel
theorem dX5_timeOfHearing_72 : decode cX5_timeOfHearing 72 = .ok (.goto (-45), 3) := by decide +kernel
theorem dX5_timeOfHearing_75 : decode cX5_timeOfHearing 75 = .ok (.iload_n 2, 1) := by decide +kernel
theorem dX5_timeOfHearing_76 : decode cX5_timeOfHearing 76 = .ok (.ireturn, 1) := by decide +kernel
theorem dX5_partOf_0 : decode cX5_partOf 0 = .ok (.iload_n 1, 1) := by decide +kernel
theorem dX5_partOf_1 : decode cX5_partOf 1 = .ok (.aload_n 0, 1) := by decide +kernel
theorem dX5_partOf_2 : decode cX5_partOf 2 = .ok (.getfield 112, 3) := by decide +kernel
theorem dX5_partOf_5 : decode cX5_partOf 5 = .ok (.if_icmp .ne 5, 3) := by decide +kernel
theorem dX5_partOf_8 : decode cX5_partOf 8 = .ok (.iconst 1, 1) := by decide +kernel
theorem dX5_partOf_9 : decode cX5_partOf 9 = .ok (.ireturn, 1) := by decide +kernel
theorem dX5_partOf_10 : decode cX5_partOf 10 = .ok (.aload_n 0, 1) := by decide +kernel
theorem dX5_partOf_11 : decode cX5_partOf 11 = .ok (.getfield 125, 3) := by decide +kernel
theorem dX5_partOf_14 : decode cX5_partOf 14 = .ok (.iload_n 1, 1) := by decide +kernel
theorem dX5_partOf_15 : decode cX5_partOf 15 = .ok (.invokestatic 103, 3) := by decide +kernel
theorem dX5_partOf_18 : decode cX5_partOf 18 = .ok (.ifCond .eq 5, 3) := by decide +kernel
theorem dX5_partOf_21 : decode cX5_partOf 21 = .ok (.iconst 2, 1) := by decide +kernel
theorem dX5_partOf_22 : decode cX5_partOf 22 = .ok (.ireturn, 1) := by decide +kernel
theorem dX5_partOf_23 : decode cX5_partOf 23 = .ok (.aload_n 0, 1) := by decide +kernel
theorem dX5_partOf_24 : decode cX5_partOf 24 = .ok (.getfield 134, 3) := by decide +kernel
theorem dX5_partOf_27 : decode cX5_partOf 27 = .ok (.iload_n 1, 1) := by decide +kernel
theorem dX5_partOf_28 : decode cX5_partOf 28 = .ok (.invokestatic 103, 3) := by decide +kernel
theorem dX5_partOf_31 : decode cX5_partOf 31 = .ok (.ifCond .eq 5, 3) := by decide +kernel
theorem dX5_partOf_34 : decode cX5_partOf 34 = .ok (.iconst 3, 1) := by decide +kernel
theorem dX5_partOf_35 : decode cX5_partOf 35 = .ok (.ireturn, 1) := by decide +kernel
theorem dX5_partOf_36 : decode cX5_partOf 36 = .ok (.iload_n 1, 1) := by decide +kernel
theorem dX5_partOf_37 : decode cX5_partOf 37 = .ok (.aload_n 0, 1) := by decide +kernel
theorem dX5_partOf_38 : decode cX5_partOf 38 = .ok (.getfield 86, 3) := by decide +kernel
theorem dX5_partOf_41 : decode cX5_partOf 41 = .ok (.if_icmp .ne 5, 3) := by decide +kernel
theorem dX5_partOf_44 : decode cX5_partOf 44 = .ok (.iconst 4, 1) := by decide +kernel
theorem dX5_partOf_45 : decode cX5_partOf 45 = .ok (.ireturn, 1) := by decide +kernel
theorem dX5_partOf_46 : decode cX5_partOf 46 = .ok (.aload_n 0, 1) := by decide +kernel
theorem dX5_partOf_47 : decode cX5_partOf 47 = .ok (.getfield 90, 3) := by decide +kernel
theorem dX5_partOf_50 : decode cX5_partOf 50 = .ok (.iload_n 1, 1) := by decide +kernel
theorem dX5_partOf_51 : decode cX5_partOf 51 = .ok (.invokestatic 103, 3) := by decide +kernel
theorem dX5_partOf_54 : decode cX5_partOf 54 = .ok (.ifCond .eq 7, 3) := by decide +kernel
theorem dX5_partOf_57 : decode cX5_partOf 57 = .ok (.iconst 5, 1) := by decide +kernel
theorem dX5_partOf_58 : decode cX5_partOf 58 = .ok (.goto 4, 3) := by decide +kernel
theorem dX5_partOf_61 : decode cX5_partOf 61 = .ok (.iconst 0, 1) := by decide +kernel
theorem dX5_partOf_62 : decode cX5_partOf 62 = .ok (.ireturn, 1) := by decide +kernel
theorem dX6_init_0 : decode cX6_init 0 = .ok (.aload_n 0, 1) := by decide +kernel
theorem dX6_init_1 : decode cX6_init 1 = .ok (.invokespecial 1, 3) := by decide +kernel
theorem dX6_init_4 : decode cX6_init 4 = .ok (.aload_n 0, 1) := by decide +kernel
theorem dX6_init_5 : decode cX6_init 5 = .ok (.iload_n 1, 1) := by decide +kernel
theorem dX6_init_6 : decode cX6_init 6 = .ok (.ifCond .le 7, 3) := by decide +kernel
theorem dX6_init_9 : decode cX6_init 9 = .ok (.iload_n 1, 1) := by decide +kernel
theorem dX6_init_10 : decode cX6_init 10 = .ok (.goto 4, 3) := by decide +kernel
theorem dX6_init_13 : decode cX6_init 13 = .ok (.iconst 0, 1) := by decide +kernel
theorem dX6_init_14 : decode cX6_init 14 = .ok (.newarray .int, 2) := by decide +kernel
theorem dX6_init_16 : decode cX6_init 16 = .ok (.putfield 7, 3) := by decide +kernel
theorem dX6_init_19 : decode cX6_init 19 = .ok (.return_, 1) := by decide +kernel
theorem dX6_at_0 : decode cX6_at 0 = .ok (.iload_n 1, 1) := by decide +kernel
theorem dX6_at_1 : decode cX6_at 1 = .ok (.ifCond .lt 21, 3) := by decide +kernel
theorem dX6_at_4 : decode cX6_at 4 = .ok (.iload_n 1, 1) := by decide +kernel
theorem dX6_at_5 : decode cX6_at 5 = .ok (.aload_n 0, 1) := by decide +kernel
theorem dX6_at_6 : decode cX6_at 6 = .ok (.getfield 7, 3) := by decide +kernel
theorem dX6_at_9 : decode cX6_at 9 = .ok (.arraylength, 1) := by decide +kernel
theorem dX6_at_10 : decode cX6_at 10 = .ok (.if_icmp .ge 12, 3) := by decide +kernel
theorem dX6_at_13 : decode cX6_at 13 = .ok (.aload_n 0, 1) := by decide +kernel
theorem dX6_at_14 : decode cX6_at 14 = .ok (.getfield 7, 3) := by decide +kernel
theorem dX6_at_17 : decode cX6_at 17 = .ok (.iload_n 1, 1) := by decide +kernel
theorem dX6_at_18 : decode cX6_at 18 = .ok (.iaload, 1) := by decide +kernel
theorem dX6_at_19 : decode cX6_at 19 = .ok (.goto 4, 3) := by decide +kernel
theorem dX6_at_22 : decode cX6_at 22 = .ok (.iconst 0, 1) := by decide +kernel
theorem dX6_at_23 : decode cX6_at 23 = .ok (.ireturn, 1) := by decide +kernel
theorem dX6_put_0 : decode cX6_put 0 = .ok (.iload_n 1, 1) := by decide +kernel
theorem dX6_put_1 : decode cX6_put 1 = .ok (.ifCond .lt 19, 3) := by decide +kernel
theorem dX6_put_4 : decode cX6_put 4 = .ok (.iload_n 1, 1) := by decide +kernel
theorem dX6_put_5 : decode cX6_put 5 = .ok (.aload_n 0, 1) := by decide +kernel
theorem dX6_put_6 : decode cX6_put 6 = .ok (.getfield 7, 3) := by decide +kernel
theorem dX6_put_9 : decode cX6_put 9 = .ok (.arraylength, 1) := by decide +kernel
theorem dX6_put_10 : decode cX6_put 10 = .ok (.if_icmp .ge 10, 3) := by decide +kernel
theorem dX6_put_13 : decode cX6_put 13 = .ok (.aload_n 0, 1) := by decide +kernel
theorem dX6_put_14 : decode cX6_put 14 = .ok (.getfield 7, 3) := by decide +kernel
theorem dX6_put_17 : decode cX6_put 17 = .ok (.iload_n 1, 1) := by decide +kernel
theorem dX6_put_18 : decode cX6_put 18 = .ok (.iload_n 2, 1) := by decide +kernel
theorem dX6_put_19 : decode cX6_put 19 = .ok (.iastore, 1) := by decide +kernel
theorem dX6_put_20 : decode cX6_put 20 = .ok (.return_, 1) := by decide +kernel
theorem dX6_add_0 : decode cX6_add 0 = .ok (.aload_n 0, 1) := by decide +kernel
theorem dX6_add_1 : decode cX6_add 1 = .ok (.iload_n 1, 1) := by decide +kernel
theorem dX6_add_2 : decode cX6_add 2 = .ok (.aload_n 0, 1) := by decide +kernel
theorem dX6_add_3 : decode cX6_add 3 = .ok (.iload_n 1, 1) := by decide +kernel
theorem dX6_add_4 : decode cX6_add 4 = .ok (.invokevirtual 13, 3) := by decide +kernel
theorem dX6_add_7 : decode cX6_add 7 = .ok (.iload_n 2, 1) := by decide +kernel
theorem dX6_add_8 : decode cX6_add 8 = .ok (.iadd, 1) := by decide +kernel
theorem dX6_add_9 : decode cX6_add 9 = .ok (.invokevirtual 17, 3) := by decide +kernel
theorem dX6_add_12 : decode cX6_add 12 = .ok (.return_, 1) := by decide +kernel
theorem dX6_swap_0 : decode cX6_swap 0 = .ok (.aload_n 0, 1) := by decide +kernel
theorem dX6_swap_1 : decode cX6_swap 1 = .ok (.iload_n 1, 1) := by decide +kernel
theorem dX6_swap_2 : decode cX6_swap 2 = .ok (.invokevirtual 13, 3) := by decide +kernel
theorem dX6_swap_5 : decode cX6_swap 5 = .ok (.istore_n 3, 1) := by decide +kernel
theorem dX6_swap_6 : decode cX6_swap 6 = .ok (.aload_n 0, 1) := by decide +kernel
theorem dX6_swap_7 : decode cX6_swap 7 = .ok (.iload_n 1, 1) := by decide +kernel
theorem dX6_swap_8 : decode cX6_swap 8 = .ok (.iload_n 2, 1) := by decide +kernel
theorem dX6_swap_9 : decode cX6_swap 9 = .ok (.invokevirtual 17, 3) := by decide +kernel
theorem dX6_swap_12 : decode cX6_swap 12 = .ok (.iload_n 3, 1) := by decide +kernel
theorem dX6_swap_13 : decode cX6_swap 13 = .ok (.ireturn, 1) := by decide +kernel
theorem dX6_copy_0 : decode cX6_copy 0 = .ok (.aload_n 0, 1) := by decide +kernel
theorem dX6_copy_1 : decode cX6_copy 1 = .ok (.getfield 7, 3) := by decide +kernel
theorem dX6_copy_4 : decode cX6_copy 4 = .ok (.arraylength, 1) := by decide +kernel
theorem dX6_copy_5 : decode cX6_copy 5 = .ok (.aload_n 1, 1) := by decide +kernel
theorem dX6_copy_6 : decode cX6_copy 6 = .ok (.getfield 7, 3) := by decide +kernel
theorem dX6_copy_9 : decode cX6_copy 9 = .ok (.arraylength, 1) := by decide +kernel
theorem dX6_copy_10 : decode cX6_copy 10 = .ok (.invokestatic 21, 3) := by decide +kernel
theorem dX6_copy_13 : decode cX6_copy 13 = .ok (.istore_n 2, 1) := by decide +kernel
theorem dX6_copy_14 : decode cX6_copy 14 = .ok (.aload_n 1, 1) := by decide +kernel
theorem dX6_copy_15 : decode cX6_copy 15 = .ok (.getfield 7, 3) := by decide +kernel
theorem dX6_copy_18 : decode cX6_copy 18 = .ok (.iconst 0, 1) := by decide +kernel
theorem dX6_copy_19 : decode cX6_copy 19 = .ok (.aload_n 0, 1) := by decide +kernel
theorem dX6_copy_20 : decode cX6_copy 20 = .ok (.getfield 7, 3) := by decide +kernel
theorem dX6_copy_23 : decode cX6_copy 23 = .ok (.iconst 0, 1) := by decide +kernel
theorem dX6_copy_24 : decode cX6_copy 24 = .ok (.iload_n 2, 1) := by decide +kernel
theorem dX6_copy_25 : decode cX6_copy 25 = .ok (.invokestatic 27, 3) := by decide +kernel
theorem dX6_copy_28 : decode cX6_copy 28 = .ok (.return_, 1) := by decide +kernel
theorem dX7_init_0 : decode cX7_init 0 = .ok (.aload_n 0, 1) := by decide +kernel
theorem dX7_init_1 : decode cX7_init 1 = .ok (.invokespecial 3, 3) := by decide +kernel
theorem dX7_init_4 : decode cX7_init 4 = .ok (.aload_n 0, 1) := by decide +kernel
theorem dX7_init_5 : decode cX7_init 5 = .ok (.new 9, 3) := by decide +kernel
theorem dX7_init_8 : decode cX7_init 8 = .ok (.dup, 1) := by decide +kernel
theorem dX7_init_9 : decode cX7_init 9 = .ok (.iconst 5, 1) := by decide +kernel
theorem dX7_init_10 : decode cX7_init 10 = .ok (.invokespecial 11, 3) := by decide +kernel
theorem dX7_init_13 : decode cX7_init 13 = .ok (.putfield 14, 3) := by decide +kernel
theorem dX7_init_16 : decode cX7_init 16 = .ok (.aload_n 0, 1) := by decide +kernel
theorem dX7_init_17 : decode cX7_init 17 = .ok (.new 20, 3) := by decide +kernel
theorem dX7_init_20 : decode cX7_init 20 = .ok (.dup, 1) := by decide +kernel
theorem dX7_init_21 : decode cX7_init 21 = .ok (.invokespecial 22, 3) := by decide +kernel
theorem dX7_init_24 : decode cX7_init 24 = .ok (.putfield 23, 3) := by decide +kernel
theorem dX7_init_27 : decode cX7_init 27 = .ok (.aload_n 0, 1) := by decide +kernel
theorem dX7_init_28 : decode cX7_init 28 = .ok (.new 27, 3) := by decide +kernel
theorem dX7_init_31 : decode cX7_init 31 = .ok (.dup, 1) := by decide +kernel
theorem dX7_init_32 : decode cX7_init 32 = .ok (.invokespecial 29, 3) := by decide +kernel
theorem dX7_init_35 : decode cX7_init 35 = .ok (.putfield 30, 3) := by decide +kernel
theorem dX7_init_38 : decode cX7_init 38 = .ok (.aload_n 0, 1) := by decide +kernel
theorem dX7_init_39 : decode cX7_init 39 = .ok (.new 9, 3) := by decide +kernel
theorem dX7_init_42 : decode cX7_init 42 = .ok (.dup, 1) := by decide +kernel
theorem dX7_init_43 : decode cX7_init 43 = .ok (.sipush 200, 3) := by decide +kernel
theorem dX7_init_46 : decode cX7_init 46 = .ok (.invokespecial 11, 3) := by decide +kernel
theorem dX7_init_49 : decode cX7_init 49 = .ok (.putfield 34, 3) := by decide +kernel
theorem dX7_init_52 : decode cX7_init 52 = .ok (.aload_n 0, 1) := by decide +kernel
theorem dX7_init_53 : decode cX7_init 53 = .ok (.new 37, 3) := by decide +kernel
theorem dX7_init_56 : decode cX7_init 56 = .ok (.dup, 1) := by decide +kernel
theorem dX7_init_57 : decode cX7_init 57 = .ok (.invokespecial 39, 3) := by decide +kernel
theorem dX7_init_60 : decode cX7_init 60 = .ok (.putfield 40, 3) := by decide +kernel
theorem dX7_init_63 : decode cX7_init 63 = .ok (.aload_n 0, 1) := by decide +kernel
theorem dX7_init_64 : decode cX7_init 64 = .ok (.getfield 14, 3) := by decide +kernel
theorem dX7_init_67 : decode cX7_init 67 = .ok (.iconst 0, 1) := by decide +kernel
theorem dX7_init_68 : decode cX7_init 68 = .ok (.bipush 100, 2) := by decide +kernel
theorem dX7_init_70 : decode cX7_init 70 = .ok (.invokevirtual 44, 3) := by decide +kernel
theorem dX7_init_73 : decode cX7_init 73 = .ok (.aload_n 0, 1) := by decide +kernel
theorem dX7_init_74 : decode cX7_init 74 = .ok (.getfield 14, 3) := by decide +kernel
theorem dX7_init_77 : decode cX7_init 77 = .ok (.iconst 1, 1) := by decide +kernel
theorem dX7_init_78 : decode cX7_init 78 = .ok (.bipush 50, 2) := by decide +kernel
theorem dX7_init_80 : decode cX7_init 80 = .ok (.invokevirtual 44, 3) := by decide +kernel
theorem dX7_init_83 : decode cX7_init 83 = .ok (.aload_n 0, 1) := by decide +kernel
theorem dX7_init_84 : decode cX7_init 84 = .ok (.getfield 14, 3) := by decide +kernel
theorem dX7_init_87 : decode cX7_init 87 = .ok (.iconst 2, 1) := by decide +kernel
theorem dX7_init_88 : decode cX7_init 88 = .ok (.iconst 2, 1) := by decide +kernel
theorem dX7_init_89 : decode cX7_init 89 = .ok (.invokevirtual 44, 3) := by decide +kernel
theorem dX7_init_92 : decode cX7_init 92 = .ok (.aload_n 0, 1) := by decide +kernel
theorem dX7_init_93 : decode cX7_init 93 = .ok (.getfield 14, 3) := by decide +kernel
theorem dX7_init_96 : decode cX7_init 96 = .ok (.iconst 3, 1) := by decide +kernel
theorem dX7_init_97 : decode cX7_init 97 = .ok (.iconst 5, 1) := by decide +kernel
theorem dX7_init_98 : decode cX7_init 98 = .ok (.invokevirtual 44, 3) := by decide +kernel
theorem dX7_init_101 : decode cX7_init 101 = .ok (.aload_n 0, 1) := by decide +kernel
theorem dX7_init_102 : decode cX7_init 102 = .ok (.getfield 14, 3) := by decide +kernel
theorem dX7_init_105 : decode cX7_init 105 = .ok (.iconst 4, 1) := by decide +kernel
theorem dX7_init_106 : decode cX7_init 106 = .ok (.iconst 3, 1) := by decide +kernel
theorem dX7_init_107 : decode cX7_init 107 = .ok (.invokevirtual 44, 3) := by decide +kernel
theorem dX7_init_110 : decode cX7_init 110 = .ok (.return_, 1) := by decide +kernel
theorem dX7_blocksLostBy_0 : decode cX7_blocksLostBy 0 = .ok (.iconst 0, 1) := by decide +kernel
theorem dX7_blocksLostBy_1 : decode cX7_blocksLostBy 1 = .ok (.istore_n 2, 1) := by decide +kernel
theorem dX7_blocksLostBy_2 : decode cX7_blocksLostBy 2 = .ok (.iconst 0, 1) := by decide +kernel
theorem dX7_blocksLostBy_3 : decode cX7_blocksLostBy 3 = .ok (.istore_n 3, 1) := by decide +kernel
theorem dX7_blocksLostBy_4 : decode cX7_blocksLostBy 4 = .ok (.iload_n 3, 1) := by decide +kernel
theorem dX7_blocksLostBy_5 : decode cX7_blocksLostBy 5 = .ok (.sipush 200, 3) := by decide +kernel
theorem dX7_blocksLostBy_8 : decode cX7_blocksLostBy 8 = .ok (.if_icmp .ge 32, 3) := by decide +kernel
theorem dX7_blocksLostBy_11 : decode cX7_blocksLostBy 11 = .ok (.iload_n 2, 1) := by decide +kernel
theorem dX7_blocksLostBy_12 : decode cX7_blocksLostBy 12 = .ok (.aload_n 0, 1) := by decide +kernel
theorem dX7_blocksLostBy_13 : decode cX7_blocksLostBy 13 = .ok (.getfield 34, 3) := by decide +kernel
theorem dX7_blocksLostBy_16 : decode cX7_blocksLostBy 16 = .ok (.iload_n 3, 1) := by decide +kernel
theorem dX7_blocksLostBy_17 : decode cX7_blocksLostBy 17 = .ok (.invokevirtual 48, 3) := by decide +kernel
theorem dX7_blocksLostBy_20 : decode cX7_blocksLostBy 20 = .ok (.iload_n 1, 1) := by decide +kernel
theorem dX7_blocksLostBy_21 : decode cX7_blocksLostBy 21 = .ok (.invokestatic 52, 3) := by decide +kernel
theorem dX7_blocksLostBy_24 : decode cX7_blocksLostBy 24 = .ok (.ifCond .eq 7, 3) := by decide +kernel
theorem dX7_blocksLostBy_27 : decode cX7_blocksLostBy 27 = .ok (.iconst 1, 1) := by decide +kernel
theorem dX7_blocksLostBy_28 : decode cX7_blocksLostBy 28 = .ok (.goto 4, 3) := by decide +kernel
theorem dX7_blocksLostBy_31 : decode cX7_blocksLostBy 31 = .ok (.iconst 0, 1) := by decide +kernel
theorem dX7_blocksLostBy_32 : decode cX7_blocksLostBy 32 = .ok (.iadd, 1) := by decide +kernel
theorem dX7_blocksLostBy_33 : decode cX7_blocksLostBy 33 = .ok (.istore_n 2, 1) := by decide +kernel
theorem dX7_blocksLostBy_34 : decode cX7_blocksLostBy 34 = .ok (.iinc 3 1, 3) := by decide +kernel
theorem dX7_blocksLostBy_37 : decode cX7_blocksLostBy 37 = .ok (.goto (-33), 3) := by decide +kernel
theorem dX7_blocksLostBy_40 : decode cX7_blocksLostBy 40 = .ok (.iload_n 2, 1) := by decide +kernel
theorem dX7_blocksLostBy_41 : decode cX7_blocksLostBy 41 = .ok (.ireturn, 1) := by decide +kernel
theorem dX7_carryOut_0 : decode cX7_carryOut 0 = .ok (.aload_n 0, 1) := by decide +kernel
theorem dX7_carryOut_1 : decode cX7_carryOut 1 = .ok (.getfield 34, 3) := by decide +kernel
theorem dX7_carryOut_4 : decode cX7_carryOut 4 = .ok (.aload_n 1, 1) := by decide +kernel
theorem dX7_carryOut_5 : decode cX7_carryOut 5 = .ok (.getfield 58, 3) := by decide +kernel
theorem dX7_carryOut_8 : decode cX7_carryOut 8 = .ok (.aload_n 0, 1) := by decide +kernel
theorem dX7_carryOut_9 : decode cX7_carryOut 9 = .ok (.getfield 34, 3) := by decide +kernel
theorem dX7_carryOut_12 : decode cX7_carryOut 12 = .ok (.aload_n 1, 1) := by decide +kernel
theorem dX7_carryOut_13 : decode cX7_carryOut 13 = .ok (.getfield 58, 3) := by decide +kernel
theorem dX7_carryOut_16 : decode cX7_carryOut 16 = .ok (.invokevirtual 48, 3) := by decide +kernel
theorem dX7_carryOut_19 : decode cX7_carryOut 19 = .ok (.aload_n 1, 1) := by decide +kernel
theorem dX7_carryOut_20 : decode cX7_carryOut 20 = .ok (.getfield 64, 3) := by decide +kernel
theorem dX7_carryOut_23 : decode cX7_carryOut 23 = .ok (.iconst (-1), 1) := by decide +kernel
theorem dX7_carryOut_24 : decode cX7_carryOut 24 = .ok (.ixor, 1) := by decide +kernel
theorem dX7_carryOut_25 : decode cX7_carryOut 25 = .ok (.iand, 1) := by decide +kernel
theorem dX7_carryOut_26 : decode cX7_carryOut 26 = .ok (.invokevirtual 44, 3) := by decide +kernel
theorem dX7_carryOut_29 : decode cX7_carryOut 29 = .ok (.aload_n 0, 1) := by decide +kernel
theorem dX7_carryOut_30 : decode cX7_carryOut 30 = .ok (.getfield 23, 3) := by decide +kernel
theorem dX7_carryOut_33 : decode cX7_carryOut 33 = .ok (.getfield 67, 3) := by decide +kernel
theorem dX7_carryOut_36 : decode cX7_carryOut 36 = .ok (.aload_n 1, 1) := by decide +kernel
theorem dX7_carryOut_37 : decode cX7_carryOut 37 = .ok (.getfield 70, 3) := by decide +kernel
theorem dX7_carryOut_40 : decode cX7_carryOut 40 = .ok (.aload_n 0, 1) := by decide +kernel
theorem dX7_carryOut_41 : decode cX7_carryOut 41 = .ok (.getfield 14, 3) := by decide +kernel
theorem dX7_carryOut_44 : decode cX7_carryOut 44 = .ok (.iconst 3, 1) := by decide +kernel
theorem dX7_carryOut_45 : decode cX7_carryOut 45 = .ok (.invokevirtual 48, 3) := by decide +kernel
theorem dX7_carryOut_48 : decode cX7_carryOut 48 = .ok (.invokevirtual 73, 3) := by decide +kernel
theorem dX7_carryOut_51 : decode cX7_carryOut 51 = .ok (.aload_n 0, 1) := by decide +kernel
theorem dX7_carryOut_52 : decode cX7_carryOut 52 = .ok (.getfield 23, 3) := by decide +kernel
theorem dX7_carryOut_55 : decode cX7_carryOut 55 = .ok (.getfield 76, 3) := by decide +kernel
theorem dX7_carryOut_58 : decode cX7_carryOut 58 = .ok (.aload_n 1, 1) := by decide +kernel
theorem dX7_carryOut_59 : decode cX7_carryOut 59 = .ok (.getfield 70, 3) := by decide +kernel
theorem dX7_carryOut_62 : decode cX7_carryOut 62 = .ok (.iconst 1, 1) := by decide +kernel
theorem dX7_carryOut_63 : decode cX7_carryOut 63 = .ok (.invokevirtual 73, 3) := by decide +kernel
theorem dX7_carryOut_66 : decode cX7_carryOut 66 = .ok (.iconst 0, 1) := by decide +kernel
theorem dX7_carryOut_67 : decode cX7_carryOut 67 = .ok (.istore_n 2, 1) := by decide +kernel
theorem dX7_carryOut_68 : decode cX7_carryOut 68 = .ok (.iload_n 2, 1) := by decide +kernel
theorem dX7_carryOut_69 : decode cX7_carryOut 69 = .ok (.aload_n 0, 1) := by decide +kernel
theorem dX7_carryOut_70 : decode cX7_carryOut 70 = .ok (.getfield 23, 3) := by decide +kernel
theorem dX7_carryOut_73 : decode cX7_carryOut 73 = .ok (.getfield 79, 3) := by decide +kernel
theorem dX7_carryOut_76 : decode cX7_carryOut 76 = .ok (.if_icmp .ge 52, 3) := by decide +kernel
theorem dX7_carryOut_79 : decode cX7_carryOut 79 = .ok (.aload_n 1, 1) := by decide +kernel
theorem dX7_carryOut_80 : decode cX7_carryOut 80 = .ok (.getfield 82, 3) := by decide +kernel
theorem dX7_carryOut_83 : decode cX7_carryOut 83 = .ok (.iload_n 2, 1) := by decide +kernel
theorem dX7_carryOut_84 : decode cX7_carryOut 84 = .ok (.invokestatic 52, 3) := by decide +kernel
theorem dX7_carryOut_87 : decode cX7_carryOut 87 = .ok (.ifCond .eq 35, 3) := by decide +kernel
theorem dX7_carryOut_90 : decode cX7_carryOut 90 = .ok (.aload_n 0, 1) := by decide +kernel
theorem dX7_carryOut_91 : decode cX7_carryOut 91 = .ok (.getfield 23, 3) := by decide +kernel
theorem dX7_carryOut_94 : decode cX7_carryOut 94 = .ok (.getfield 67, 3) := by decide +kernel
theorem dX7_carryOut_97 : decode cX7_carryOut 97 = .ok (.iload_n 2, 1) := by decide +kernel
theorem dX7_carryOut_98 : decode cX7_carryOut 98 = .ok (.aload_n 0, 1) := by decide +kernel
theorem dX7_carryOut_99 : decode cX7_carryOut 99 = .ok (.getfield 14, 3) := by decide +kernel
theorem dX7_carryOut_102 : decode cX7_carryOut 102 = .ok (.iconst 4, 1) := by decide +kernel
theorem dX7_carryOut_103 : decode cX7_carryOut 103 = .ok (.invokevirtual 48, 3) := by decide +kernel
theorem dX7_carryOut_106 : decode cX7_carryOut 106 = .ok (.ineg, 1) := by decide +kernel
theorem dX7_carryOut_107 : decode cX7_carryOut 107 = .ok (.invokevirtual 73, 3) := by decide +kernel
theorem dX7_carryOut_110 : decode cX7_carryOut 110 = .ok (.aload_n 0, 1) := by decide +kernel
theorem dX7_carryOut_111 : decode cX7_carryOut 111 = .ok (.getfield 23, 3) := by decide +kernel
theorem dX7_carryOut_114 : decode cX7_carryOut 114 = .ok (.getfield 85, 3) := by decide +kernel
theorem dX7_carryOut_117 : decode cX7_carryOut 117 = .ok (.iload_n 2, 1) := by decide +kernel
theorem dX7_carryOut_118 : decode cX7_carryOut 118 = .ok (.iconst 1, 1) := by decide +kernel
theorem dX7_carryOut_119 : decode cX7_carryOut 119 = .ok (.invokevirtual 73, 3) := by decide +kernel
theorem dX7_carryOut_122 : decode cX7_carryOut 122 = .ok (.iinc 2 1, 3) := by decide +kernel
theorem dX7_carryOut_125 : decode cX7_carryOut 125 = .ok (.goto (-57), 3) := by decide +kernel
theorem dX7_carryOut_128 : decode cX7_carryOut 128 = .ok (.aload_n 0, 1) := by decide +kernel
theorem dX7_carryOut_129 : decode cX7_carryOut 129 = .ok (.getfield 40, 3) := by decide +kernel
theorem dX7_carryOut_132 : decode cX7_carryOut 132 = .ok (.aload_n 1, 1) := by decide +kernel
theorem dX7_carryOut_133 : decode cX7_carryOut 133 = .ok (.aload_n 0, 1) := by decide +kernel
theorem dX7_carryOut_134 : decode cX7_carryOut 134 = .ok (.getfield 30, 3) := by decide +kernel
theorem dX7_carryOut_137 : decode cX7_carryOut 137 = .ok (.getfield 88, 3) := by decide +kernel
theorem dX7_carryOut_140 : decode cX7_carryOut 140 = .ok (.invokevirtual 91, 3) := by decide +kernel
theorem dX7_carryOut_143 : decode cX7_carryOut 143 = .ok (.return_, 1) := by decide +kernel
theorem dX7_copy_0 : decode cX7_copy 0 = .ok (.aload_n 0, 1) := by decide +kernel
theorem dX7_copy_1 : decode cX7_copy 1 = .ok (.getfield 14, 3) := by decide +kernel
theorem dX7_copy_4 : decode cX7_copy 4 = .ok (.aload_n 1, 1) := by decide +kernel
theorem dX7_copy_5 : decode cX7_copy 5 = .ok (.getfield 14, 3) := by decide +kernel
theorem dX7_copy_8 : decode cX7_copy 8 = .ok (.invokevirtual 94, 3) := by decide +kernel
theorem dX7_copy_11 : decode cX7_copy 11 = .ok (.aload_n 0, 1) := by decide +kernel
theorem dX7_copy_12 : decode cX7_copy 12 = .ok (.getfield 23, 3) := by decide +kernel
theorem dX7_copy_15 : decode cX7_copy 15 = .ok (.aload_n 1, 1) := by decide +kernel
theorem dX7_copy_16 : decode cX7_copy 16 = .ok (.getfield 23, 3) := by decide +kernel
theorem dX7_copy_19 : decode cX7_copy 19 = .ok (.invokevirtual 98, 3) := by decide +kernel
theorem dX7_copy_22 : decode cX7_copy 22 = .ok (.aload_n 0, 1) := by decide +kernel
theorem dX7_copy_23 : decode cX7_copy 23 = .ok (.getfield 30, 3) := by decide +kernel
theorem dX7_copy_26 : decode cX7_copy 26 = .ok (.aload_n 1, 1) := by decide +kernel
theorem dX7_copy_27 : decode cX7_copy 27 = .ok (.getfield 30, 3) := by decide +kernel
theorem dX7_copy_30 : decode cX7_copy 30 = .ok (.invokevirtual 101, 3) := by decide +kernel
theorem dX7_copy_33 : decode cX7_copy 33 = .ok (.aload_n 0, 1) := by decide +kernel
theorem dX7_copy_34 : decode cX7_copy 34 = .ok (.getfield 34, 3) := by decide +kernel
theorem dX7_copy_37 : decode cX7_copy 37 = .ok (.aload_n 1, 1) := by decide +kernel
theorem dX7_copy_38 : decode cX7_copy 38 = .ok (.getfield 34, 3) := by decide +kernel
theorem dX7_copy_41 : decode cX7_copy 41 = .ok (.invokevirtual 94, 3) := by decide +kernel
theorem dX7_copy_44 : decode cX7_copy 44 = .ok (.aload_n 0, 1) := by decide +kernel
theorem dX7_copy_45 : decode cX7_copy 45 = .ok (.getfield 40, 3) := by decide +kernel
theorem dX7_copy_48 : decode cX7_copy 48 = .ok (.aload_n 1, 1) := by decide +kernel
theorem dX7_copy_49 : decode cX7_copy 49 = .ok (.getfield 40, 3) := by decide +kernel
theorem dX7_copy_52 : decode cX7_copy 52 = .ok (.invokevirtual 104, 3) := by decide +kernel
theorem dX7_copy_55 : decode cX7_copy 55 = .ok (.return_, 1) := by decide +kernel
theorem dX8_init_0 : decode cX8_init 0 = .ok (.aload_n 0, 1) := by decide +kernel
theorem dX8_init_1 : decode cX8_init 1 = .ok (.invokespecial 3, 3) := by decide +kernel
theorem dX8_init_4 : decode cX8_init 4 = .ok (.aload_n 0, 1) := by decide +kernel
theorem dX8_init_5 : decode cX8_init 5 = .ok (.new 9, 3) := by decide +kernel
theorem dX8_init_8 : decode cX8_init 8 = .ok (.dup, 1) := by decide +kernel
theorem dX8_init_9 : decode cX8_init 9 = .ok (.bipush 60, 2) := by decide +kernel
theorem dX8_init_11 : decode cX8_init 11 = .ok (.invokespecial 11, 3) := by decide +kernel
theorem dX8_init_14 : decode cX8_init 14 = .ok (.putfield 14, 3) := by decide +kernel
theorem dX8_init_17 : decode cX8_init 17 = .ok (.return_, 1) := by decide +kernel
theorem dX8_append_0 : decode cX8_append 0 = .ok (.aload_n 0, 1) := by decide +kernel
theorem dX8_append_1 : decode cX8_append 1 = .ok (.getfield 20, 3) := by decide +kernel
theorem dX8_append_4 : decode cX8_append 4 = .ok (.bipush 60, 2) := by decide +kernel
theorem dX8_append_6 : decode cX8_append 6 = .ok (.if_icmp .lt 5, 3) := by decide +kernel
theorem dX8_append_9 : decode cX8_append 9 = .ok (.iconst 0, 1) := by decide +kernel
theorem dX8_append_10 : decode cX8_append 10 = .ok (.ireturn, 1) := by decide +kernel
theorem dX8_append_11 : decode cX8_append 11 = .ok (.aload_n 0, 1) := by decide +kernel
theorem dX8_append_12 : decode cX8_append 12 = .ok (.getfield 14, 3) := by decide +kernel
theorem dX8_append_15 : decode cX8_append 15 = .ok (.aload_n 0, 1) := by decide +kernel
theorem dX8_append_16 : decode cX8_append 16 = .ok (.getfield 20, 3) := by decide +kernel
theorem dX8_append_19 : decode cX8_append 19 = .ok (.iload_n 1, 1) := by decide +kernel
theorem dX8_append_20 : decode cX8_append 20 = .ok (.invokevirtual 24, 3) := by decide +kernel
theorem dX8_append_23 : decode cX8_append 23 = .ok (.aload_n 0, 1) := by decide +kernel
theorem dX8_append_24 : decode cX8_append 24 = .ok (.dup, 1) := by decide +kernel
theorem dX8_append_25 : decode cX8_append 25 = .ok (.getfield 20, 3) := by decide +kernel
theorem dX8_append_28 : decode cX8_append 28 = .ok (.iconst 1, 1) := by decide +kernel
theorem dX8_append_29 : decode cX8_append 29 = .ok (.iadd, 1) := by decide +kernel
theorem dX8_append_30 : decode cX8_append 30 = .ok (.putfield 20, 3) := by decide +kernel
theorem dX8_append_33 : decode cX8_append 33 = .ok (.iconst 1, 1) := by decide +kernel
theorem dX8_append_34 : decode cX8_append 34 = .ok (.ireturn, 1) := by decide +kernel
theorem dX8_empty_0 : decode cX8_empty 0 = .ok (.aload_n 0, 1) := by decide +kernel
theorem dX8_empty_1 : decode cX8_empty 1 = .ok (.getfield 20, 3) := by decide +kernel
theorem dX8_empty_4 : decode cX8_empty 4 = .ok (.istore_n 1, 1) := by decide +kernel
theorem dX8_empty_5 : decode cX8_empty 5 = .ok (.aload_n 0, 1) := by decide +kernel
theorem dX8_empty_6 : decode cX8_empty 6 = .ok (.iconst 0, 1) := by decide +kernel
theorem dX8_empty_7 : decode cX8_empty 7 = .ok (.putfield 20, 3) := by decide +kernel
theorem dX8_empty_10 : decode cX8_empty 10 = .ok (.iload_n 1, 1) := by decide +kernel
theorem dX8_empty_11 : decode cX8_empty 11 = .ok (.ireturn, 1) := by decide +kernel
theorem dX8_isDigit_0 : decode cX8_isDigit 0 = .ok (.iload_n 0, 1) := by decide +kernel
theorem dX8_isDigit_1 : decode cX8_isDigit 1 = .ok (.bipush 48, 2) := by decide +kernel
theorem dX8_isDigit_3 : decode cX8_isDigit 3 = .ok (.if_icmp .lt 13, 3) := by decide +kernel
theorem dX8_isDigit_6 : decode cX8_isDigit 6 = .ok (.iload_n 0, 1) := by decide +kernel
theorem dX8_isDigit_7 : decode cX8_isDigit 7 = .ok (.bipush 57, 2) := by decide +kernel
theorem dX8_isDigit_9 : decode cX8_isDigit 9 = .ok (.if_icmp .gt 7, 3) := by decide +kernel
theorem dX8_isDigit_12 : decode cX8_isDigit 12 = .ok (.iconst 1, 1) := by decide +kernel
theorem dX8_isDigit_13 : decode cX8_isDigit 13 = .ok (.goto 4, 3) := by decide +kernel
theorem dX8_isDigit_16 : decode cX8_isDigit 16 = .ok (.iconst 0, 1) := by decide +kernel
theorem dX8_isDigit_17 : decode cX8_isDigit 17 = .ok (.ireturn, 1) := by decide +kernel
theorem dX8_errorPlace_0 : decode cX8_errorPlace 0 = .ok (.aload_n 0, 1) := by decide +kernel
theorem dX8_errorPlace_1 : decode cX8_errorPlace 1 = .ok (.iload_n 1, 1) := by decide +kernel
theorem dX8_errorPlace_2 : decode cX8_errorPlace 2 = .ok (.invokevirtual 28, 3) := by decide +kernel
theorem dX8_errorPlace_5 : decode cX8_errorPlace 5 = .ok (.istore_n 2, 1) := by decide +kernel
theorem dX8_errorPlace_6 : decode cX8_errorPlace 6 = .ok (.iload_n 2, 1) := by decide +kernel
theorem dX8_errorPlace_7 : decode cX8_errorPlace 7 = .ok (.ifCond .lt 7, 3) := by decide +kernel
theorem dX8_errorPlace_10 : decode cX8_errorPlace 10 = .ok (.iload_n 2, 1) := by decide +kernel
theorem dX8_errorPlace_11 : decode cX8_errorPlace 11 = .ok (.goto 7, 3) := by decide +kernel
theorem dX8_errorPlace_14 : decode cX8_errorPlace 14 = .ok (.aload_n 0, 1) := by decide +kernel
theorem dX8_errorPlace_15 : decode cX8_errorPlace 15 = .ok (.invokevirtual 32, 3) := by decide +kernel
theorem dX8_errorPlace_18 : decode cX8_errorPlace 18 = .ok (.ireturn, 1) := by decide +kernel
theorem dX8_wrongSignPlace_0 : decode cX8_wrongSignPlace 0 = .ok (.iconst 0, 1) := by decide +kernel
theorem dX8_wrongSignPlace_1 : decode cX8_wrongSignPlace 1 = .ok (.istore_n 2, 1) := by decide +kernel
theorem dX8_wrongSignPlace_2 : decode cX8_wrongSignPlace 2 = .ok (.iconst 0, 1) := by decide +kernel
theorem dX8_wrongSignPlace_3 : decode cX8_wrongSignPlace 3 = .ok (.istore_n 3, 1) := by decide +kernel
theorem dX8_wrongSignPlace_4 : decode cX8_wrongSignPlace 4 = .ok (.iconst 0, 1) := by decide +kernel
theorem dX8_wrongSignPlace_5 : decode cX8_wrongSignPlace 5 = .ok (.istore 4, 2) := by decide +kernel
theorem dX8_wrongSignPlace_7 : decode cX8_wrongSignPlace 7 = .ok (.iload 4, 2) := by decide +kernel
theorem dX8_wrongSignPlace_9 : decode cX8_wrongSignPlace 9 = .ok (.aload_n 0, 1) := by decide +kernel
theorem dX8_wrongSignPlace_10 : decode cX8_wrongSignPlace 10 = .ok (.getfield 20, 3) := by decide +kernel
theorem dX8_wrongSignPlace_13 : decode cX8_wrongSignPlace 13 = .ok (.if_icmp .ge 93, 3) := by decide +kernel
theorem dX8_wrongSignPlace_16 : decode cX8_wrongSignPlace 16 = .ok (.aload_n 0, 1) := by decide +kernel
theorem dX8_wrongSignPlace_17 : decode cX8_wrongSignPlace 17 = .ok (.getfield 14, 3) := by decide +kernel
theorem dX8_wrongSignPlace_20 : decode cX8_wrongSignPlace 20 = .ok (.iload 4, 2) := by decide +kernel
theorem dX8_wrongSignPlace_22 : decode cX8_wrongSignPlace 22 = .ok (.invokevirtual 36, 3) := by decide +kernel
theorem dX8_wrongSignPlace_25 : decode cX8_wrongSignPlace 25 = .ok (.istore 5, 2) := by decide +kernel
theorem dX8_wrongSignPlace_27 : decode cX8_wrongSignPlace 27 = .ok (.iload 5, 2) := by decide +kernel
theorem dX8_wrongSignPlace_29 : decode cX8_wrongSignPlace 29 = .ok (.invokestatic 39, 3) := by decide +kernel
theorem dX8_wrongSignPlace_32 : decode cX8_wrongSignPlace 32 = .ok (.ifCond .eq 30, 3) := by decide +kernel
theorem dX8_wrongSignPlace_35 : decode cX8_wrongSignPlace 35 = .ok (.iload_n 2, 1) := by decide +kernel
theorem dX8_wrongSignPlace_36 : decode cX8_wrongSignPlace 36 = .ok (.ifCond .eq 15, 3) := by decide +kernel
theorem dX8_wrongSignPlace_39 : decode cX8_wrongSignPlace 39 = .ok (.iload 5, 2) := by decide +kernel
theorem dX8_wrongSignPlace_41 : decode cX8_wrongSignPlace 41 = .ok (.bipush 48, 2) := by decide +kernel
theorem dX8_wrongSignPlace_43 : decode cX8_wrongSignPlace 43 = .ok (.isub, 1) := by decide +kernel
theorem dX8_wrongSignPlace_44 : decode cX8_wrongSignPlace 44 = .ok (.iload_n 1, 1) := by decide +kernel
theorem dX8_wrongSignPlace_45 : decode cX8_wrongSignPlace 45 = .ok (.if_icmp .ge 17, 3) := by decide +kernel
theorem dX8_wrongSignPlace_48 : decode cX8_wrongSignPlace 48 = .ok (.goto 8, 3) := by decide +kernel
theorem dX8_wrongSignPlace_51 : decode cX8_wrongSignPlace 51 = .ok (.iload_n 3, 1) := by decide +kernel
theorem dX8_wrongSignPlace_52 : decode cX8_wrongSignPlace 52 = .ok (.iconst 3, 1) := by decide +kernel
theorem dX8_wrongSignPlace_53 : decode cX8_wrongSignPlace 53 = .ok (.if_icmp .ge 9, 3) := by decide +kernel
theorem dX8_wrongSignPlace_56 : decode cX8_wrongSignPlace 56 = .ok (.iinc 3 1, 3) := by decide +kernel
theorem dX8_wrongSignPlace_59 : decode cX8_wrongSignPlace 59 = .ok (.goto 41, 3) := by decide +kernel
theorem dX8_wrongSignPlace_62 : decode cX8_wrongSignPlace 62 = .ok (.iload 5, 2) := by decide +kernel
theorem dX8_wrongSignPlace_64 : decode cX8_wrongSignPlace 64 = .ok (.iload_n 2, 1) := by decide +kernel
theorem dX8_wrongSignPlace_65 : decode cX8_wrongSignPlace 65 = .ok (.ifCond .eq 8, 3) := by decide +kernel
theorem dX8_wrongSignPlace_68 : decode cX8_wrongSignPlace 68 = .ok (.bipush 59, 2) := by decide +kernel
theorem dX8_wrongSignPlace_70 : decode cX8_wrongSignPlace 70 = .ok (.goto 5, 3) := by decide +kernel
theorem dX8_wrongSignPlace_73 : decode cX8_wrongSignPlace 73 = .ok (.bipush 58, 2) := by decide +kernel
theorem dX8_wrongSignPlace_75 : decode cX8_wrongSignPlace 75 = .ok (.if_icmp .ne 22, 3) := by decide +kernel
theorem dX8_wrongSignPlace_78 : decode cX8_wrongSignPlace 78 = .ok (.iload_n 3, 1) := by decide +kernel
theorem dX8_wrongSignPlace_79 : decode cX8_wrongSignPlace 79 = .ok (.ifCond .le 18, 3) := by decide +kernel
theorem dX8_wrongSignPlace_82 : decode cX8_wrongSignPlace 82 = .ok (.iload_n 2, 1) := by decide +kernel
theorem dX8_wrongSignPlace_83 : decode cX8_wrongSignPlace 83 = .ok (.ifCond .ne 7, 3) := by decide +kernel
theorem dX8_wrongSignPlace_86 : decode cX8_wrongSignPlace 86 = .ok (.iconst 1, 1) := by decide +kernel
theorem dX8_wrongSignPlace_87 : decode cX8_wrongSignPlace 87 = .ok (.goto 4, 3) := by decide +kernel
theorem dX8_wrongSignPlace_90 : decode cX8_wrongSignPlace 90 = .ok (.iconst 0, 1) := by decide +kernel
theorem dX8_wrongSignPlace_91 : decode cX8_wrongSignPlace 91 = .ok (.istore_n 2, 1) := by decide +kernel
theorem dX8_wrongSignPlace_92 : decode cX8_wrongSignPlace 92 = .ok (.iconst 0, 1) := by decide +kernel
theorem dX8_wrongSignPlace_93 : decode cX8_wrongSignPlace 93 = .ok (.istore_n 3, 1) := by decide +kernel
theorem dX8_wrongSignPlace_94 : decode cX8_wrongSignPlace 94 = .ok (.goto 6, 3) := by decide +kernel
theorem dX8_wrongSignPlace_97 : decode cX8_wrongSignPlace 97 = .ok (.iload 4, 2) := by decide +kernel
theorem dX8_wrongSignPlace_99 : decode cX8_wrongSignPlace 99 = .ok (.ireturn, 1) := by decide +kernel
theorem dX8_wrongSignPlace_100 : decode cX8_wrongSignPlace 100 = .ok (.iinc 4 1, 3) := by decide +kernel
theorem dX8_wrongSignPlace_103 : decode cX8_wrongSignPlace 103 = .ok (.goto (-96), 3) := by decide +kernel
theorem dX8_wrongSignPlace_106 : decode cX8_wrongSignPlace 106 = .ok (.iload_n 2, 1) := by decide +kernel
theorem dX8_wrongSignPlace_107 : decode cX8_wrongSignPlace 107 = .ok (.ifCond .eq 11, 3) := by decide +kernel
theorem dX8_wrongSignPlace_110 : decode cX8_wrongSignPlace 110 = .ok (.iload_n 3, 1) := by decide +kernel
theorem dX8_wrongSignPlace_111 : decode cX8_wrongSignPlace 111 = .ok (.ifCond .le 7, 3) := by decide +kernel
theorem dX8_wrongSignPlace_114 : decode cX8_wrongSignPlace 114 = .ok (.iconst (-1), 1) := by decide +kernel
theorem dX8_wrongSignPlace_115 : decode cX8_wrongSignPlace 115 = .ok (.goto 7, 3) := by decide +kernel
theorem dX8_wrongSignPlace_118 : decode cX8_wrongSignPlace 118 = .ok (.aload_n 0, 1) := by decide +kernel
theorem dX8_wrongSignPlace_119 : decode cX8_wrongSignPlace 119 = .ok (.getfield 20, 3) := by decide +kernel
theorem dX8_wrongSignPlace_122 : decode cX8_wrongSignPlace 122 = .ok (.ireturn, 1) := by decide +kernel
theorem dX8_greatBlockPlace_0 : decode cX8_greatBlockPlace 0 = .ok (.iconst 0, 1) := by decide +kernel
theorem dX8_greatBlockPlace_1 : decode cX8_greatBlockPlace 1 = .ok (.istore_n 1, 1) := by decide +kernel
theorem dX8_greatBlockPlace_2 : decode cX8_greatBlockPlace 2 = .ok (.iconst 0, 1) := by decide +kernel
theorem dX8_greatBlockPlace_3 : decode cX8_greatBlockPlace 3 = .ok (.istore_n 2, 1) := by decide +kernel
theorem dX8_greatBlockPlace_4 : decode cX8_greatBlockPlace 4 = .ok (.iload_n 2, 1) := by decide +kernel
theorem dX8_greatBlockPlace_5 : decode cX8_greatBlockPlace 5 = .ok (.aload_n 0, 1) := by decide +kernel
theorem dX8_greatBlockPlace_6 : decode cX8_greatBlockPlace 6 = .ok (.getfield 20, 3) := by decide +kernel
theorem dX8_greatBlockPlace_9 : decode cX8_greatBlockPlace 9 = .ok (.if_icmp .ge 50, 3) := by decide +kernel
theorem dX8_greatBlockPlace_12 : decode cX8_greatBlockPlace 12 = .ok (.aload_n 0, 1) := by decide +kernel
theorem dX8_greatBlockPlace_13 : decode cX8_greatBlockPlace 13 = .ok (.getfield 14, 3) := by decide +kernel
theorem dX8_greatBlockPlace_16 : decode cX8_greatBlockPlace 16 = .ok (.iload_n 2, 1) := by decide +kernel
theorem dX8_greatBlockPlace_17 : decode cX8_greatBlockPlace 17 = .ok (.invokevirtual 36, 3) := by decide +kernel
theorem dX8_greatBlockPlace_20 : decode cX8_greatBlockPlace 20 = .ok (.istore_n 3, 1) := by decide +kernel
theorem dX8_greatBlockPlace_21 : decode cX8_greatBlockPlace 21 = .ok (.iload_n 3, 1) := by decide +kernel
theorem dX8_greatBlockPlace_22 : decode cX8_greatBlockPlace 22 = .ok (.bipush 59, 2) := by decide +kernel
theorem dX8_greatBlockPlace_24 : decode cX8_greatBlockPlace 24 = .ok (.if_icmp .ne 10, 3) := by decide +kernel
theorem dX8_greatBlockPlace_27 : decode cX8_greatBlockPlace 27 = .ok (.iload_n 2, 1) := by decide +kernel
theorem dX8_greatBlockPlace_28 : decode cX8_greatBlockPlace 28 = .ok (.iconst 1, 1) := by decide +kernel
theorem dX8_greatBlockPlace_29 : decode cX8_greatBlockPlace 29 = .ok (.iadd, 1) := by decide +kernel
theorem dX8_greatBlockPlace_30 : decode cX8_greatBlockPlace 30 = .ok (.istore_n 1, 1) := by decide +kernel
theorem dX8_greatBlockPlace_31 : decode cX8_greatBlockPlace 31 = .ok (.goto 22, 3) := by decide +kernel
theorem dX8_greatBlockPlace_34 : decode cX8_greatBlockPlace 34 = .ok (.iload_n 3, 1) := by decide +kernel
theorem dX8_greatBlockPlace_35 : decode cX8_greatBlockPlace 35 = .ok (.bipush 58, 2) := by decide +kernel
theorem dX8_greatBlockPlace_37 : decode cX8_greatBlockPlace 37 = .ok (.if_icmp .ne 16, 3) := by decide +kernel
theorem dX8_greatBlockPlace_40 : decode cX8_greatBlockPlace 40 = .ok (.aload_n 0, 1) := by decide +kernel
theorem dX8_greatBlockPlace_41 : decode cX8_greatBlockPlace 41 = .ok (.iload_n 1, 1) := by decide +kernel
theorem dX8_greatBlockPlace_42 : decode cX8_greatBlockPlace 42 = .ok (.invokevirtual 43, 3) := by decide +kernel
theorem dX8_greatBlockPlace_45 : decode cX8_greatBlockPlace 45 = .ok (.sipush 200, 3) := by decide +kernel
theorem dX8_greatBlockPlace_48 : decode cX8_greatBlockPlace 48 = .ok (.if_icmp .lt 5, 3) := by decide +kernel
theorem dX8_greatBlockPlace_51 : decode cX8_greatBlockPlace 51 = .ok (.iload_n 1, 1) := by decide +kernel
theorem dX8_greatBlockPlace_52 : decode cX8_greatBlockPlace 52 = .ok (.ireturn, 1) := by decide +kernel
theorem dX8_greatBlockPlace_53 : decode cX8_greatBlockPlace 53 = .ok (.iinc 2 1, 3) := by decide +kernel
theorem dX8_greatBlockPlace_56 : decode cX8_greatBlockPlace 56 = .ok (.goto (-52), 3) := by decide +kernel
theorem dX8_greatBlockPlace_59 : decode cX8_greatBlockPlace 59 = .ok (.iconst (-1), 1) := by decide +kernel
theorem dX8_greatBlockPlace_60 : decode cX8_greatBlockPlace 60 = .ok (.ireturn, 1) := by decide +kernel
theorem dX8_numberFrom_0 : decode cX8_numberFrom 0 = .ok (.iconst 0, 1) := by decide +kernel
theorem dX8_numberFrom_1 : decode cX8_numberFrom 1 = .ok (.istore_n 2, 1) := by decide +kernel
theorem dX8_numberFrom_2 : decode cX8_numberFrom 2 = .ok (.iload_n 1, 1) := by decide +kernel
theorem dX8_numberFrom_3 : decode cX8_numberFrom 3 = .ok (.istore_n 3, 1) := by decide +kernel
theorem dX8_numberFrom_4 : decode cX8_numberFrom 4 = .ok (.iload_n 3, 1) := by decide +kernel
theorem dX8_numberFrom_5 : decode cX8_numberFrom 5 = .ok (.aload_n 0, 1) := by decide +kernel
theorem dX8_numberFrom_6 : decode cX8_numberFrom 6 = .ok (.getfield 20, 3) := by decide +kernel
theorem dX8_numberFrom_9 : decode cX8_numberFrom 9 = .ok (.if_icmp .ge 40, 3) := by decide +kernel
theorem dX8_numberFrom_12 : decode cX8_numberFrom 12 = .ok (.aload_n 0, 1) := by decide +kernel
theorem dX8_numberFrom_13 : decode cX8_numberFrom 13 = .ok (.getfield 14, 3) := by decide +kernel
theorem dX8_numberFrom_16 : decode cX8_numberFrom 16 = .ok (.iload_n 3, 1) := by decide +kernel
theorem dX8_numberFrom_17 : decode cX8_numberFrom 17 = .ok (.invokevirtual 36, 3) := by decide +kernel
theorem dX8_numberFrom_20 : decode cX8_numberFrom 20 = .ok (.invokestatic 39, 3) := by decide +kernel
theorem dX8_numberFrom_23 : decode cX8_numberFrom 23 = .ok (.ifCond .eq 26, 3) := by decide +kernel
theorem dX8_numberFrom_26 : decode cX8_numberFrom 26 = .ok (.iload_n 2, 1) := by decide +kernel
theorem dX8_numberFrom_27 : decode cX8_numberFrom 27 = .ok (.bipush 10, 2) := by decide +kernel
theorem dX8_numberFrom_29 : decode cX8_numberFrom 29 = .ok (.imul, 1) := by decide +kernel
theorem dX8_numberFrom_30 : decode cX8_numberFrom 30 = .ok (.aload_n 0, 1) := by decide +kernel
theorem dX8_numberFrom_31 : decode cX8_numberFrom 31 = .ok (.getfield 14, 3) := by decide +kernel
theorem dX8_numberFrom_34 : decode cX8_numberFrom 34 = .ok (.iload_n 3, 1) := by decide +kernel
theorem dX8_numberFrom_35 : decode cX8_numberFrom 35 = .ok (.invokevirtual 36, 3) := by decide +kernel
theorem dX8_numberFrom_38 : decode cX8_numberFrom 38 = .ok (.iadd, 1) := by decide +kernel
theorem dX8_numberFrom_39 : decode cX8_numberFrom 39 = .ok (.bipush 48, 2) := by decide +kernel
theorem dX8_numberFrom_41 : decode cX8_numberFrom 41 = .ok (.isub, 1) := by decide +kernel
theorem dX8_numberFrom_42 : decode cX8_numberFrom 42 = .ok (.istore_n 2, 1) := by decide +kernel
theorem dX8_numberFrom_43 : decode cX8_numberFrom 43 = .ok (.iinc 3 1, 3) := by decide +kernel
theorem dX8_numberFrom_46 : decode cX8_numberFrom 46 = .ok (.goto (-42), 3) := by decide +kernel
theorem dX8_numberFrom_49 : decode cX8_numberFrom 49 = .ok (.iload_n 2, 1) := by decide +kernel
theorem dX8_numberFrom_50 : decode cX8_numberFrom 50 = .ok (.ireturn, 1) := by decide +kernel
theorem dX8_enterLosses_0 : decode cX8_enterLosses 0 = .ok (.iconst 0, 1) := by decide +kernel
theorem dX8_enterLosses_1 : decode cX8_enterLosses 1 = .ok (.istore_n 2, 1) := by decide +kernel
theorem dX8_enterLosses_2 : decode cX8_enterLosses 2 = .ok (.aload_n 0, 1) := by decide +kernel
theorem dX8_enterLosses_3 : decode cX8_enterLosses 3 = .ok (.iconst 0, 1) := by decide +kernel
theorem dX8_enterLosses_4 : decode cX8_enterLosses 4 = .ok (.invokevirtual 43, 3) := by decide +kernel
theorem dX8_enterLosses_7 : decode cX8_enterLosses 7 = .ok (.istore_n 3, 1) := by decide +kernel
theorem dX8_enterLosses_8 : decode cX8_enterLosses 8 = .ok (.iconst 0, 1) := by decide +kernel
theorem dX8_enterLosses_9 : decode cX8_enterLosses 9 = .ok (.istore 4, 2) := by decide +kernel
theorem dX8_enterLosses_11 : decode cX8_enterLosses 11 = .ok (.iconst 0, 1) := by decide +kernel
theorem dX8_enterLosses_12 : decode cX8_enterLosses 12 = .ok (.istore 5, 2) := by decide +kernel
theorem dX8_enterLosses_14 : decode cX8_enterLosses 14 = .ok (.iload 5, 2) := by decide +kernel
theorem dX8_enterLosses_16 : decode cX8_enterLosses 16 = .ok (.aload_n 0, 1) := by decide +kernel
theorem dX8_enterLosses_17 : decode cX8_enterLosses 17 = .ok (.getfield 20, 3) := by decide +kernel
theorem dX8_enterLosses_20 : decode cX8_enterLosses 20 = .ok (.if_icmp .ge 100, 3) := by decide +kernel
theorem dX8_enterLosses_23 : decode cX8_enterLosses 23 = .ok (.aload_n 0, 1) := by decide +kernel
theorem dX8_enterLosses_24 : decode cX8_enterLosses 24 = .ok (.getfield 14, 3) := by decide +kernel
theorem dX8_enterLosses_27 : decode cX8_enterLosses 27 = .ok (.iload 5, 2) := by decide +kernel
theorem dX8_enterLosses_29 : decode cX8_enterLosses 29 = .ok (.invokevirtual 36, 3) := by decide +kernel
theorem dX8_enterLosses_32 : decode cX8_enterLosses 32 = .ok (.istore 6, 2) := by decide +kernel
theorem dX8_enterLosses_34 : decode cX8_enterLosses 34 = .ok (.iload 6, 2) := by decide +kernel
theorem dX8_enterLosses_36 : decode cX8_enterLosses 36 = .ok (.bipush 58, 2) := by decide +kernel
theorem dX8_enterLosses_38 : decode cX8_enterLosses 38 = .ok (.if_icmp .ne 9, 3) := by decide +kernel
theorem dX8_enterLosses_41 : decode cX8_enterLosses 41 = .ok (.iconst 1, 1) := by decide +kernel
theorem dX8_enterLosses_42 : decode cX8_enterLosses 42 = .ok (.istore 4, 2) := by decide +kernel
theorem dX8_enterLosses_44 : decode cX8_enterLosses 44 = .ok (.goto 70, 3) := by decide +kernel
theorem dX8_enterLosses_47 : decode cX8_enterLosses 47 = .ok (.iload 6, 2) := by decide +kernel
theorem dX8_enterLosses_49 : decode cX8_enterLosses 49 = .ok (.bipush 59, 2) := by decide +kernel
theorem dX8_enterLosses_51 : decode cX8_enterLosses 51 = .ok (.if_icmp .ne 18, 3) := by decide +kernel
theorem dX8_enterLosses_54 : decode cX8_enterLosses 54 = .ok (.iconst 0, 1) := by decide +kernel
theorem dX8_enterLosses_55 : decode cX8_enterLosses 55 = .ok (.istore 4, 2) := by decide +kernel
theorem dX8_enterLosses_57 : decode cX8_enterLosses 57 = .ok (.aload_n 0, 1) := by decide +kernel
theorem dX8_enterLosses_58 : decode cX8_enterLosses 58 = .ok (.iload 5, 2) := by decide +kernel
theorem dX8_enterLosses_60 : decode cX8_enterLosses 60 = .ok (.iconst 1, 1) := by decide +kernel
theorem dX8_enterLosses_61 : decode cX8_enterLosses 61 = .ok (.iadd, 1) := by decide +kernel
theorem dX8_enterLosses_62 : decode cX8_enterLosses 62 = .ok (.invokevirtual 43, 3) := by decide +kernel
theorem dX8_enterLosses_65 : decode cX8_enterLosses 65 = .ok (.istore_n 3, 1) := by decide +kernel
theorem dX8_enterLosses_66 : decode cX8_enterLosses 66 = .ok (.goto 48, 3) := by decide +kernel
theorem dX8_enterLosses_69 : decode cX8_enterLosses 69 = .ok (.iload 4, 2) := by decide +kernel
theorem dX8_enterLosses_71 : decode cX8_enterLosses 71 = .ok (.ifCond .eq 43, 3) := by decide +kernel
theorem dX8_enterLosses_74 : decode cX8_enterLosses 74 = .ok (.aload_n 1, 1) := by decide +kernel
theorem dX8_enterLosses_75 : decode cX8_enterLosses 75 = .ok (.iload_n 3, 1) := by decide +kernel
theorem dX8_enterLosses_76 : decode cX8_enterLosses 76 = .ok (.invokevirtual 36, 3) := by decide +kernel
theorem dX8_enterLosses_79 : decode cX8_enterLosses 79 = .ok (.istore 7, 2) := by decide +kernel
theorem dX8_enterLosses_81 : decode cX8_enterLosses 81 = .ok (.aload_n 1, 1) := by decide +kernel
theorem dX8_enterLosses_82 : decode cX8_enterLosses 82 = .ok (.iload_n 3, 1) := by decide +kernel
theorem dX8_enterLosses_83 : decode cX8_enterLosses 83 = .ok (.iload 7, 2) := by decide +kernel
theorem dX8_enterLosses_85 : decode cX8_enterLosses 85 = .ok (.iconst 1, 1) := by decide +kernel
theorem dX8_enterLosses_86 : decode cX8_enterLosses 86 = .ok (.iload 6, 2) := by decide +kernel
theorem dX8_enterLosses_88 : decode cX8_enterLosses 88 = .ok (.bipush 48, 2) := by decide +kernel
theorem dX8_enterLosses_90 : decode cX8_enterLosses 90 = .ok (.isub, 1) := by decide +kernel
theorem dX8_enterLosses_91 : decode cX8_enterLosses 91 = .ok (.ishl, 1) := by decide +kernel
theorem dX8_enterLosses_92 : decode cX8_enterLosses 92 = .ok (.ior, 1) := by decide +kernel
theorem dX8_enterLosses_93 : decode cX8_enterLosses 93 = .ok (.invokevirtual 24, 3) := by decide +kernel
theorem dX8_enterLosses_96 : decode cX8_enterLosses 96 = .ok (.iload_n 2, 1) := by decide +kernel
theorem dX8_enterLosses_97 : decode cX8_enterLosses 97 = .ok (.aload_n 1, 1) := by decide +kernel
theorem dX8_enterLosses_98 : decode cX8_enterLosses 98 = .ok (.iload_n 3, 1) := by decide +kernel
theorem dX8_enterLosses_99 : decode cX8_enterLosses 99 = .ok (.invokevirtual 36, 3) := by decide +kernel
theorem dX8_enterLosses_102 : decode cX8_enterLosses 102 = .ok (.iload 7, 2) := by decide +kernel
theorem dX8_enterLosses_104 : decode cX8_enterLosses 104 = .ok (.if_icmp .ne 7, 3) := by decide +kernel
theorem dX8_enterLosses_107 : decode cX8_enterLosses 107 = .ok (.iconst 0, 1) := by decide +kernel
theorem dX8_enterLosses_108 : decode cX8_enterLosses 108 = .ok (.goto 4, 3) := by decide +kernel
theorem dX8_enterLosses_111 : decode cX8_enterLosses 111 = .ok (.iconst 1, 1) := by decide +kernel
theorem dX8_enterLosses_112 : decode cX8_enterLosses 112 = .ok (.iadd, 1) := by decide +kernel
theorem dX8_enterLosses_113 : decode cX8_enterLosses 113 = .ok (.istore_n 2, 1) := by decide +kernel
theorem dX8_enterLosses_114 : decode cX8_enterLosses 114 = .ok (.iinc 5 1, 3) := by decide +kernel
theorem dX8_enterLosses_117 : decode cX8_enterLosses 117 = .ok (.goto (-103), 3) := by decide +kernel
theorem dX8_enterLosses_120 : decode cX8_enterLosses 120 = .ok (.iload_n 2, 1) := by decide +kernel
theorem dX8_enterLosses_121 : decode cX8_enterLosses 121 = .ok (.ireturn, 1) := by decide +kernel
theorem dX9_init_0 : decode cX9_init 0 = .ok (.aload_n 0, 1) := by decide +kernel
theorem dX9_init_1 : decode cX9_init 1 = .ok (.invokespecial 3, 3) := by decide +kernel
theorem dX9_init_4 : decode cX9_init 4 = .ok (.aload_n 0, 1) := by decide +kernel
theorem dX9_init_5 : decode cX9_init 5 = .ok (.new 9, 3) := by decide +kernel
theorem dX9_init_8 : decode cX9_init 8 = .ok (.dup, 1) := by decide +kernel
theorem dX9_init_9 : decode cX9_init 9 = .ok (.invokespecial 11, 3) := by decide +kernel
theorem dX9_init_12 : decode cX9_init 12 = .ok (.putfield 12, 3) := by decide +kernel
theorem dX9_init_15 : decode cX9_init 15 = .ok (.aload_n 0, 1) := by decide +kernel
theorem dX9_init_16 : decode cX9_init 16 = .ok (.new 16, 3) := by decide +kernel
theorem dX9_init_19 : decode cX9_init 19 = .ok (.dup, 1) := by decide +kernel
theorem dX9_init_20 : decode cX9_init 20 = .ok (.invokespecial 18, 3) := by decide +kernel
theorem dX9_init_23 : decode cX9_init 23 = .ok (.putfield 19, 3) := by decide +kernel
theorem dX9_init_26 : decode cX9_init 26 = .ok (.aload_n 0, 1) := by decide +kernel
theorem dX9_init_27 : decode cX9_init 27 = .ok (.new 23, 3) := by decide +kernel
theorem dX9_init_30 : decode cX9_init 30 = .ok (.dup, 1) := by decide +kernel
theorem dX9_init_31 : decode cX9_init 31 = .ok (.invokespecial 25, 3) := by decide +kernel
theorem dX9_init_34 : decode cX9_init 34 = .ok (.putfield 26, 3) := by decide +kernel
theorem dX9_init_37 : decode cX9_init 37 = .ok (.aload_n 0, 1) := by decide +kernel
theorem dX9_init_38 : decode cX9_init 38 = .ok (.new 30, 3) := by decide +kernel
theorem dX9_init_41 : decode cX9_init 41 = .ok (.dup, 1) := by decide +kernel
theorem dX9_init_42 : decode cX9_init 42 = .ok (.invokespecial 32, 3) := by decide +kernel
theorem dX9_init_45 : decode cX9_init 45 = .ok (.putfield 33, 3) := by decide +kernel
theorem dX9_init_48 : decode cX9_init 48 = .ok (.aload_n 0, 1) := by decide +kernel
theorem dX9_init_49 : decode cX9_init 49 = .ok (.new 37, 3) := by decide +kernel
theorem dX9_init_52 : decode cX9_init 52 = .ok (.dup, 1) := by decide +kernel
theorem dX9_init_53 : decode cX9_init 53 = .ok (.invokespecial 39, 3) := by decide +kernel
theorem dX9_init_56 : decode cX9_init 56 = .ok (.putfield 40, 3) := by decide +kernel
theorem dX9_init_59 : decode cX9_init 59 = .ok (.return_, 1) := by decide +kernel
theorem dX9_join_0 : decode cX9_join 0 = .ok (.iload_n 1, 1) := by decide +kernel
theorem dX9_join_1 : decode cX9_join 1 = .ok (.invokestatic 44, 3) := by decide +kernel
theorem dX9_join_4 : decode cX9_join 4 = .ok (.ifCond .eq 10, 3) := by decide +kernel
theorem dX9_join_7 : decode cX9_join 7 = .ok (.iload_n 2, 1) := by decide +kernel
theorem dX9_join_8 : decode cX9_join 8 = .ok (.invokestatic 48, 3) := by decide +kernel
theorem dX9_join_11 : decode cX9_join 11 = .ok (.ifCond .ne 6, 3) := by decide +kernel
theorem dX9_join_14 : decode cX9_join 14 = .ok (.ldc 51, 2) := by decide +kernel
theorem dX9_join_16 : decode cX9_join 16 = .ok (.ireturn, 1) := by decide +kernel
theorem dX9_join_17 : decode cX9_join 17 = .ok (.aload_n 0, 1) := by decide +kernel
theorem dX9_join_18 : decode cX9_join 18 = .ok (.getfield 12, 3) := by decide +kernel
theorem dX9_join_21 : decode cX9_join 21 = .ok (.getfield 52, 3) := by decide +kernel
theorem dX9_join_24 : decode cX9_join 24 = .ok (.getfield 56, 3) := by decide +kernel
theorem dX9_join_27 : decode cX9_join 27 = .ok (.bipush 10, 2) := by decide +kernel
theorem dX9_join_29 : decode cX9_join 29 = .ok (.if_icmp .lt 6, 3) := by decide +kernel
theorem dX9_join_32 : decode cX9_join 32 = .ok (.ldc 62, 2) := by decide +kernel
theorem dX9_join_34 : decode cX9_join 34 = .ok (.ireturn, 1) := by decide +kernel
theorem dX9_join_35 : decode cX9_join 35 = .ok (.aload_n 0, 1) := by decide +kernel
theorem dX9_join_36 : decode cX9_join 36 = .ok (.getfield 19, 3) := by decide +kernel
theorem dX9_join_39 : decode cX9_join 39 = .ok (.aload_n 0, 1) := by decide +kernel
theorem dX9_join_40 : decode cX9_join 40 = .ok (.getfield 12, 3) := by decide +kernel
theorem dX9_join_43 : decode cX9_join 43 = .ok (.invokevirtual 63, 3) := by decide +kernel
theorem dX9_join_46 : decode cX9_join 46 = .ok (.aload_n 0, 1) := by decide +kernel
theorem dX9_join_47 : decode cX9_join 47 = .ok (.getfield 12, 3) := by decide +kernel
theorem dX9_join_50 : decode cX9_join 50 = .ok (.getfield 52, 3) := by decide +kernel
theorem dX9_join_53 : decode cX9_join 53 = .ok (.iload_n 1, 1) := by decide +kernel
theorem dX9_join_54 : decode cX9_join 54 = .ok (.iload_n 2, 1) := by decide +kernel
theorem dX9_join_55 : decode cX9_join 55 = .ok (.invokevirtual 67, 3) := by decide +kernel
theorem dX9_join_58 : decode cX9_join 58 = .ok (.ireturn, 1) := by decide +kernel
theorem dX9_change_0 : decode cX9_change 0 = .ok (.aload_n 0, 1) := by decide +kernel
theorem dX9_change_1 : decode cX9_change 1 = .ok (.iload_n 1, 1) := by decide +kernel
theorem dX9_change_2 : decode cX9_change 2 = .ok (.invokevirtual 71, 3) := by decide +kernel
theorem dX9_change_5 : decode cX9_change 5 = .ok (.ifCond .ne 6, 3) := by decide +kernel
theorem dX9_change_8 : decode cX9_change 8 = .ok (.ldc 51, 2) := by decide +kernel
theorem dX9_change_10 : decode cX9_change 10 = .ok (.ireturn, 1) := by decide +kernel
theorem dX9_change_11 : decode cX9_change 11 = .ok (.iload_n 2, 1) := by decide +kernel
theorem dX9_change_12 : decode cX9_change 12 = .ok (.ifCond .ne 37, 3) := by decide +kernel
theorem dX9_change_15 : decode cX9_change 15 = .ok (.iload_n 3, 1) := by decide +kernel
theorem dX9_change_16 : decode cX9_change 16 = .ok (.invokestatic 44, 3) := by decide +kernel
theorem dX9_change_19 : decode cX9_change 19 = .ok (.ifCond .eq 30, 3) := by decide +kernel
theorem dX9_change_22 : decode cX9_change 22 = .ok (.aload_n 0, 1) := by decide +kernel
theorem dX9_change_23 : decode cX9_change 23 = .ok (.getfield 19, 3) := by decide +kernel
theorem dX9_change_26 : decode cX9_change 26 = .ok (.aload_n 0, 1) := by decide +kernel
theorem dX9_change_27 : decode cX9_change 27 = .ok (.getfield 12, 3) := by decide +kernel
theorem dX9_change_30 : decode cX9_change 30 = .ok (.invokevirtual 63, 3) := by decide +kernel
theorem dX9_change_33 : decode cX9_change 33 = .ok (.aload_n 0, 1) := by decide +kernel
theorem dX9_change_34 : decode cX9_change 34 = .ok (.getfield 12, 3) := by decide +kernel
theorem dX9_change_37 : decode cX9_change 37 = .ok (.getfield 52, 3) := by decide +kernel
theorem dX9_change_40 : decode cX9_change 40 = .ok (.getfield 74, 3) := by decide +kernel
theorem dX9_change_43 : decode cX9_change 43 = .ok (.iload_n 1, 1) := by decide +kernel
theorem dX9_change_44 : decode cX9_change 44 = .ok (.iload_n 3, 1) := by decide +kernel
theorem dX9_change_45 : decode cX9_change 45 = .ok (.invokevirtual 78, 3) := by decide +kernel
theorem dX9_change_48 : decode cX9_change 48 = .ok (.ireturn, 1) := by decide +kernel
theorem dX9_change_49 : decode cX9_change 49 = .ok (.iload_n 2, 1) := by decide +kernel
theorem dX9_change_50 : decode cX9_change 50 = .ok (.iconst 1, 1) := by decide +kernel
theorem dX9_change_51 : decode cX9_change 51 = .ok (.if_icmp .ne 37, 3) := by decide +kernel
theorem dX9_change_54 : decode cX9_change 54 = .ok (.iload_n 3, 1) := by decide +kernel
theorem dX9_change_55 : decode cX9_change 55 = .ok (.invokestatic 48, 3) := by decide +kernel
theorem dX9_change_58 : decode cX9_change 58 = .ok (.ifCond .eq 30, 3) := by decide +kernel
theorem dX9_change_61 : decode cX9_change 61 = .ok (.aload_n 0, 1) := by decide +kernel
theorem dX9_change_62 : decode cX9_change 62 = .ok (.getfield 19, 3) := by decide +kernel
theorem dX9_change_65 : decode cX9_change 65 = .ok (.aload_n 0, 1) := by decide +kernel
theorem dX9_change_66 : decode cX9_change 66 = .ok (.getfield 12, 3) := by decide +kernel
theorem dX9_change_69 : decode cX9_change 69 = .ok (.invokevirtual 63, 3) := by decide +kernel
theorem dX9_change_72 : decode cX9_change 72 = .ok (.aload_n 0, 1) := by decide +kernel
theorem dX9_change_73 : decode cX9_change 73 = .ok (.getfield 12, 3) := by decide +kernel
theorem dX9_change_76 : decode cX9_change 76 = .ok (.getfield 52, 3) := by decide +kernel
theorem dX9_change_79 : decode cX9_change 79 = .ok (.getfield 83, 3) := by decide +kernel
theorem dX9_change_82 : decode cX9_change 82 = .ok (.iload_n 1, 1) := by decide +kernel
theorem dX9_change_83 : decode cX9_change 83 = .ok (.iload_n 3, 1) := by decide +kernel
theorem dX9_change_84 : decode cX9_change 84 = .ok (.invokevirtual 78, 3) := by decide +kernel
theorem dX9_change_87 : decode cX9_change 87 = .ok (.ireturn, 1) := by decide +kernel
theorem dX9_change_88 : decode cX9_change 88 = .ok (.ldc 51, 2) := by decide +kernel
theorem dX9_change_90 : decode cX9_change 90 = .ok (.ireturn, 1) := by decide +kernel
theorem dX9_live_0 : decode cX9_live 0 = .ok (.aload_n 0, 1) := by decide +kernel
theorem dX9_live_1 : decode cX9_live 1 = .ok (.iload_n 1, 1) := by decide +kernel
theorem dX9_live_2 : decode cX9_live 2 = .ok (.invokevirtual 71, 3) := by decide +kernel
theorem dX9_live_5 : decode cX9_live 5 = .ok (.ifCond .ne 6, 3) := by decide +kernel
theorem dX9_live_8 : decode cX9_live 8 = .ok (.ldc 51, 2) := by decide +kernel
theorem dX9_live_10 : decode cX9_live 10 = .ok (.ireturn, 1) := by decide +kernel
theorem dX9_live_11 : decode cX9_live 11 = .ok (.aload_n 0, 1) := by decide +kernel
theorem dX9_live_12 : decode cX9_live 12 = .ok (.getfield 19, 3) := by decide +kernel
theorem dX9_live_15 : decode cX9_live 15 = .ok (.aload_n 0, 1) := by decide +kernel
theorem dX9_live_16 : decode cX9_live 16 = .ok (.getfield 12, 3) := by decide +kernel
theorem dX9_live_19 : decode cX9_live 19 = .ok (.invokevirtual 63, 3) := by decide +kernel
theorem dX9_live_22 : decode cX9_live 22 = .ok (.aload_n 0, 1) := by decide +kernel
theorem dX9_live_23 : decode cX9_live 23 = .ok (.getfield 12, 3) := by decide +kernel
theorem dX9_live_26 : decode cX9_live 26 = .ok (.getfield 52, 3) := by decide +kernel
theorem dX9_live_29 : decode cX9_live 29 = .ok (.iload_n 1, 1) := by decide +kernel
theorem dX9_live_30 : decode cX9_live 30 = .ok (.invokevirtual 86, 3) := by decide +kernel
theorem dX9_live_33 : decode cX9_live 33 = .ok (.ifCond .eq 7, 3) := by decide +kernel
theorem dX9_live_36 : decode cX9_live 36 = .ok (.iconst 1, 1) := by decide +kernel
theorem dX9_live_37 : decode cX9_live 37 = .ok (.goto 4, 3) := by decide +kernel
theorem dX9_live_40 : decode cX9_live 40 = .ok (.iconst 0, 1) := by decide +kernel
theorem dX9_live_41 : decode cX9_live 41 = .ok (.istore_n 3, 1) := by decide +kernel
theorem dX9_live_42 : decode cX9_live 42 = .ok (.iconst 1, 1) := by decide +kernel
theorem dX9_live_43 : decode cX9_live 43 = .ok (.iload_n 1, 1) := by decide +kernel
theorem dX9_live_44 : decode cX9_live 44 = .ok (.ishl, 1) := by decide +kernel
theorem dX9_live_45 : decode cX9_live 45 = .ok (.istore 4, 2) := by decide +kernel
theorem dX9_live_47 : decode cX9_live 47 = .ok (.aload_n 0, 1) := by decide +kernel
theorem dX9_live_48 : decode cX9_live 48 = .ok (.getfield 12, 3) := by decide +kernel
theorem dX9_live_51 : decode cX9_live 51 = .ok (.getfield 52, 3) := by decide +kernel
theorem dX9_live_54 : decode cX9_live 54 = .ok (.iload_n 2, 1) := by decide +kernel
theorem dX9_live_55 : decode cX9_live 55 = .ok (.ifCond .eq 19, 3) := by decide +kernel
theorem dX9_live_58 : decode cX9_live 58 = .ok (.aload_n 0, 1) := by decide +kernel
theorem dX9_live_59 : decode cX9_live 59 = .ok (.getfield 12, 3) := by decide +kernel
theorem dX9_live_62 : decode cX9_live 62 = .ok (.getfield 52, 3) := by decide +kernel
theorem dX9_live_65 : decode cX9_live 65 = .ok (.getfield 89, 3) := by decide +kernel
theorem dX9_live_68 : decode cX9_live 68 = .ok (.iload 4, 2) := by decide +kernel
theorem dX9_live_70 : decode cX9_live 70 = .ok (.ior, 1) := by decide +kernel
theorem dX9_live_71 : decode cX9_live 71 = .ok (.goto 18, 3) := by decide +kernel
theorem dX9_live_74 : decode cX9_live 74 = .ok (.aload_n 0, 1) := by decide +kernel
theorem dX9_live_75 : decode cX9_live 75 = .ok (.getfield 12, 3) := by decide +kernel
theorem dX9_live_78 : decode cX9_live 78 = .ok (.getfield 52, 3) := by decide +kernel
theorem dX9_live_81 : decode cX9_live 81 = .ok (.getfield 89, 3) := by decide +kernel
theorem dX9_live_84 : decode cX9_live 84 = .ok (.iload 4, 2) := by decide +kernel
theorem dX9_live_86 : decode cX9_live 86 = .ok (.iconst (-1), 1) := by decide +kernel
theorem dX9_live_87 : decode cX9_live 87 = .ok (.ixor, 1) := by decide +kernel
theorem dX9_live_88 : decode cX9_live 88 = .ok (.iand, 1) := by decide +kernel
theorem dX9_live_89 : decode cX9_live 89 = .ok (.putfield 89, 3) := by decide +kernel
theorem dX9_live_92 : decode cX9_live 92 = .ok (.iload_n 3, 1) := by decide +kernel
theorem dX9_live_93 : decode cX9_live 93 = .ok (.ireturn, 1) := by decide +kernel
theorem dX9_member_0 : decode cX9_member 0 = .ok (.aload_n 0, 1) := by decide +kernel
theorem dX9_member_1 : decode cX9_member 1 = .ok (.iload_n 1, 1) := by decide +kernel
theorem dX9_member_2 : decode cX9_member 2 = .ok (.invokevirtual 71, 3) := by decide +kernel
theorem dX9_member_5 : decode cX9_member 5 = .ok (.ifCond .ne 6, 3) := by decide +kernel
theorem dX9_member_8 : decode cX9_member 8 = .ok (.ldc 51, 2) := by decide +kernel
theorem dX9_member_10 : decode cX9_member 10 = .ok (.ireturn, 1) := by decide +kernel
theorem dX9_member_11 : decode cX9_member 11 = .ok (.iload_n 2, 1) := by decide +kernel
theorem dX9_member_12 : decode cX9_member 12 = .ok (.tableswitch 183 0 8 #[52, 67, 82, 102, 117, 129, 138, 153, 168], 52) := by decide +kernel
theorem dX9_member_64 : decode cX9_member 64 = .ok (.aload_n 0, 1) := by decide +kernel
theorem dX9_member_65 : decode cX9_member 65 = .ok (.getfield 12, 3) := by decide +kernel
theorem dX9_member_68 : decode cX9_member 68 = .ok (.getfield 52, 3) := by decide +kernel
theorem dX9_member_71 : decode cX9_member 71 = .ok (.getfield 74, 3) := by decide +kernel
theorem dX9_member_74 : decode cX9_member 74 = .ok (.iload_n 1, 1) := by decide +kernel
theorem dX9_member_75 : decode cX9_member 75 = .ok (.invokevirtual 92, 3) := by decide +kernel
theorem dX9_member_78 : decode cX9_member 78 = .ok (.ireturn, 1) := by decide +kernel
theorem dX9_member_79 : decode cX9_member 79 = .ok (.aload_n 0, 1) := by decide +kernel
theorem dX9_member_80 : decode cX9_member 80 = .ok (.getfield 12, 3) := by decide +kernel
theorem dX9_member_83 : decode cX9_member 83 = .ok (.getfield 52, 3) := by decide +kernel
theorem dX9_member_86 : decode cX9_member 86 = .ok (.getfield 83, 3) := by decide +kernel
theorem dX9_member_89 : decode cX9_member 89 = .ok (.iload_n 1, 1) := by decide +kernel
theorem dX9_member_90 : decode cX9_member 90 = .ok (.invokevirtual 92, 3) := by decide +kernel
theorem dX9_member_93 : decode cX9_member 93 = .ok (.ireturn, 1) := by decide +kernel
theorem dX9_member_94 : decode cX9_member 94 = .ok (.aload_n 0, 1) := by decide +kernel
theorem dX9_member_95 : decode cX9_member 95 = .ok (.getfield 12, 3) := by decide +kernel
theorem dX9_member_98 : decode cX9_member 98 = .ok (.getfield 52, 3) := by decide +kernel
theorem dX9_member_101 : decode cX9_member 101 = .ok (.iload_n 1, 1) := by decide +kernel
theorem dX9_member_102 : decode cX9_member 102 = .ok (.invokevirtual 86, 3) := by decide +kernel
theorem dX9_member_105 : decode cX9_member 105 = .ok (.ifCond .eq 7, 3) := by decide +kernel
theorem dX9_member_108 : decode cX9_member 108 = .ok (.iconst 1, 1) := by decide +kernel
theorem dX9_member_109 : decode cX9_member 109 = .ok (.goto 4, 3) := by decide +kernel
theorem dX9_member_112 : decode cX9_member 112 = .ok (.iconst 0, 1) := by decide +kernel
theorem dX9_member_113 : decode cX9_member 113 = .ok (.ireturn, 1) := by decide +kernel
theorem dX9_member_114 : decode cX9_member 114 = .ok (.aload_n 0, 1) := by decide +kernel
theorem dX9_member_115 : decode cX9_member 115 = .ok (.getfield 12, 3) := by decide +kernel
theorem dX9_member_118 : decode cX9_member 118 = .ok (.getfield 52, 3) := by decide +kernel
theorem dX9_member_121 : decode cX9_member 121 = .ok (.getfield 96, 3) := by decide +kernel
theorem dX9_member_124 : decode cX9_member 124 = .ok (.iload_n 1, 1) := by decide +kernel
theorem dX9_member_125 : decode cX9_member 125 = .ok (.invokevirtual 92, 3) := by decide +kernel
theorem dX9_member_128 : decode cX9_member 128 = .ok (.ireturn, 1) := by decide +kernel
theorem dX9_member_129 : decode cX9_member 129 = .ok (.aload_n 0, 1) := by decide +kernel
theorem dX9_member_130 : decode cX9_member 130 = .ok (.getfield 12, 3) := by decide +kernel
theorem dX9_member_133 : decode cX9_member 133 = .ok (.getfield 99, 3) := by decide +kernel
theorem dX9_member_136 : decode cX9_member 136 = .ok (.iload_n 1, 1) := by decide +kernel
theorem dX9_member_137 : decode cX9_member 137 = .ok (.invokevirtual 102, 3) := by decide +kernel
theorem dX9_member_140 : decode cX9_member 140 = .ok (.ireturn, 1) := by decide +kernel
theorem dX9_member_141 : decode cX9_member 141 = .ok (.aload_n 0, 1) := by decide +kernel
theorem dX9_member_142 : decode cX9_member 142 = .ok (.getfield 12, 3) := by decide +kernel
theorem dX9_member_145 : decode cX9_member 145 = .ok (.iload_n 1, 1) := by decide +kernel
theorem dX9_member_146 : decode cX9_member 146 = .ok (.invokevirtual 105, 3) := by decide +kernel
theorem dX9_member_149 : decode cX9_member 149 = .ok (.ireturn, 1) := by decide +kernel
theorem dX9_member_150 : decode cX9_member 150 = .ok (.aload_n 0, 1) := by decide +kernel
theorem dX9_member_151 : decode cX9_member 151 = .ok (.getfield 12, 3) := by decide +kernel
theorem dX9_member_154 : decode cX9_member 154 = .ok (.getfield 52, 3) := by decide +kernel
theorem dX9_member_157 : decode cX9_member 157 = .ok (.getfield 108, 3) := by decide +kernel
theorem dX9_member_160 : decode cX9_member 160 = .ok (.iload_n 1, 1) := by decide +kernel
theorem dX9_member_161 : decode cX9_member 161 = .ok (.invokevirtual 92, 3) := by decide +kernel
theorem dX9_member_164 : decode cX9_member 164 = .ok (.ireturn, 1) := by decide +kernel
theorem dX9_member_165 : decode cX9_member 165 = .ok (.aload_n 0, 1) := by decide +kernel
theorem dX9_member_166 : decode cX9_member 166 = .ok (.getfield 12, 3) := by decide +kernel
theorem dX9_member_169 : decode cX9_member 169 = .ok (.getfield 52, 3) := by decide +kernel
theorem dX9_member_172 : decode cX9_member 172 = .ok (.getfield 111, 3) := by decide +kernel
theorem dX9_member_175 : decode cX9_member 175 = .ok (.iload_n 1, 1) := by decide +kernel
theorem dX9_member_176 : decode cX9_member 176 = .ok (.invokevirtual 92, 3) := by decide +kernel
theorem dX9_member_179 : decode cX9_member 179 = .ok (.ireturn, 1) := by decide +kernel
theorem dX9_member_180 : decode cX9_member 180 = .ok (.aload_n 0, 1) := by decide +kernel
theorem dX9_member_181 : decode cX9_member 181 = .ok (.getfield 12, 3) := by decide +kernel
theorem dX9_member_184 : decode cX9_member 184 = .ok (.getfield 52, 3) := by decide +kernel
theorem dX9_member_187 : decode cX9_member 187 = .ok (.getfield 114, 3) := by decide +kernel
theorem dX9_member_190 : decode cX9_member 190 = .ok (.iload_n 1, 1) := by decide +kernel
theorem dX9_member_191 : decode cX9_member 191 = .ok (.invokevirtual 92, 3) := by decide +kernel
theorem dX9_member_194 : decode cX9_member 194 = .ok (.ireturn, 1) := by decide +kernel
theorem dX9_member_195 : decode cX9_member 195 = .ok (.ldc 51, 2) := by decide +kernel
theorem dX9_member_197 : decode cX9_member 197 = .ok (.ireturn, 1) := by decide +kernel
theorem dX9_set_0 : decode cX9_set 0 = .ok (.iload_n 1, 1) := by decide +kernel
theorem dX9_set_1 : decode cX9_set 1 = .ok (.iload_n 2, 1) := by decide +kernel
theorem dX9_set_2 : decode cX9_set 2 = .ok (.invokestatic 117, 3) := by decide +kernel
theorem dX9_set_5 : decode cX9_set 5 = .ok (.ifCond .ne 6, 3) := by decide +kernel
theorem dX9_set_8 : decode cX9_set 8 = .ok (.ldc 51, 2) := by decide +kernel
theorem dX9_set_10 : decode cX9_set 10 = .ok (.ireturn, 1) := by decide +kernel
theorem dX9_set_11 : decode cX9_set 11 = .ok (.aload_n 0, 1) := by decide +kernel
theorem dX9_set_12 : decode cX9_set 12 = .ok (.getfield 19, 3) := by decide +kernel
theorem dX9_set_15 : decode cX9_set 15 = .ok (.aload_n 0, 1) := by decide +kernel
theorem dX9_set_16 : decode cX9_set 16 = .ok (.getfield 12, 3) := by decide +kernel
theorem dX9_set_19 : decode cX9_set 19 = .ok (.invokevirtual 63, 3) := by decide +kernel
theorem dX9_set_22 : decode cX9_set 22 = .ok (.aload_n 0, 1) := by decide +kernel
theorem dX9_set_23 : decode cX9_set 23 = .ok (.getfield 12, 3) := by decide +kernel
theorem dX9_set_26 : decode cX9_set 26 = .ok (.getfield 121, 3) := by decide +kernel
theorem dX9_set_29 : decode cX9_set 29 = .ok (.iload_n 1, 1) := by decide +kernel
theorem dX9_set_30 : decode cX9_set 30 = .ok (.iload_n 2, 1) := by decide +kernel
theorem dX9_set_31 : decode cX9_set 31 = .ok (.invokevirtual 78, 3) := by decide +kernel
theorem dX9_set_34 : decode cX9_set 34 = .ok (.ireturn, 1) := by decide +kernel
theorem dX9_about_0 : decode cX9_about 0 = .ok (.iload_n 1, 1) := by decide +kernel
theorem dX9_about_1 : decode cX9_about 1 = .ok (.ifCond .lt 20, 3) := by decide +kernel
theorem dX9_about_4 : decode cX9_about 4 = .ok (.iload_n 1, 1) := by decide +kernel
theorem dX9_about_5 : decode cX9_about 5 = .ok (.iconst 5, 1) := by decide +kernel
theorem dX9_about_6 : decode cX9_about 6 = .ok (.if_icmp .ge 15, 3) := by decide +kernel
theorem dX9_about_9 : decode cX9_about 9 = .ok (.aload_n 0, 1) := by decide +kernel
theorem dX9_about_10 : decode cX9_about 10 = .ok (.getfield 12, 3) := by decide +kernel
theorem dX9_about_13 : decode cX9_about 13 = .ok (.getfield 121, 3) := by decide +kernel
theorem dX9_about_16 : decode cX9_about 16 = .ok (.iload_n 1, 1) := by decide +kernel
theorem dX9_about_17 : decode cX9_about 17 = .ok (.invokevirtual 92, 3) := by decide +kernel
theorem dX9_about_20 : decode cX9_about 20 = .ok (.ireturn, 1) := by decide +kernel
theorem dX9_about_21 : decode cX9_about 21 = .ok (.iload_n 1, 1) := by decide +kernel
theorem dX9_about_22 : decode cX9_about 22 = .ok (.tableswitch 89 5 9 #[34, 45, 56, 67, 78], 34) := by decide +kernel
theorem dX9_about_56 : decode cX9_about 56 = .ok (.aload_n 0, 1) := by decide +kernel
theorem dX9_about_57 : decode cX9_about 57 = .ok (.getfield 12, 3) := by decide +kernel
theorem dX9_about_60 : decode cX9_about 60 = .ok (.getfield 52, 3) := by decide +kernel
theorem dX9_about_63 : decode cX9_about 63 = .ok (.getfield 56, 3) := by decide +kernel
theorem dX9_about_66 : decode cX9_about 66 = .ok (.ireturn, 1) := by decide +kernel
theorem dX9_about_67 : decode cX9_about 67 = .ok (.aload_n 0, 1) := by decide +kernel
theorem dX9_about_68 : decode cX9_about 68 = .ok (.getfield 12, 3) := by decide +kernel
theorem dX9_about_71 : decode cX9_about 71 = .ok (.getfield 99, 3) := by decide +kernel
theorem dX9_about_74 : decode cX9_about 74 = .ok (.getfield 124, 3) := by decide +kernel
theorem dX9_about_77 : decode cX9_about 77 = .ok (.ireturn, 1) := by decide +kernel
theorem dX9_about_78 : decode cX9_about 78 = .ok (.aload_n 0, 1) := by decide +kernel
theorem dX9_about_79 : decode cX9_about 79 = .ok (.getfield 12, 3) := by decide +kernel
theorem dX9_about_82 : decode cX9_about 82 = .ok (.getfield 127, 3) := by decide +kernel
theorem dX9_about_85 : decode cX9_about 85 = .ok (.getfield 131, 3) := by decide +kernel
theorem dX9_about_88 : decode cX9_about 88 = .ok (.ireturn, 1) := by decide +kernel
theorem dX9_about_89 : decode cX9_about 89 = .ok (.aload_n 0, 1) := by decide +kernel
theorem dX9_about_90 : decode cX9_about 90 = .ok (.getfield 12, 3) := by decide +kernel
theorem dX9_about_93 : decode cX9_about 93 = .ok (.getfield 127, 3) := by decide +kernel
theorem dX9_about_96 : decode cX9_about 96 = .ok (.getfield 136, 3) := by decide +kernel
theorem dX9_about_99 : decode cX9_about 99 = .ok (.ireturn, 1) := by decide +kernel
theorem dX9_about_100 : decode cX9_about 100 = .ok (.aload_n 0, 1) := by decide +kernel
theorem dX9_about_101 : decode cX9_about 101 = .ok (.getfield 12, 3) := by decide +kernel
theorem dX9_about_104 : decode cX9_about 104 = .ok (.getfield 127, 3) := by decide +kernel
theorem dX9_about_107 : decode cX9_about 107 = .ok (.getfield 139, 3) := by decide +kernel
theorem dX9_about_110 : decode cX9_about 110 = .ok (.ireturn, 1) := by decide +kernel
theorem dX9_about_111 : decode cX9_about 111 = .ok (.ldc 51, 2) := by decide +kernel
theorem dX9_about_113 : decode cX9_about 113 = .ok (.ireturn, 1) := by decide +kernel
theorem dX9_mix_0 : decode cX9_mix 0 = .ok (.iload_n 1, 1) := by decide +kernel
theorem dX9_mix_1 : decode cX9_mix 1 = .ok (.invokestatic 142, 3) := by decide +kernel
theorem dX9_mix_4 : decode cX9_mix 4 = .ok (.ireturn, 1) := by decide +kernel
theorem dX9_commit_0 : decode cX9_commit 0 = .ok (.aload_n 0, 1) := by decide +kernel
theorem dX9_commit_1 : decode cX9_commit 1 = .ok (.iload_n 1, 1) := by decide +kernel
theorem dX9_commit_2 : decode cX9_commit 2 = .ok (.invokevirtual 71, 3) := by decide +kernel
theorem dX9_commit_5 : decode cX9_commit 5 = .ok (.ifCond .ne 6, 3) := by decide +kernel
theorem dX9_commit_8 : decode cX9_commit 8 = .ok (.ldc 51, 2) := by decide +kernel
theorem dX9_commit_10 : decode cX9_commit 10 = .ok (.ireturn, 1) := by decide +kernel
theorem dX9_commit_11 : decode cX9_commit 11 = .ok (.aload_n 0, 1) := by decide +kernel
theorem dX9_commit_12 : decode cX9_commit 12 = .ok (.getfield 12, 3) := by decide +kernel
theorem dX9_commit_15 : decode cX9_commit 15 = .ok (.getfield 52, 3) := by decide +kernel
theorem dX9_commit_18 : decode cX9_commit 18 = .ok (.iload_n 1, 1) := by decide +kernel
theorem dX9_commit_19 : decode cX9_commit 19 = .ok (.invokevirtual 86, 3) := by decide +kernel
theorem dX9_commit_22 : decode cX9_commit 22 = .ok (.ifCond .ne 6, 3) := by decide +kernel
theorem dX9_commit_25 : decode cX9_commit 25 = .ok (.ldc 147, 2) := by decide +kernel
theorem dX9_commit_27 : decode cX9_commit 27 = .ok (.ireturn, 1) := by decide +kernel
theorem dX9_commit_28 : decode cX9_commit 28 = .ok (.aload_n 0, 1) := by decide +kernel
theorem dX9_commit_29 : decode cX9_commit 29 = .ok (.getfield 19, 3) := by decide +kernel
theorem dX9_commit_32 : decode cX9_commit 32 = .ok (.aload_n 0, 1) := by decide +kernel
theorem dX9_commit_33 : decode cX9_commit 33 = .ok (.getfield 12, 3) := by decide +kernel
theorem dX9_commit_36 : decode cX9_commit 36 = .ok (.invokevirtual 63, 3) := by decide +kernel
theorem dX9_commit_39 : decode cX9_commit 39 = .ok (.aload_n 0, 1) := by decide +kernel
theorem dX9_commit_40 : decode cX9_commit 40 = .ok (.getfield 12, 3) := by decide +kernel
theorem dX9_commit_43 : decode cX9_commit 43 = .ok (.getfield 52, 3) := by decide +kernel
theorem dX9_commit_46 : decode cX9_commit 46 = .ok (.getfield 148, 3) := by decide +kernel
theorem dX9_commit_49 : decode cX9_commit 49 = .ok (.iload_n 1, 1) := by decide +kernel
theorem dX9_commit_50 : decode cX9_commit 50 = .ok (.iload_n 2, 1) := by decide +kernel
theorem dX9_commit_51 : decode cX9_commit 51 = .ok (.invokevirtual 151, 3) := by decide +kernel
theorem dX9_commit_54 : decode cX9_commit 54 = .ok (.aload_n 0, 1) := by decide +kernel
theorem dX9_commit_55 : decode cX9_commit 55 = .ok (.getfield 12, 3) := by decide +kernel
theorem dX9_commit_58 : decode cX9_commit 58 = .ok (.getfield 52, 3) := by decide +kernel
theorem dX9_commit_61 : decode cX9_commit 61 = .ok (.getfield 114, 3) := by decide +kernel
theorem dX9_commit_64 : decode cX9_commit 64 = .ok (.iload_n 1, 1) := by decide +kernel
theorem dX9_commit_65 : decode cX9_commit 65 = .ok (.iconst 1, 1) := by decide +kernel
theorem dX9_commit_66 : decode cX9_commit 66 = .ok (.invokevirtual 78, 3) := by decide +kernel
theorem dX9_commit_69 : decode cX9_commit 69 = .ok (.istore_n 3, 1) := by decide +kernel
theorem dX9_commit_70 : decode cX9_commit 70 = .ok (.iload_n 3, 1) := by decide +kernel
theorem dX9_commit_71 : decode cX9_commit 71 = .ok (.ifCond .ne 7, 3) := by decide +kernel
theorem dX9_commit_74 : decode cX9_commit 74 = .ok (.iconst 0, 1) := by decide +kernel
theorem dX9_commit_75 : decode cX9_commit 75 = .ok (.goto 4, 3) := by decide +kernel
theorem dX9_commit_78 : decode cX9_commit 78 = .ok (.iconst 1, 1) := by decide +kernel
theorem dX9_commit_79 : decode cX9_commit 79 = .ok (.ireturn, 1) := by decide +kernel
theorem dX9_reveal_0 : decode cX9_reveal 0 = .ok (.aload_n 0, 1) := by decide +kernel
theorem dX9_reveal_1 : decode cX9_reveal 1 = .ok (.iload_n 1, 1) := by decide +kernel
theorem dX9_reveal_2 : decode cX9_reveal 2 = .ok (.invokevirtual 71, 3) := by decide +kernel
theorem dX9_reveal_5 : decode cX9_reveal 5 = .ok (.ifCond .ne 6, 3) := by decide +kernel
theorem dX9_reveal_8 : decode cX9_reveal 8 = .ok (.ldc 51, 2) := by decide +kernel
theorem dX9_reveal_10 : decode cX9_reveal 10 = .ok (.ireturn, 1) := by decide +kernel
theorem dX9_reveal_11 : decode cX9_reveal 11 = .ok (.aload_n 0, 1) := by decide +kernel
theorem dX9_reveal_12 : decode cX9_reveal 12 = .ok (.getfield 12, 3) := by decide +kernel
theorem dX9_reveal_15 : decode cX9_reveal 15 = .ok (.getfield 52, 3) := by decide +kernel
theorem dX9_reveal_18 : decode cX9_reveal 18 = .ok (.iload_n 1, 1) := by decide +kernel
theorem dX9_reveal_19 : decode cX9_reveal 19 = .ok (.invokevirtual 86, 3) := by decide +kernel
theorem dX9_reveal_22 : decode cX9_reveal 22 = .ok (.ifCond .eq 20, 3) := by decide +kernel
theorem dX9_reveal_25 : decode cX9_reveal 25 = .ok (.aload_n 0, 1) := by decide +kernel
theorem dX9_reveal_26 : decode cX9_reveal 26 = .ok (.getfield 12, 3) := by decide +kernel
theorem dX9_reveal_29 : decode cX9_reveal 29 = .ok (.getfield 52, 3) := by decide +kernel
theorem dX9_reveal_32 : decode cX9_reveal 32 = .ok (.getfield 114, 3) := by decide +kernel
theorem dX9_reveal_35 : decode cX9_reveal 35 = .ok (.iload_n 1, 1) := by decide +kernel
theorem dX9_reveal_36 : decode cX9_reveal 36 = .ok (.invokevirtual 92, 3) := by decide +kernel
theorem dX9_reveal_39 : decode cX9_reveal 39 = .ok (.ifCond .ne 6, 3) := by decide +kernel
theorem dX9_reveal_42 : decode cX9_reveal 42 = .ok (.ldc 147, 2) := by decide +kernel
theorem dX9_reveal_44 : decode cX9_reveal 44 = .ok (.ireturn, 1) := by decide +kernel
theorem dX9_reveal_45 : decode cX9_reveal 45 = .ok (.aload_n 0, 1) := by decide +kernel
theorem dX9_reveal_46 : decode cX9_reveal 46 = .ok (.getfield 19, 3) := by decide +kernel
theorem dX9_reveal_49 : decode cX9_reveal 49 = .ok (.aload_n 0, 1) := by decide +kernel
theorem dX9_reveal_50 : decode cX9_reveal 50 = .ok (.getfield 12, 3) := by decide +kernel
theorem dX9_reveal_53 : decode cX9_reveal 53 = .ok (.invokevirtual 63, 3) := by decide +kernel
theorem dX9_reveal_56 : decode cX9_reveal 56 = .ok (.iload_n 2, 1) := by decide +kernel
theorem dX9_reveal_57 : decode cX9_reveal 57 = .ok (.invokestatic 142, 3) := by decide +kernel
theorem dX9_reveal_60 : decode cX9_reveal 60 = .ok (.aload_n 0, 1) := by decide +kernel
theorem dX9_reveal_61 : decode cX9_reveal 61 = .ok (.getfield 12, 3) := by decide +kernel
theorem dX9_reveal_64 : decode cX9_reveal 64 = .ok (.getfield 52, 3) := by decide +kernel
theorem dX9_reveal_67 : decode cX9_reveal 67 = .ok (.getfield 148, 3) := by decide +kernel
theorem dX9_reveal_70 : decode cX9_reveal 70 = .ok (.iload_n 1, 1) := by decide +kernel
theorem dX9_reveal_71 : decode cX9_reveal 71 = .ok (.invokevirtual 92, 3) := by decide +kernel
theorem dX9_reveal_74 : decode cX9_reveal 74 = .ok (.if_icmp .ne 7, 3) := by decide +kernel
theorem dX9_reveal_77 : decode cX9_reveal 77 = .ok (.iconst 1, 1) := by decide +kernel
theorem dX9_reveal_78 : decode cX9_reveal 78 = .ok (.goto 4, 3) := by decide +kernel
theorem dX9_reveal_81 : decode cX9_reveal 81 = .ok (.iconst 0, 1) := by decide +kernel
theorem dX9_reveal_82 : decode cX9_reveal 82 = .ok (.istore_n 3, 1) := by decide +kernel
theorem dX9_reveal_83 : decode cX9_reveal 83 = .ok (.aload_n 0, 1) := by decide +kernel
theorem dX9_reveal_84 : decode cX9_reveal 84 = .ok (.getfield 12, 3) := by decide +kernel
theorem dX9_reveal_87 : decode cX9_reveal 87 = .ok (.getfield 52, 3) := by decide +kernel
theorem dX9_reveal_90 : decode cX9_reveal 90 = .ok (.getfield 155, 3) := by decide +kernel
theorem dX9_reveal_93 : decode cX9_reveal 93 = .ok (.iload_n 1, 1) := by decide +kernel
theorem dX9_reveal_94 : decode cX9_reveal 94 = .ok (.iload_n 2, 1) := by decide +kernel
theorem dX9_reveal_95 : decode cX9_reveal 95 = .ok (.invokevirtual 151, 3) := by decide +kernel
theorem dX9_reveal_98 : decode cX9_reveal 98 = .ok (.aload_n 0, 1) := by decide +kernel
end
section
theorem dX9_reveal_99 : decode cX9_reveal 99 = .ok (.getfield 12, 3) := by decide +kernel
theorem dX9_reveal_102 : decode cX9_reveal 102 = .ok (.getfield 52, 3) := by decide +kernel
theorem dX9_reveal_105 : decode cX9_reveal 105 = .ok (.getfield 114, 3) := by decide +kernel
theorem dX9_reveal_108 : decode cX9_reveal 108 = .ok (.iload_n 1, 1) := by decide +kernel
theorem dX9_reveal_109 : decode cX9_reveal 109 = .ok (.iload_n 3, 1) := by decide +kernel
theorem dX9_reveal_110 : decode cX9_reveal 110 = .ok (.ifCond .eq 7, 3) := by decide +kernel
theorem dX9_reveal_113 : decode cX9_reveal 113 = .ok (.iconst 2, 1) := by decide +kernel
theorem dX9_reveal_114 : decode cX9_reveal 114 = .ok (.goto 4, 3) := by decide +kernel
theorem dX9_reveal_117 : decode cX9_reveal 117 = .ok (.iconst 3, 1) := by decide +kernel
theorem dX9_reveal_118 : decode cX9_reveal 118 = .ok (.invokevirtual 151, 3) := by decide +kernel
theorem dX9_reveal_121 : decode cX9_reveal 121 = .ok (.iload_n 3, 1) := by decide +kernel
theorem dX9_reveal_122 : decode cX9_reveal 122 = .ok (.ifCond .eq 7, 3) := by decide +kernel
theorem dX9_reveal_125 : decode cX9_reveal 125 = .ok (.iconst 1, 1) := by decide +kernel
theorem dX9_reveal_126 : decode cX9_reveal 126 = .ok (.goto 4, 3) := by decide +kernel
theorem dX9_reveal_129 : decode cX9_reveal 129 = .ok (.iconst 0, 1) := by decide +kernel
theorem dX9_reveal_130 : decode cX9_reveal 130 = .ok (.ireturn, 1) := by decide +kernel
theorem dX9_draw_0 : decode cX9_draw 0 = .ok (.aload_n 0, 1) := by decide +kernel
theorem dX9_draw_1 : decode cX9_draw 1 = .ok (.getfield 12, 3) := by decide +kernel
theorem dX9_draw_4 : decode cX9_draw 4 = .ok (.getfield 52, 3) := by decide +kernel
theorem dX9_draw_7 : decode cX9_draw 7 = .ok (.invokevirtual 158, 3) := by decide +kernel
theorem dX9_draw_10 : decode cX9_draw 10 = .ok (.istore_n 1, 1) := by decide +kernel
theorem dX9_draw_11 : decode cX9_draw 11 = .ok (.aload_n 0, 1) := by decide +kernel
theorem dX9_draw_12 : decode cX9_draw 12 = .ok (.iload_n 1, 1) := by decide +kernel
theorem dX9_draw_13 : decode cX9_draw 13 = .ok (.invokevirtual 162, 3) := by decide +kernel
theorem dX9_draw_16 : decode cX9_draw 16 = .ok (.ifCond .ne 6, 3) := by decide +kernel
theorem dX9_draw_19 : decode cX9_draw 19 = .ok (.ldc 147, 2) := by decide +kernel
theorem dX9_draw_21 : decode cX9_draw 21 = .ok (.ireturn, 1) := by decide +kernel
theorem dX9_draw_22 : decode cX9_draw 22 = .ok (.aload_n 0, 1) := by decide +kernel
theorem dX9_draw_23 : decode cX9_draw 23 = .ok (.getfield 19, 3) := by decide +kernel
theorem dX9_draw_26 : decode cX9_draw 26 = .ok (.aload_n 0, 1) := by decide +kernel
theorem dX9_draw_27 : decode cX9_draw 27 = .ok (.getfield 12, 3) := by decide +kernel
theorem dX9_draw_30 : decode cX9_draw 30 = .ok (.invokevirtual 63, 3) := by decide +kernel
theorem dX9_draw_33 : decode cX9_draw 33 = .ok (.aload_n 0, 1) := by decide +kernel
theorem dX9_draw_34 : decode cX9_draw 34 = .ok (.getfield 12, 3) := by decide +kernel
theorem dX9_draw_37 : decode cX9_draw 37 = .ok (.getfield 99, 3) := by decide +kernel
theorem dX9_draw_40 : decode cX9_draw 40 = .ok (.aload_n 0, 1) := by decide +kernel
theorem dX9_draw_41 : decode cX9_draw 41 = .ok (.getfield 12, 3) := by decide +kernel
theorem dX9_draw_44 : decode cX9_draw 44 = .ok (.getfield 99, 3) := by decide +kernel
theorem dX9_draw_47 : decode cX9_draw 47 = .ok (.getfield 124, 3) := by decide +kernel
theorem dX9_draw_50 : decode cX9_draw 50 = .ok (.aload_n 0, 1) := by decide +kernel
theorem dX9_draw_51 : decode cX9_draw 51 = .ok (.getfield 12, 3) := by decide +kernel
theorem dX9_draw_54 : decode cX9_draw 54 = .ok (.getfield 52, 3) := by decide +kernel
theorem dX9_draw_57 : decode cX9_draw 57 = .ok (.iload_n 1, 1) := by decide +kernel
theorem dX9_draw_58 : decode cX9_draw 58 = .ok (.invokevirtual 165, 3) := by decide +kernel
theorem dX9_draw_61 : decode cX9_draw 61 = .ok (.aload_n 0, 1) := by decide +kernel
theorem dX9_draw_62 : decode cX9_draw 62 = .ok (.getfield 12, 3) := by decide +kernel
theorem dX9_draw_65 : decode cX9_draw 65 = .ok (.getfield 52, 3) := by decide +kernel
theorem dX9_draw_68 : decode cX9_draw 68 = .ok (.aload_n 0, 1) := by decide +kernel
theorem dX9_draw_69 : decode cX9_draw 69 = .ok (.getfield 12, 3) := by decide +kernel
theorem dX9_draw_72 : decode cX9_draw 72 = .ok (.getfield 121, 3) := by decide +kernel
theorem dX9_draw_75 : decode cX9_draw 75 = .ok (.iconst 4, 1) := by decide +kernel
theorem dX9_draw_76 : decode cX9_draw 76 = .ok (.invokevirtual 92, 3) := by decide +kernel
theorem dX9_draw_79 : decode cX9_draw 79 = .ok (.invokevirtual 169, 3) := by decide +kernel
theorem dX9_draw_82 : decode cX9_draw 82 = .ok (.aload_n 0, 1) := by decide +kernel
theorem dX9_draw_83 : decode cX9_draw 83 = .ok (.getfield 12, 3) := by decide +kernel
theorem dX9_draw_86 : decode cX9_draw 86 = .ok (.getfield 99, 3) := by decide +kernel
theorem dX9_draw_89 : decode cX9_draw 89 = .ok (.getfield 124, 3) := by decide +kernel
theorem dX9_draw_92 : decode cX9_draw 92 = .ok (.ireturn, 1) := by decide +kernel
theorem dX9_seed_0 : decode cX9_seed 0 = .ok (.aload_n 0, 1) := by decide +kernel
theorem dX9_seed_1 : decode cX9_seed 1 = .ok (.getfield 12, 3) := by decide +kernel
theorem dX9_seed_4 : decode cX9_seed 4 = .ok (.getfield 99, 3) := by decide +kernel
theorem dX9_seed_7 : decode cX9_seed 7 = .ok (.getfield 124, 3) := by decide +kernel
theorem dX9_seed_10 : decode cX9_seed 10 = .ok (.ifCond .ne 9, 3) := by decide +kernel
theorem dX9_seed_13 : decode cX9_seed 13 = .ok (.ldc2_w 173, 3) := by decide +kernel
theorem dX9_seed_16 : decode cX9_seed 16 = .ok (.goto 14, 3) := by decide +kernel
theorem dX9_seed_19 : decode cX9_seed 19 = .ok (.aload_n 0, 1) := by decide +kernel
theorem dX9_seed_20 : decode cX9_seed 20 = .ok (.getfield 12, 3) := by decide +kernel
theorem dX9_seed_23 : decode cX9_seed 23 = .ok (.getfield 99, 3) := by decide +kernel
theorem dX9_seed_26 : decode cX9_seed 26 = .ok (.getfield 175, 3) := by decide +kernel
theorem dX9_seed_29 : decode cX9_seed 29 = .ok (.i2l, 1) := by decide +kernel
theorem dX9_seed_30 : decode cX9_seed 30 = .ok (.lreturn, 1) := by decide +kernel
theorem dX9_duty_0 : decode cX9_duty 0 = .ok (.iload_n 1, 1) := by decide +kernel
theorem dX9_duty_1 : decode cX9_duty 1 = .ok (.ifCond .ge 8, 3) := by decide +kernel
theorem dX9_duty_4 : decode cX9_duty 4 = .ok (.ldc 51, 2) := by decide +kernel
theorem dX9_duty_6 : decode cX9_duty 6 = .ok (.goto 14, 3) := by decide +kernel
theorem dX9_duty_9 : decode cX9_duty 9 = .ok (.aload_n 0, 1) := by decide +kernel
theorem dX9_duty_10 : decode cX9_duty 10 = .ok (.getfield 12, 3) := by decide +kernel
theorem dX9_duty_13 : decode cX9_duty 13 = .ok (.getfield 99, 3) := by decide +kernel
theorem dX9_duty_16 : decode cX9_duty 16 = .ok (.iload_n 1, 1) := by decide +kernel
theorem dX9_duty_17 : decode cX9_duty 17 = .ok (.invokevirtual 178, 3) := by decide +kernel
theorem dX9_duty_20 : decode cX9_duty 20 = .ok (.ireturn, 1) := by decide +kernel
theorem dX9_ifLeft_0 : decode cX9_ifLeft 0 = .ok (.iload_n 1, 1) := by decide +kernel
theorem dX9_ifLeft_1 : decode cX9_ifLeft 1 = .ok (.ifCond .lt 14, 3) := by decide +kernel
theorem dX9_ifLeft_4 : decode cX9_ifLeft 4 = .ok (.iload_n 1, 1) := by decide +kernel
theorem dX9_ifLeft_5 : decode cX9_ifLeft 5 = .ok (.sipush 1023, 3) := by decide +kernel
theorem dX9_ifLeft_8 : decode cX9_ifLeft 8 = .ok (.if_icmp .gt 7, 3) := by decide +kernel
theorem dX9_ifLeft_11 : decode cX9_ifLeft 11 = .ok (.iload_n 2, 1) := by decide +kernel
theorem dX9_ifLeft_12 : decode cX9_ifLeft 12 = .ok (.ifCond .ge 6, 3) := by decide +kernel
theorem dX9_ifLeft_15 : decode cX9_ifLeft 15 = .ok (.ldc 51, 2) := by decide +kernel
theorem dX9_ifLeft_17 : decode cX9_ifLeft 17 = .ok (.ireturn, 1) := by decide +kernel
theorem dX9_ifLeft_18 : decode cX9_ifLeft 18 = .ok (.aload_n 0, 1) := by decide +kernel
theorem dX9_ifLeft_19 : decode cX9_ifLeft 19 = .ok (.getfield 12, 3) := by decide +kernel
theorem dX9_ifLeft_22 : decode cX9_ifLeft 22 = .ok (.getfield 52, 3) := by decide +kernel
theorem dX9_ifLeft_25 : decode cX9_ifLeft 25 = .ok (.invokevirtual 158, 3) := by decide +kernel
theorem dX9_ifLeft_28 : decode cX9_ifLeft 28 = .ok (.iload_n 1, 1) := by decide +kernel
theorem dX9_ifLeft_29 : decode cX9_ifLeft 29 = .ok (.iconst (-1), 1) := by decide +kernel
theorem dX9_ifLeft_30 : decode cX9_ifLeft 30 = .ok (.ixor, 1) := by decide +kernel
theorem dX9_ifLeft_31 : decode cX9_ifLeft 31 = .ok (.iand, 1) := by decide +kernel
theorem dX9_ifLeft_32 : decode cX9_ifLeft 32 = .ok (.istore_n 3, 1) := by decide +kernel
theorem dX9_ifLeft_33 : decode cX9_ifLeft 33 = .ok (.aload_n 0, 1) := by decide +kernel
theorem dX9_ifLeft_34 : decode cX9_ifLeft 34 = .ok (.iload_n 3, 1) := by decide +kernel
theorem dX9_ifLeft_35 : decode cX9_ifLeft 35 = .ok (.invokevirtual 162, 3) := by decide +kernel
theorem dX9_ifLeft_38 : decode cX9_ifLeft 38 = .ok (.ifCond .ne 6, 3) := by decide +kernel
theorem dX9_ifLeft_41 : decode cX9_ifLeft 41 = .ok (.ldc 147, 2) := by decide +kernel
theorem dX9_ifLeft_43 : decode cX9_ifLeft 43 = .ok (.ireturn, 1) := by decide +kernel
theorem dX9_ifLeft_44 : decode cX9_ifLeft 44 = .ok (.aload_n 0, 1) := by decide +kernel
theorem dX9_ifLeft_45 : decode cX9_ifLeft 45 = .ok (.getfield 40, 3) := by decide +kernel
theorem dX9_ifLeft_48 : decode cX9_ifLeft 48 = .ok (.aload_n 0, 1) := by decide +kernel
theorem dX9_ifLeft_49 : decode cX9_ifLeft 49 = .ok (.getfield 12, 3) := by decide +kernel
theorem dX9_ifLeft_52 : decode cX9_ifLeft 52 = .ok (.getfield 99, 3) := by decide +kernel
theorem dX9_ifLeft_55 : decode cX9_ifLeft 55 = .ok (.getfield 124, 3) := by decide +kernel
theorem dX9_ifLeft_58 : decode cX9_ifLeft 58 = .ok (.aload_n 0, 1) := by decide +kernel
theorem dX9_ifLeft_59 : decode cX9_ifLeft 59 = .ok (.getfield 12, 3) := by decide +kernel
theorem dX9_ifLeft_62 : decode cX9_ifLeft 62 = .ok (.getfield 52, 3) := by decide +kernel
theorem dX9_ifLeft_65 : decode cX9_ifLeft 65 = .ok (.iload_n 3, 1) := by decide +kernel
theorem dX9_ifLeft_66 : decode cX9_ifLeft 66 = .ok (.invokevirtual 165, 3) := by decide +kernel
theorem dX9_ifLeft_69 : decode cX9_ifLeft 69 = .ok (.aload_n 0, 1) := by decide +kernel
theorem dX9_ifLeft_70 : decode cX9_ifLeft 70 = .ok (.getfield 40, 3) := by decide +kernel
theorem dX9_ifLeft_73 : decode cX9_ifLeft 73 = .ok (.iload_n 2, 1) := by decide +kernel
theorem dX9_ifLeft_74 : decode cX9_ifLeft 74 = .ok (.invokevirtual 178, 3) := by decide +kernel
theorem dX9_ifLeft_77 : decode cX9_ifLeft 77 = .ok (.ireturn, 1) := by decide +kernel
theorem dX9_lose_0 : decode cX9_lose 0 = .ok (.aload_n 0, 1) := by decide +kernel
theorem dX9_lose_1 : decode cX9_lose 1 = .ok (.iload_n 1, 1) := by decide +kernel
theorem dX9_lose_2 : decode cX9_lose 2 = .ok (.invokevirtual 71, 3) := by decide +kernel
theorem dX9_lose_5 : decode cX9_lose 5 = .ok (.ifCond .eq 10, 3) := by decide +kernel
theorem dX9_lose_8 : decode cX9_lose 8 = .ok (.iload_n 2, 1) := by decide +kernel
theorem dX9_lose_9 : decode cX9_lose 9 = .ok (.invokestatic 181, 3) := by decide +kernel
theorem dX9_lose_12 : decode cX9_lose 12 = .ok (.ifCond .ne 6, 3) := by decide +kernel
theorem dX9_lose_15 : decode cX9_lose 15 = .ok (.ldc 51, 2) := by decide +kernel
theorem dX9_lose_17 : decode cX9_lose 17 = .ok (.ireturn, 1) := by decide +kernel
theorem dX9_lose_18 : decode cX9_lose 18 = .ok (.aload_n 0, 1) := by decide +kernel
theorem dX9_lose_19 : decode cX9_lose 19 = .ok (.getfield 19, 3) := by decide +kernel
theorem dX9_lose_22 : decode cX9_lose 22 = .ok (.aload_n 0, 1) := by decide +kernel
theorem dX9_lose_23 : decode cX9_lose 23 = .ok (.getfield 12, 3) := by decide +kernel
theorem dX9_lose_26 : decode cX9_lose 26 = .ok (.invokevirtual 63, 3) := by decide +kernel
theorem dX9_lose_29 : decode cX9_lose 29 = .ok (.aload_n 0, 1) := by decide +kernel
theorem dX9_lose_30 : decode cX9_lose 30 = .ok (.getfield 12, 3) := by decide +kernel
theorem dX9_lose_33 : decode cX9_lose 33 = .ok (.getfield 184, 3) := by decide +kernel
theorem dX9_lose_36 : decode cX9_lose 36 = .ok (.iload_n 2, 1) := by decide +kernel
theorem dX9_lose_37 : decode cX9_lose 37 = .ok (.aload_n 0, 1) := by decide +kernel
theorem dX9_lose_38 : decode cX9_lose 38 = .ok (.getfield 12, 3) := by decide +kernel
theorem dX9_lose_41 : decode cX9_lose 41 = .ok (.getfield 184, 3) := by decide +kernel
theorem dX9_lose_44 : decode cX9_lose 44 = .ok (.iload_n 2, 1) := by decide +kernel
theorem dX9_lose_45 : decode cX9_lose 45 = .ok (.invokevirtual 92, 3) := by decide +kernel
theorem dX9_lose_48 : decode cX9_lose 48 = .ok (.iconst 1, 1) := by decide +kernel
theorem dX9_lose_49 : decode cX9_lose 49 = .ok (.iload_n 1, 1) := by decide +kernel
theorem dX9_lose_50 : decode cX9_lose 50 = .ok (.ishl, 1) := by decide +kernel
theorem dX9_lose_51 : decode cX9_lose 51 = .ok (.ior, 1) := by decide +kernel
theorem dX9_lose_52 : decode cX9_lose 52 = .ok (.invokevirtual 151, 3) := by decide +kernel
theorem dX9_lose_55 : decode cX9_lose 55 = .ok (.aload_n 0, 1) := by decide +kernel
theorem dX9_lose_56 : decode cX9_lose 56 = .ok (.getfield 12, 3) := by decide +kernel
theorem dX9_lose_59 : decode cX9_lose 59 = .ok (.getfield 184, 3) := by decide +kernel
theorem dX9_lose_62 : decode cX9_lose 62 = .ok (.iload_n 2, 1) := by decide +kernel
theorem dX9_lose_63 : decode cX9_lose 63 = .ok (.invokevirtual 92, 3) := by decide +kernel
theorem dX9_lose_66 : decode cX9_lose 66 = .ok (.invokestatic 187, 3) := by decide +kernel
theorem dX9_lose_69 : decode cX9_lose 69 = .ok (.ireturn, 1) := by decide +kernel
theorem dX9_type_0 : decode cX9_type 0 = .ok (.iload_n 1, 1) := by decide +kernel
theorem dX9_type_1 : decode cX9_type 1 = .ok (.bipush 32, 2) := by decide +kernel
theorem dX9_type_3 : decode cX9_type 3 = .ok (.if_icmp .lt 9, 3) := by decide +kernel
theorem dX9_type_6 : decode cX9_type 6 = .ok (.iload_n 1, 1) := by decide +kernel
theorem dX9_type_7 : decode cX9_type 7 = .ok (.bipush 126, 2) := by decide +kernel
theorem dX9_type_9 : decode cX9_type 9 = .ok (.if_icmp .le 6, 3) := by decide +kernel
theorem dX9_type_12 : decode cX9_type 12 = .ok (.ldc 51, 2) := by decide +kernel
theorem dX9_type_14 : decode cX9_type 14 = .ok (.ireturn, 1) := by decide +kernel
theorem dX9_type_15 : decode cX9_type 15 = .ok (.aload_n 0, 1) := by decide +kernel
theorem dX9_type_16 : decode cX9_type 16 = .ok (.getfield 26, 3) := by decide +kernel
theorem dX9_type_19 : decode cX9_type 19 = .ok (.iload_n 1, 1) := by decide +kernel
theorem dX9_type_20 : decode cX9_type 20 = .ok (.invokevirtual 192, 3) := by decide +kernel
theorem dX9_type_23 : decode cX9_type 23 = .ok (.ifCond .eq 13, 3) := by decide +kernel
theorem dX9_type_26 : decode cX9_type 26 = .ok (.aload_n 0, 1) := by decide +kernel
theorem dX9_type_27 : decode cX9_type 27 = .ok (.getfield 26, 3) := by decide +kernel
theorem dX9_type_30 : decode cX9_type 30 = .ok (.getfield 195, 3) := by decide +kernel
theorem dX9_type_33 : decode cX9_type 33 = .ok (.goto 5, 3) := by decide +kernel
theorem dX9_type_36 : decode cX9_type 36 = .ok (.ldc 62, 2) := by decide +kernel
theorem dX9_type_38 : decode cX9_type 38 = .ok (.ireturn, 1) := by decide +kernel
theorem dX9_clear_0 : decode cX9_clear 0 = .ok (.aload_n 0, 1) := by decide +kernel
theorem dX9_clear_1 : decode cX9_clear 1 = .ok (.getfield 26, 3) := by decide +kernel
theorem dX9_clear_4 : decode cX9_clear 4 = .ok (.invokevirtual 198, 3) := by decide +kernel
theorem dX9_clear_7 : decode cX9_clear 7 = .ok (.ireturn, 1) := by decide +kernel
theorem dX9_read_0 : decode cX9_read 0 = .ok (.aload_n 0, 1) := by decide +kernel
theorem dX9_read_1 : decode cX9_read 1 = .ok (.getfield 26, 3) := by decide +kernel
theorem dX9_read_4 : decode cX9_read 4 = .ok (.aload_n 0, 1) := by decide +kernel
theorem dX9_read_5 : decode cX9_read 5 = .ok (.getfield 12, 3) := by decide +kernel
theorem dX9_read_8 : decode cX9_read 8 = .ok (.getfield 52, 3) := by decide +kernel
theorem dX9_read_11 : decode cX9_read 11 = .ok (.getfield 56, 3) := by decide +kernel
theorem dX9_read_14 : decode cX9_read 14 = .ok (.invokevirtual 201, 3) := by decide +kernel
theorem dX9_read_17 : decode cX9_read 17 = .ok (.istore_n 1, 1) := by decide +kernel
theorem dX9_read_18 : decode cX9_read 18 = .ok (.iload_n 1, 1) := by decide +kernel
theorem dX9_read_19 : decode cX9_read 19 = .ok (.ifCond .lt 8, 3) := by decide +kernel
theorem dX9_read_22 : decode cX9_read 22 = .ok (.bipush (-100), 2) := by decide +kernel
theorem dX9_read_24 : decode cX9_read 24 = .ok (.iload_n 1, 1) := by decide +kernel
theorem dX9_read_25 : decode cX9_read 25 = .ok (.isub, 1) := by decide +kernel
theorem dX9_read_26 : decode cX9_read 26 = .ok (.ireturn, 1) := by decide +kernel
theorem dX9_read_27 : decode cX9_read 27 = .ok (.aload_n 0, 1) := by decide +kernel
theorem dX9_read_28 : decode cX9_read 28 = .ok (.getfield 19, 3) := by decide +kernel
theorem dX9_read_31 : decode cX9_read 31 = .ok (.aload_n 0, 1) := by decide +kernel
theorem dX9_read_32 : decode cX9_read 32 = .ok (.getfield 12, 3) := by decide +kernel
theorem dX9_read_35 : decode cX9_read 35 = .ok (.invokevirtual 63, 3) := by decide +kernel
theorem dX9_read_38 : decode cX9_read 38 = .ok (.aload_n 0, 1) := by decide +kernel
theorem dX9_read_39 : decode cX9_read 39 = .ok (.getfield 26, 3) := by decide +kernel
theorem dX9_read_42 : decode cX9_read 42 = .ok (.aload_n 0, 1) := by decide +kernel
theorem dX9_read_43 : decode cX9_read 43 = .ok (.getfield 12, 3) := by decide +kernel
theorem dX9_read_46 : decode cX9_read 46 = .ok (.getfield 184, 3) := by decide +kernel
theorem dX9_read_49 : decode cX9_read 49 = .ok (.invokevirtual 204, 3) := by decide +kernel
theorem dX9_read_52 : decode cX9_read 52 = .ok (.istore_n 2, 1) := by decide +kernel
theorem dX9_read_53 : decode cX9_read 53 = .ok (.aload_n 0, 1) := by decide +kernel
theorem dX9_read_54 : decode cX9_read 54 = .ok (.getfield 26, 3) := by decide +kernel
theorem dX9_read_57 : decode cX9_read 57 = .ok (.invokevirtual 198, 3) := by decide +kernel
theorem dX9_read_60 : decode cX9_read 60 = .ok (.pop, 1) := by decide +kernel
theorem dX9_read_61 : decode cX9_read 61 = .ok (.iload_n 2, 1) := by decide +kernel
theorem dX9_read_62 : decode cX9_read 62 = .ok (.ireturn, 1) := by decide +kernel
theorem dX9_lost_0 : decode cX9_lost 0 = .ok (.aload_n 0, 1) := by decide +kernel
theorem dX9_lost_1 : decode cX9_lost 1 = .ok (.iload_n 1, 1) := by decide +kernel
theorem dX9_lost_2 : decode cX9_lost 2 = .ok (.invokevirtual 71, 3) := by decide +kernel
theorem dX9_lost_5 : decode cX9_lost 5 = .ok (.ifCond .eq 10, 3) := by decide +kernel
theorem dX9_lost_8 : decode cX9_lost 8 = .ok (.iload_n 2, 1) := by decide +kernel
theorem dX9_lost_9 : decode cX9_lost 9 = .ok (.invokestatic 181, 3) := by decide +kernel
theorem dX9_lost_12 : decode cX9_lost 12 = .ok (.ifCond .ne 6, 3) := by decide +kernel
theorem dX9_lost_15 : decode cX9_lost 15 = .ok (.ldc 51, 2) := by decide +kernel
theorem dX9_lost_17 : decode cX9_lost 17 = .ok (.ireturn, 1) := by decide +kernel
theorem dX9_lost_18 : decode cX9_lost 18 = .ok (.aload_n 0, 1) := by decide +kernel
theorem dX9_lost_19 : decode cX9_lost 19 = .ok (.getfield 12, 3) := by decide +kernel
theorem dX9_lost_22 : decode cX9_lost 22 = .ok (.getfield 184, 3) := by decide +kernel
theorem dX9_lost_25 : decode cX9_lost 25 = .ok (.iload_n 2, 1) := by decide +kernel
theorem dX9_lost_26 : decode cX9_lost 26 = .ok (.invokevirtual 92, 3) := by decide +kernel
theorem dX9_lost_29 : decode cX9_lost 29 = .ok (.iload_n 1, 1) := by decide +kernel
theorem dX9_lost_30 : decode cX9_lost 30 = .ok (.invokestatic 208, 3) := by decide +kernel
theorem dX9_lost_33 : decode cX9_lost 33 = .ok (.ifCond .eq 7, 3) := by decide +kernel
theorem dX9_lost_36 : decode cX9_lost 36 = .ok (.iconst 1, 1) := by decide +kernel
theorem dX9_lost_37 : decode cX9_lost 37 = .ok (.goto 4, 3) := by decide +kernel
theorem dX9_lost_40 : decode cX9_lost 40 = .ok (.iconst 0, 1) := by decide +kernel
theorem dX9_lost_41 : decode cX9_lost 41 = .ok (.ireturn, 1) := by decide +kernel
theorem dX9_repair_0 : decode cX9_repair 0 = .ok (.iload_n 1, 1) := by decide +kernel
theorem dX9_repair_1 : decode cX9_repair 1 = .ok (.invokestatic 181, 3) := by decide +kernel
theorem dX9_repair_4 : decode cX9_repair 4 = .ok (.ifCond .ne 6, 3) := by decide +kernel
theorem dX9_repair_7 : decode cX9_repair 7 = .ok (.ldc 51, 2) := by decide +kernel
theorem dX9_repair_9 : decode cX9_repair 9 = .ok (.ireturn, 1) := by decide +kernel
theorem dX9_repair_10 : decode cX9_repair 10 = .ok (.aload_n 0, 1) := by decide +kernel
theorem dX9_repair_11 : decode cX9_repair 11 = .ok (.getfield 33, 3) := by decide +kernel
theorem dX9_repair_14 : decode cX9_repair 14 = .ok (.aload_n 0, 1) := by decide +kernel
theorem dX9_repair_15 : decode cX9_repair 15 = .ok (.getfield 12, 3) := by decide +kernel
theorem dX9_repair_18 : decode cX9_repair 18 = .ok (.iload_n 1, 1) := by decide +kernel
theorem dX9_repair_19 : decode cX9_repair 19 = .ok (.aload_n 0, 1) := by decide +kernel
theorem dX9_repair_20 : decode cX9_repair 20 = .ok (.getfield 12, 3) := by decide +kernel
theorem dX9_repair_23 : decode cX9_repair 23 = .ok (.getfield 121, 3) := by decide +kernel
theorem dX9_repair_26 : decode cX9_repair 26 = .ok (.iconst 0, 1) := by decide +kernel
theorem dX9_repair_27 : decode cX9_repair 27 = .ok (.invokevirtual 92, 3) := by decide +kernel
theorem dX9_repair_30 : decode cX9_repair 30 = .ok (.invokevirtual 211, 3) := by decide +kernel
theorem dX9_repair_33 : decode cX9_repair 33 = .ok (.aload_n 0, 1) := by decide +kernel
theorem dX9_repair_34 : decode cX9_repair 34 = .ok (.getfield 33, 3) := by decide +kernel
theorem dX9_repair_37 : decode cX9_repair 37 = .ok (.getfield 215, 3) := by decide +kernel
theorem dX9_repair_40 : decode cX9_repair 40 = .ok (.ifCond .eq 6, 3) := by decide +kernel
theorem dX9_repair_43 : decode cX9_repair 43 = .ok (.ldc 147, 2) := by decide +kernel
theorem dX9_repair_45 : decode cX9_repair 45 = .ok (.ireturn, 1) := by decide +kernel
theorem dX9_repair_46 : decode cX9_repair 46 = .ok (.aload_n 0, 1) := by decide +kernel
theorem dX9_repair_47 : decode cX9_repair 47 = .ok (.getfield 19, 3) := by decide +kernel
theorem dX9_repair_50 : decode cX9_repair 50 = .ok (.aload_n 0, 1) := by decide +kernel
theorem dX9_repair_51 : decode cX9_repair 51 = .ok (.getfield 12, 3) := by decide +kernel
theorem dX9_repair_54 : decode cX9_repair 54 = .ok (.invokevirtual 63, 3) := by decide +kernel
theorem dX9_repair_57 : decode cX9_repair 57 = .ok (.aload_n 0, 1) := by decide +kernel
theorem dX9_repair_58 : decode cX9_repair 58 = .ok (.getfield 12, 3) := by decide +kernel
theorem dX9_repair_61 : decode cX9_repair 61 = .ok (.aload_n 0, 1) := by decide +kernel
theorem dX9_repair_62 : decode cX9_repair 62 = .ok (.getfield 33, 3) := by decide +kernel
theorem dX9_repair_65 : decode cX9_repair 65 = .ok (.invokevirtual 218, 3) := by decide +kernel
theorem dX9_repair_68 : decode cX9_repair 68 = .ok (.aload_n 0, 1) := by decide +kernel
theorem dX9_repair_69 : decode cX9_repair 69 = .ok (.getfield 33, 3) := by decide +kernel
theorem dX9_repair_72 : decode cX9_repair 72 = .ok (.getfield 222, 3) := by decide +kernel
theorem dX9_repair_75 : decode cX9_repair 75 = .ok (.ireturn, 1) := by decide +kernel
theorem dX9_repairAll_0 : decode cX9_repairAll 0 = .ok (.aload_n 0, 1) := by decide +kernel
theorem dX9_repairAll_1 : decode cX9_repairAll 1 = .ok (.getfield 19, 3) := by decide +kernel
theorem dX9_repairAll_4 : decode cX9_repairAll 4 = .ok (.aload_n 0, 1) := by decide +kernel
theorem dX9_repairAll_5 : decode cX9_repairAll 5 = .ok (.getfield 12, 3) := by decide +kernel
theorem dX9_repairAll_8 : decode cX9_repairAll 8 = .ok (.invokevirtual 63, 3) := by decide +kernel
theorem dX9_repairAll_11 : decode cX9_repairAll 11 = .ok (.iconst 0, 1) := by decide +kernel
theorem dX9_repairAll_12 : decode cX9_repairAll 12 = .ok (.istore_n 1, 1) := by decide +kernel
theorem dX9_repairAll_13 : decode cX9_repairAll 13 = .ok (.iconst 0, 1) := by decide +kernel
theorem dX9_repairAll_14 : decode cX9_repairAll 14 = .ok (.istore_n 2, 1) := by decide +kernel
theorem dX9_repairAll_15 : decode cX9_repairAll 15 = .ok (.iload_n 2, 1) := by decide +kernel
theorem dX9_repairAll_16 : decode cX9_repairAll 16 = .ok (.sipush 200, 3) := by decide +kernel
theorem dX9_repairAll_19 : decode cX9_repairAll 19 = .ok (.if_icmp .ge 56, 3) := by decide +kernel
theorem dX9_repairAll_22 : decode cX9_repairAll 22 = .ok (.aload_n 0, 1) := by decide +kernel
theorem dX9_repairAll_23 : decode cX9_repairAll 23 = .ok (.getfield 33, 3) := by decide +kernel
theorem dX9_repairAll_26 : decode cX9_repairAll 26 = .ok (.aload_n 0, 1) := by decide +kernel
theorem dX9_repairAll_27 : decode cX9_repairAll 27 = .ok (.getfield 12, 3) := by decide +kernel
theorem dX9_repairAll_30 : decode cX9_repairAll 30 = .ok (.iload_n 2, 1) := by decide +kernel
theorem dX9_repairAll_31 : decode cX9_repairAll 31 = .ok (.aload_n 0, 1) := by decide +kernel
theorem dX9_repairAll_32 : decode cX9_repairAll 32 = .ok (.getfield 12, 3) := by decide +kernel
theorem dX9_repairAll_35 : decode cX9_repairAll 35 = .ok (.getfield 121, 3) := by decide +kernel
theorem dX9_repairAll_38 : decode cX9_repairAll 38 = .ok (.iconst 0, 1) := by decide +kernel
theorem dX9_repairAll_39 : decode cX9_repairAll 39 = .ok (.invokevirtual 92, 3) := by decide +kernel
theorem dX9_repairAll_42 : decode cX9_repairAll 42 = .ok (.invokevirtual 211, 3) := by decide +kernel
theorem dX9_repairAll_45 : decode cX9_repairAll 45 = .ok (.aload_n 0, 1) := by decide +kernel
theorem dX9_repairAll_46 : decode cX9_repairAll 46 = .ok (.getfield 33, 3) := by decide +kernel
theorem dX9_repairAll_49 : decode cX9_repairAll 49 = .ok (.getfield 215, 3) := by decide +kernel
theorem dX9_repairAll_52 : decode cX9_repairAll 52 = .ok (.ifCond .ne 17, 3) := by decide +kernel
theorem dX9_repairAll_55 : decode cX9_repairAll 55 = .ok (.aload_n 0, 1) := by decide +kernel
theorem dX9_repairAll_56 : decode cX9_repairAll 56 = .ok (.getfield 12, 3) := by decide +kernel
theorem dX9_repairAll_59 : decode cX9_repairAll 59 = .ok (.aload_n 0, 1) := by decide +kernel
theorem dX9_repairAll_60 : decode cX9_repairAll 60 = .ok (.getfield 33, 3) := by decide +kernel
theorem dX9_repairAll_63 : decode cX9_repairAll 63 = .ok (.invokevirtual 218, 3) := by decide +kernel
theorem dX9_repairAll_66 : decode cX9_repairAll 66 = .ok (.iinc 1 1, 3) := by decide +kernel
theorem dX9_repairAll_69 : decode cX9_repairAll 69 = .ok (.iinc 2 1, 3) := by decide +kernel
theorem dX9_repairAll_72 : decode cX9_repairAll 72 = .ok (.goto (-57), 3) := by decide +kernel
theorem dX9_repairAll_75 : decode cX9_repairAll 75 = .ok (.iload_n 1, 1) := by decide +kernel
theorem dX9_repairAll_76 : decode cX9_repairAll 76 = .ok (.ireturn, 1) := by decide +kernel
theorem dX9_look_0 : decode cX9_look 0 = .ok (.iload_n 1, 1) := by decide +kernel
theorem dX9_look_1 : decode cX9_look 1 = .ok (.invokestatic 181, 3) := by decide +kernel
theorem dX9_look_4 : decode cX9_look 4 = .ok (.ifCond .eq 20, 3) := by decide +kernel
theorem dX9_look_7 : decode cX9_look 7 = .ok (.aload_n 0, 1) := by decide +kernel
theorem dX9_look_8 : decode cX9_look 8 = .ok (.iload_n 2, 1) := by decide +kernel
theorem dX9_look_9 : decode cX9_look 9 = .ok (.invokevirtual 71, 3) := by decide +kernel
theorem dX9_look_12 : decode cX9_look 12 = .ok (.ifCond .eq 12, 3) := by decide +kernel
theorem dX9_look_15 : decode cX9_look 15 = .ok (.iload_n 3, 1) := by decide +kernel
theorem dX9_look_16 : decode cX9_look 16 = .ok (.ifCond .lt 8, 3) := by decide +kernel
theorem dX9_look_19 : decode cX9_look 19 = .ok (.iload_n 3, 1) := by decide +kernel
theorem dX9_look_20 : decode cX9_look 20 = .ok (.iconst 2, 1) := by decide +kernel
theorem dX9_look_21 : decode cX9_look 21 = .ok (.if_icmp .le 6, 3) := by decide +kernel
theorem dX9_look_24 : decode cX9_look 24 = .ok (.ldc 51, 2) := by decide +kernel
theorem dX9_look_26 : decode cX9_look 26 = .ok (.ireturn, 1) := by decide +kernel
theorem dX9_look_27 : decode cX9_look 27 = .ok (.aload_n 0, 1) := by decide +kernel
theorem dX9_look_28 : decode cX9_look 28 = .ok (.getfield 33, 3) := by decide +kernel
theorem dX9_look_31 : decode cX9_look 31 = .ok (.aload_n 0, 1) := by decide +kernel
theorem dX9_look_32 : decode cX9_look 32 = .ok (.getfield 12, 3) := by decide +kernel
theorem dX9_look_35 : decode cX9_look 35 = .ok (.iload_n 1, 1) := by decide +kernel
theorem dX9_look_36 : decode cX9_look 36 = .ok (.aload_n 0, 1) := by decide +kernel
theorem dX9_look_37 : decode cX9_look 37 = .ok (.getfield 12, 3) := by decide +kernel
theorem dX9_look_40 : decode cX9_look 40 = .ok (.getfield 121, 3) := by decide +kernel
theorem dX9_look_43 : decode cX9_look 43 = .ok (.iconst 0, 1) := by decide +kernel
theorem dX9_look_44 : decode cX9_look 44 = .ok (.invokevirtual 92, 3) := by decide +kernel
theorem dX9_look_47 : decode cX9_look 47 = .ok (.invokevirtual 211, 3) := by decide +kernel
theorem dX9_look_50 : decode cX9_look 50 = .ok (.aload_n 0, 1) := by decide +kernel
theorem dX9_look_51 : decode cX9_look 51 = .ok (.getfield 33, 3) := by decide +kernel
theorem dX9_look_54 : decode cX9_look 54 = .ok (.getfield 215, 3) := by decide +kernel
theorem dX9_look_57 : decode cX9_look 57 = .ok (.ifCond .eq 6, 3) := by decide +kernel
theorem dX9_look_60 : decode cX9_look 60 = .ok (.ldc 147, 2) := by decide +kernel
theorem dX9_look_62 : decode cX9_look 62 = .ok (.ireturn, 1) := by decide +kernel
theorem dX9_look_63 : decode cX9_look 63 = .ok (.iload_n 3, 1) := by decide +kernel
theorem dX9_look_64 : decode cX9_look 64 = .ok (.ifCond .ne 12, 3) := by decide +kernel
theorem dX9_look_67 : decode cX9_look 67 = .ok (.aload_n 0, 1) := by decide +kernel
theorem dX9_look_68 : decode cX9_look 68 = .ok (.getfield 33, 3) := by decide +kernel
theorem dX9_look_71 : decode cX9_look 71 = .ok (.iload_n 2, 1) := by decide +kernel
theorem dX9_look_72 : decode cX9_look 72 = .ok (.invokevirtual 225, 3) := by decide +kernel
theorem dX9_look_75 : decode cX9_look 75 = .ok (.ireturn, 1) := by decide +kernel
theorem dX9_look_76 : decode cX9_look 76 = .ok (.aload_n 0, 1) := by decide +kernel
theorem dX9_look_77 : decode cX9_look 77 = .ok (.getfield 33, 3) := by decide +kernel
theorem dX9_look_80 : decode cX9_look 80 = .ok (.getfield 228, 3) := by decide +kernel
theorem dX9_look_83 : decode cX9_look 83 = .ok (.iload_n 2, 1) := by decide +kernel
theorem dX9_look_84 : decode cX9_look 84 = .ok (.invokestatic 208, 3) := by decide +kernel
theorem dX9_look_87 : decode cX9_look 87 = .ok (.ifCond .ne 6, 3) := by decide +kernel
theorem dX9_look_90 : decode cX9_look 90 = .ok (.ldc 231, 2) := by decide +kernel
theorem dX9_look_92 : decode cX9_look 92 = .ok (.ireturn, 1) := by decide +kernel
theorem dX9_look_93 : decode cX9_look 93 = .ok (.iload_n 3, 1) := by decide +kernel
theorem dX9_look_94 : decode cX9_look 94 = .ok (.iconst 1, 1) := by decide +kernel
theorem dX9_look_95 : decode cX9_look 95 = .ok (.if_icmp .ne 17, 3) := by decide +kernel
theorem dX9_look_98 : decode cX9_look 98 = .ok (.aload_n 0, 1) := by decide +kernel
theorem dX9_look_99 : decode cX9_look 99 = .ok (.getfield 33, 3) := by decide +kernel
theorem dX9_look_102 : decode cX9_look 102 = .ok (.getfield 232, 3) := by decide +kernel
theorem dX9_look_105 : decode cX9_look 105 = .ok (.iload_n 2, 1) := by decide +kernel
theorem dX9_look_106 : decode cX9_look 106 = .ok (.invokevirtual 92, 3) := by decide +kernel
theorem dX9_look_109 : decode cX9_look 109 = .ok (.goto 14, 3) := by decide +kernel
theorem dX9_look_112 : decode cX9_look 112 = .ok (.aload_n 0, 1) := by decide +kernel
theorem dX9_look_113 : decode cX9_look 113 = .ok (.getfield 33, 3) := by decide +kernel
theorem dX9_look_116 : decode cX9_look 116 = .ok (.getfield 235, 3) := by decide +kernel
theorem dX9_look_119 : decode cX9_look 119 = .ok (.iload_n 2, 1) := by decide +kernel
theorem dX9_look_120 : decode cX9_look 120 = .ok (.invokevirtual 92, 3) := by decide +kernel
theorem dX9_look_123 : decode cX9_look 123 = .ok (.ireturn, 1) := by decide +kernel
theorem dX9_past_0 : decode cX9_past 0 = .ok (.iload_n 1, 1) := by decide +kernel
theorem dX9_past_1 : decode cX9_past 1 = .ok (.ifCond .lt 13, 3) := by decide +kernel
theorem dX9_past_4 : decode cX9_past 4 = .ok (.iload_n 2, 1) := by decide +kernel
theorem dX9_past_5 : decode cX9_past 5 = .ok (.ifCond .lt 9, 3) := by decide +kernel
theorem dX9_past_8 : decode cX9_past 8 = .ok (.iload_n 2, 1) := by decide +kernel
theorem dX9_past_9 : decode cX9_past 9 = .ok (.bipush 7, 2) := by decide +kernel
theorem dX9_past_11 : decode cX9_past 11 = .ok (.if_icmp .lt 6, 3) := by decide +kernel
theorem dX9_past_14 : decode cX9_past 14 = .ok (.ldc 51, 2) := by decide +kernel
theorem dX9_past_16 : decode cX9_past 16 = .ok (.ireturn, 1) := by decide +kernel
theorem dX9_past_17 : decode cX9_past 17 = .ok (.aload_n 0, 1) := by decide +kernel
theorem dX9_past_18 : decode cX9_past 18 = .ok (.getfield 12, 3) := by decide +kernel
theorem dX9_past_21 : decode cX9_past 21 = .ok (.getfield 127, 3) := by decide +kernel
theorem dX9_past_24 : decode cX9_past 24 = .ok (.iload_n 1, 1) := by decide +kernel
theorem dX9_past_25 : decode cX9_past 25 = .ok (.iload_n 2, 1) := by decide +kernel
theorem dX9_past_26 : decode cX9_past 26 = .ok (.invokevirtual 238, 3) := by decide +kernel
theorem dX9_past_29 : decode cX9_past 29 = .ok (.ireturn, 1) := by decide +kernel
theorem dX9_why_0 : decode cX9_why 0 = .ok (.iload_n 1, 1) := by decide +kernel
theorem dX9_why_1 : decode cX9_why 1 = .ok (.invokestatic 181, 3) := by decide +kernel
theorem dX9_why_4 : decode cX9_why 4 = .ok (.ifCond .ne 6, 3) := by decide +kernel
theorem dX9_why_7 : decode cX9_why 7 = .ok (.ldc 51, 2) := by decide +kernel
theorem dX9_why_9 : decode cX9_why 9 = .ok (.ireturn, 1) := by decide +kernel
theorem dX9_why_10 : decode cX9_why 10 = .ok (.aload_n 0, 1) := by decide +kernel
theorem dX9_why_11 : decode cX9_why 11 = .ok (.getfield 33, 3) := by decide +kernel
theorem dX9_why_14 : decode cX9_why 14 = .ok (.aload_n 0, 1) := by decide +kernel
theorem dX9_why_15 : decode cX9_why 15 = .ok (.getfield 12, 3) := by decide +kernel
theorem dX9_why_18 : decode cX9_why 18 = .ok (.iload_n 1, 1) := by decide +kernel
theorem dX9_why_19 : decode cX9_why 19 = .ok (.aload_n 0, 1) := by decide +kernel
theorem dX9_why_20 : decode cX9_why 20 = .ok (.getfield 12, 3) := by decide +kernel
theorem dX9_why_23 : decode cX9_why 23 = .ok (.getfield 121, 3) := by decide +kernel
theorem dX9_why_26 : decode cX9_why 26 = .ok (.iconst 0, 1) := by decide +kernel
theorem dX9_why_27 : decode cX9_why 27 = .ok (.invokevirtual 92, 3) := by decide +kernel
theorem dX9_why_30 : decode cX9_why 30 = .ok (.invokevirtual 211, 3) := by decide +kernel
theorem dX9_why_33 : decode cX9_why 33 = .ok (.aload_n 0, 1) := by decide +kernel
theorem dX9_why_34 : decode cX9_why 34 = .ok (.getfield 33, 3) := by decide +kernel
theorem dX9_why_37 : decode cX9_why 37 = .ok (.getfield 215, 3) := by decide +kernel
theorem dX9_why_40 : decode cX9_why 40 = .ok (.ireturn, 1) := by decide +kernel
theorem dX9_silence_0 : decode cX9_silence 0 = .ok (.aload_n 0, 1) := by decide +kernel
theorem dX9_silence_1 : decode cX9_silence 1 = .ok (.getfield 12, 3) := by decide +kernel
theorem dX9_silence_4 : decode cX9_silence 4 = .ok (.getfield 127, 3) := by decide +kernel
theorem dX9_silence_7 : decode cX9_silence 7 = .ok (.getfield 139, 3) := by decide +kernel
theorem dX9_silence_10 : decode cX9_silence 10 = .ok (.i2f, 1) := by decide +kernel
theorem dX9_silence_11 : decode cX9_silence 11 = .ok (.fstore_n 1, 1) := by decide +kernel
theorem dX9_silence_12 : decode cX9_silence 12 = .ok (.aload_n 0, 1) := by decide +kernel
theorem dX9_silence_13 : decode cX9_silence 13 = .ok (.getfield 12, 3) := by decide +kernel
theorem dX9_silence_16 : decode cX9_silence 16 = .ok (.getfield 127, 3) := by decide +kernel
theorem dX9_silence_19 : decode cX9_silence 19 = .ok (.getfield 136, 3) := by decide +kernel
theorem dX9_silence_22 : decode cX9_silence 22 = .ok (.aload_n 0, 1) := by decide +kernel
theorem dX9_silence_23 : decode cX9_silence 23 = .ok (.getfield 12, 3) := by decide +kernel
theorem dX9_silence_26 : decode cX9_silence 26 = .ok (.getfield 127, 3) := by decide +kernel
theorem dX9_silence_29 : decode cX9_silence 29 = .ok (.getfield 139, 3) := by decide +kernel
theorem dX9_silence_32 : decode cX9_silence 32 = .ok (.iadd, 1) := by decide +kernel
theorem dX9_silence_33 : decode cX9_silence 33 = .ok (.i2f, 1) := by decide +kernel
theorem dX9_silence_34 : decode cX9_silence 34 = .ok (.fstore_n 2, 1) := by decide +kernel
theorem dX9_silence_35 : decode cX9_silence 35 = .ok (.fload_n 2, 1) := by decide +kernel
theorem dX9_silence_36 : decode cX9_silence 36 = .ok (.fconst 0, 1) := by decide +kernel
theorem dX9_silence_37 : decode cX9_silence 37 = .ok (.fcmp .l, 1) := by decide +kernel
theorem dX9_silence_38 : decode cX9_silence 38 = .ok (.ifCond .le 9, 3) := by decide +kernel
theorem dX9_silence_41 : decode cX9_silence 41 = .ok (.fload_n 1, 1) := by decide +kernel
theorem dX9_silence_42 : decode cX9_silence 42 = .ok (.fload_n 2, 1) := by decide +kernel
theorem dX9_silence_43 : decode cX9_silence 43 = .ok (.fdiv, 1) := by decide +kernel
theorem dX9_silence_44 : decode cX9_silence 44 = .ok (.goto 4, 3) := by decide +kernel
theorem dX9_silence_47 : decode cX9_silence 47 = .ok (.fconst 0, 1) := by decide +kernel
theorem dX9_silence_48 : decode cX9_silence 48 = .ok (.freturn, 1) := by decide +kernel
theorem dX9_bestWait_0 : decode cX9_bestWait 0 = .ok (.ldc 231, 2) := by decide +kernel
theorem dX9_bestWait_2 : decode cX9_bestWait 2 = .ok (.istore_n 1, 1) := by decide +kernel
theorem dX9_bestWait_3 : decode cX9_bestWait 3 = .ok (.iconst 0, 1) := by decide +kernel
theorem dX9_bestWait_4 : decode cX9_bestWait 4 = .ok (.istore_n 2, 1) := by decide +kernel
theorem dX9_bestWait_5 : decode cX9_bestWait 5 = .ok (.getstatic 241, 3) := by decide +kernel
theorem dX9_bestWait_8 : decode cX9_bestWait 8 = .ok (.astore_n 3, 1) := by decide +kernel
theorem dX9_bestWait_9 : decode cX9_bestWait 9 = .ok (.aload_n 3, 1) := by decide +kernel
theorem dX9_bestWait_10 : decode cX9_bestWait 10 = .ok (.arraylength, 1) := by decide +kernel
theorem dX9_bestWait_11 : decode cX9_bestWait 11 = .ok (.istore 4, 2) := by decide +kernel
theorem dX9_bestWait_13 : decode cX9_bestWait 13 = .ok (.iconst 0, 1) := by decide +kernel
theorem dX9_bestWait_14 : decode cX9_bestWait 14 = .ok (.istore 5, 2) := by decide +kernel
theorem dX9_bestWait_16 : decode cX9_bestWait 16 = .ok (.iload 5, 2) := by decide +kernel
theorem dX9_bestWait_18 : decode cX9_bestWait 18 = .ok (.iload 4, 2) := by decide +kernel
theorem dX9_bestWait_20 : decode cX9_bestWait 20 = .ok (.if_icmp .ge 48, 3) := by decide +kernel
theorem dX9_bestWait_23 : decode cX9_bestWait 23 = .ok (.aload_n 3, 1) := by decide +kernel
theorem dX9_bestWait_24 : decode cX9_bestWait 24 = .ok (.iload 5, 2) := by decide +kernel
theorem dX9_bestWait_26 : decode cX9_bestWait 26 = .ok (.iaload, 1) := by decide +kernel
theorem dX9_bestWait_27 : decode cX9_bestWait 27 = .ok (.istore 6, 2) := by decide +kernel
theorem dX9_bestWait_29 : decode cX9_bestWait 29 = .ok (.aload_n 0, 1) := by decide +kernel
theorem dX9_bestWait_30 : decode cX9_bestWait 30 = .ok (.iload 6, 2) := by decide +kernel
theorem dX9_bestWait_32 : decode cX9_bestWait 32 = .ok (.invokevirtual 245, 3) := by decide +kernel
theorem dX9_bestWait_35 : decode cX9_bestWait 35 = .ok (.istore 7, 2) := by decide +kernel
theorem dX9_bestWait_37 : decode cX9_bestWait 37 = .ok (.iload 7, 2) := by decide +kernel
theorem dX9_bestWait_39 : decode cX9_bestWait 39 = .ok (.ldc 231, 2) := by decide +kernel
theorem dX9_bestWait_41 : decode cX9_bestWait 41 = .ok (.if_icmp .eq 21, 3) := by decide +kernel
theorem dX9_bestWait_44 : decode cX9_bestWait 44 = .ok (.iload_n 1, 1) := by decide +kernel
theorem dX9_bestWait_45 : decode cX9_bestWait 45 = .ok (.ldc 231, 2) := by decide +kernel
theorem dX9_bestWait_47 : decode cX9_bestWait 47 = .ok (.if_icmp .eq 9, 3) := by decide +kernel
theorem dX9_bestWait_50 : decode cX9_bestWait 50 = .ok (.iload 7, 2) := by decide +kernel
theorem dX9_bestWait_52 : decode cX9_bestWait 52 = .ok (.iload_n 2, 1) := by decide +kernel
theorem dX9_bestWait_53 : decode cX9_bestWait 53 = .ok (.if_icmp .ge 9, 3) := by decide +kernel
theorem dX9_bestWait_56 : decode cX9_bestWait 56 = .ok (.iload 6, 2) := by decide +kernel
theorem dX9_bestWait_58 : decode cX9_bestWait 58 = .ok (.istore_n 1, 1) := by decide +kernel
theorem dX9_bestWait_59 : decode cX9_bestWait 59 = .ok (.iload 7, 2) := by decide +kernel
theorem dX9_bestWait_61 : decode cX9_bestWait 61 = .ok (.istore_n 2, 1) := by decide +kernel
theorem dX9_bestWait_62 : decode cX9_bestWait 62 = .ok (.iinc 5 1, 3) := by decide +kernel
theorem dX9_bestWait_65 : decode cX9_bestWait 65 = .ok (.goto (-49), 3) := by decide +kernel
theorem dX9_bestWait_68 : decode cX9_bestWait 68 = .ok (.iload_n 1, 1) := by decide +kernel
theorem dX9_bestWait_69 : decode cX9_bestWait 69 = .ok (.ireturn, 1) := by decide +kernel
theorem dX9_undo_0 : decode cX9_undo 0 = .ok (.aload_n 0, 1) := by decide +kernel
theorem dX9_undo_1 : decode cX9_undo 1 = .ok (.getfield 19, 3) := by decide +kernel
theorem dX9_undo_4 : decode cX9_undo 4 = .ok (.getfield 248, 3) := by decide +kernel
theorem dX9_undo_7 : decode cX9_undo 7 = .ok (.ifCond .ne 6, 3) := by decide +kernel
theorem dX9_undo_10 : decode cX9_undo 10 = .ok (.ldc 231, 2) := by decide +kernel
theorem dX9_undo_12 : decode cX9_undo 12 = .ok (.ireturn, 1) := by decide +kernel
theorem dX9_undo_13 : decode cX9_undo 13 = .ok (.aload_n 0, 1) := by decide +kernel
theorem dX9_undo_14 : decode cX9_undo 14 = .ok (.getfield 19, 3) := by decide +kernel
theorem dX9_undo_17 : decode cX9_undo 17 = .ok (.aload_n 0, 1) := by decide +kernel
theorem dX9_undo_18 : decode cX9_undo 18 = .ok (.getfield 12, 3) := by decide +kernel
theorem dX9_undo_21 : decode cX9_undo 21 = .ok (.invokevirtual 249, 3) := by decide +kernel
theorem dX9_undo_24 : decode cX9_undo 24 = .ok (.aload_n 0, 1) := by decide +kernel
theorem dX9_undo_25 : decode cX9_undo 25 = .ok (.getfield 19, 3) := by decide +kernel
theorem dX9_undo_28 : decode cX9_undo 28 = .ok (.getfield 248, 3) := by decide +kernel
theorem dX9_undo_31 : decode cX9_undo 31 = .ok (.ireturn, 1) := by decide +kernel
theorem dX9_fingerprint_0 : decode cX9_fingerprint 0 = .ok (.ldc2_w 252, 3) := by decide +kernel
theorem dX9_fingerprint_3 : decode cX9_fingerprint 3 = .ok (.lstore_n 1, 1) := by decide +kernel
theorem dX9_fingerprint_4 : decode cX9_fingerprint 4 = .ok (.iconst 0, 1) := by decide +kernel
theorem dX9_fingerprint_5 : decode cX9_fingerprint 5 = .ok (.istore_n 3, 1) := by decide +kernel
theorem dX9_fingerprint_6 : decode cX9_fingerprint 6 = .ok (.iload_n 3, 1) := by decide +kernel
theorem dX9_fingerprint_7 : decode cX9_fingerprint 7 = .ok (.bipush 9, 2) := by decide +kernel
theorem dX9_fingerprint_9 : decode cX9_fingerprint 9 = .ok (.if_icmp .gt 22, 3) := by decide +kernel
theorem dX9_fingerprint_12 : decode cX9_fingerprint 12 = .ok (.ldc2_w 254, 3) := by decide +kernel
theorem dX9_fingerprint_15 : decode cX9_fingerprint 15 = .ok (.lload_n 1, 1) := by decide +kernel
theorem dX9_fingerprint_16 : decode cX9_fingerprint 16 = .ok (.lmul, 1) := by decide +kernel
theorem dX9_fingerprint_17 : decode cX9_fingerprint 17 = .ok (.aload_n 0, 1) := by decide +kernel
theorem dX9_fingerprint_18 : decode cX9_fingerprint 18 = .ok (.iload_n 3, 1) := by decide +kernel
theorem dX9_fingerprint_19 : decode cX9_fingerprint 19 = .ok (.invokevirtual 256, 3) := by decide +kernel
theorem dX9_fingerprint_22 : decode cX9_fingerprint 22 = .ok (.i2l, 1) := by decide +kernel
theorem dX9_fingerprint_23 : decode cX9_fingerprint 23 = .ok (.ladd, 1) := by decide +kernel
theorem dX9_fingerprint_24 : decode cX9_fingerprint 24 = .ok (.lstore_n 1, 1) := by decide +kernel
theorem dX9_fingerprint_25 : decode cX9_fingerprint 25 = .ok (.iinc 3 1, 3) := by decide +kernel
theorem dX9_fingerprint_28 : decode cX9_fingerprint 28 = .ok (.goto (-22), 3) := by decide +kernel
theorem dX9_fingerprint_31 : decode cX9_fingerprint 31 = .ok (.iconst 0, 1) := by decide +kernel
theorem dX9_fingerprint_32 : decode cX9_fingerprint 32 = .ok (.istore_n 3, 1) := by decide +kernel
theorem dX9_fingerprint_33 : decode cX9_fingerprint 33 = .ok (.iload_n 3, 1) := by decide +kernel
theorem dX9_fingerprint_34 : decode cX9_fingerprint 34 = .ok (.aload_n 0, 1) := by decide +kernel
theorem dX9_fingerprint_35 : decode cX9_fingerprint 35 = .ok (.getfield 12, 3) := by decide +kernel
theorem dX9_fingerprint_38 : decode cX9_fingerprint 38 = .ok (.getfield 52, 3) := by decide +kernel
theorem dX9_fingerprint_41 : decode cX9_fingerprint 41 = .ok (.getfield 56, 3) := by decide +kernel
theorem dX9_fingerprint_44 : decode cX9_fingerprint 44 = .ok (.if_icmp .ge 40, 3) := by decide +kernel
theorem dX9_fingerprint_47 : decode cX9_fingerprint 47 = .ok (.iconst 0, 1) := by decide +kernel
theorem dX9_fingerprint_48 : decode cX9_fingerprint 48 = .ok (.istore 4, 2) := by decide +kernel
theorem dX9_fingerprint_50 : decode cX9_fingerprint 50 = .ok (.iload 4, 2) := by decide +kernel
theorem dX9_fingerprint_52 : decode cX9_fingerprint 52 = .ok (.bipush 8, 2) := by decide +kernel
theorem dX9_fingerprint_54 : decode cX9_fingerprint 54 = .ok (.if_icmp .gt 24, 3) := by decide +kernel
theorem dX9_fingerprint_57 : decode cX9_fingerprint 57 = .ok (.ldc2_w 254, 3) := by decide +kernel
theorem dX9_fingerprint_60 : decode cX9_fingerprint 60 = .ok (.lload_n 1, 1) := by decide +kernel
theorem dX9_fingerprint_61 : decode cX9_fingerprint 61 = .ok (.lmul, 1) := by decide +kernel
theorem dX9_fingerprint_62 : decode cX9_fingerprint 62 = .ok (.aload_n 0, 1) := by decide +kernel
theorem dX9_fingerprint_63 : decode cX9_fingerprint 63 = .ok (.iload_n 3, 1) := by decide +kernel
theorem dX9_fingerprint_64 : decode cX9_fingerprint 64 = .ok (.iload 4, 2) := by decide +kernel
theorem dX9_fingerprint_66 : decode cX9_fingerprint 66 = .ok (.invokevirtual 259, 3) := by decide +kernel
theorem dX9_fingerprint_69 : decode cX9_fingerprint 69 = .ok (.i2l, 1) := by decide +kernel
theorem dX9_fingerprint_70 : decode cX9_fingerprint 70 = .ok (.ladd, 1) := by decide +kernel
theorem dX9_fingerprint_71 : decode cX9_fingerprint 71 = .ok (.lstore_n 1, 1) := by decide +kernel
theorem dX9_fingerprint_72 : decode cX9_fingerprint 72 = .ok (.iinc 4 1, 3) := by decide +kernel
theorem dX9_fingerprint_75 : decode cX9_fingerprint 75 = .ok (.goto (-25), 3) := by decide +kernel
theorem dX9_fingerprint_78 : decode cX9_fingerprint 78 = .ok (.iinc 3 1, 3) := by decide +kernel
theorem dX9_fingerprint_81 : decode cX9_fingerprint 81 = .ok (.goto (-48), 3) := by decide +kernel
theorem dX9_fingerprint_84 : decode cX9_fingerprint 84 = .ok (.ldc2_w 254, 3) := by decide +kernel
theorem dX9_fingerprint_87 : decode cX9_fingerprint 87 = .ok (.lload_n 1, 1) := by decide +kernel
theorem dX9_fingerprint_88 : decode cX9_fingerprint 88 = .ok (.lmul, 1) := by decide +kernel
theorem dX9_fingerprint_89 : decode cX9_fingerprint 89 = .ok (.aload_n 0, 1) := by decide +kernel
theorem dX9_fingerprint_90 : decode cX9_fingerprint 90 = .ok (.invokevirtual 262, 3) := by decide +kernel
theorem dX9_fingerprint_93 : decode cX9_fingerprint 93 = .ok (.ladd, 1) := by decide +kernel
theorem dX9_fingerprint_94 : decode cX9_fingerprint 94 = .ok (.lstore_n 1, 1) := by decide +kernel
theorem dX9_fingerprint_95 : decode cX9_fingerprint 95 = .ok (.iconst 0, 1) := by decide +kernel
theorem dX9_fingerprint_96 : decode cX9_fingerprint 96 = .ok (.istore_n 3, 1) := by decide +kernel
theorem dX9_fingerprint_97 : decode cX9_fingerprint 97 = .ok (.iload_n 3, 1) := by decide +kernel
theorem dX9_fingerprint_98 : decode cX9_fingerprint 98 = .ok (.aload_n 0, 1) := by decide +kernel
theorem dX9_fingerprint_99 : decode cX9_fingerprint 99 = .ok (.getfield 12, 3) := by decide +kernel
theorem dX9_fingerprint_102 : decode cX9_fingerprint 102 = .ok (.getfield 99, 3) := by decide +kernel
theorem dX9_fingerprint_105 : decode cX9_fingerprint 105 = .ok (.getfield 265, 3) := by decide +kernel
theorem dX9_fingerprint_108 : decode cX9_fingerprint 108 = .ok (.if_icmp .ge 22, 3) := by decide +kernel
theorem dX9_fingerprint_111 : decode cX9_fingerprint 111 = .ok (.ldc2_w 254, 3) := by decide +kernel
theorem dX9_fingerprint_114 : decode cX9_fingerprint 114 = .ok (.lload_n 1, 1) := by decide +kernel
theorem dX9_fingerprint_115 : decode cX9_fingerprint 115 = .ok (.lmul, 1) := by decide +kernel
theorem dX9_fingerprint_116 : decode cX9_fingerprint 116 = .ok (.aload_n 0, 1) := by decide +kernel
theorem dX9_fingerprint_117 : decode cX9_fingerprint 117 = .ok (.iload_n 3, 1) := by decide +kernel
theorem dX9_fingerprint_118 : decode cX9_fingerprint 118 = .ok (.invokevirtual 268, 3) := by decide +kernel
theorem dX9_fingerprint_121 : decode cX9_fingerprint 121 = .ok (.i2l, 1) := by decide +kernel
theorem dX9_fingerprint_122 : decode cX9_fingerprint 122 = .ok (.ladd, 1) := by decide +kernel
theorem dX9_fingerprint_123 : decode cX9_fingerprint 123 = .ok (.lstore_n 1, 1) := by decide +kernel
theorem dX9_fingerprint_124 : decode cX9_fingerprint 124 = .ok (.iinc 3 1, 3) := by decide +kernel
theorem dX9_fingerprint_127 : decode cX9_fingerprint 127 = .ok (.goto (-30), 3) := by decide +kernel
theorem dX9_fingerprint_130 : decode cX9_fingerprint 130 = .ok (.iconst 0, 1) := by decide +kernel
theorem dX9_fingerprint_131 : decode cX9_fingerprint 131 = .ok (.istore_n 3, 1) := by decide +kernel
theorem dX9_fingerprint_132 : decode cX9_fingerprint 132 = .ok (.iload_n 3, 1) := by decide +kernel
theorem dX9_fingerprint_133 : decode cX9_fingerprint 133 = .ok (.sipush 200, 3) := by decide +kernel
theorem dX9_fingerprint_136 : decode cX9_fingerprint 136 = .ok (.if_icmp .ge 49, 3) := by decide +kernel
theorem dX9_fingerprint_139 : decode cX9_fingerprint 139 = .ok (.aload_n 0, 1) := by decide +kernel
theorem dX9_fingerprint_140 : decode cX9_fingerprint 140 = .ok (.getfield 12, 3) := by decide +kernel
theorem dX9_fingerprint_143 : decode cX9_fingerprint 143 = .ok (.getfield 184, 3) := by decide +kernel
theorem dX9_fingerprint_146 : decode cX9_fingerprint 146 = .ok (.iload_n 3, 1) := by decide +kernel
theorem dX9_fingerprint_147 : decode cX9_fingerprint 147 = .ok (.invokevirtual 92, 3) := by decide +kernel
theorem dX9_fingerprint_150 : decode cX9_fingerprint 150 = .ok (.ifCond .eq 29, 3) := by decide +kernel
theorem dX9_fingerprint_153 : decode cX9_fingerprint 153 = .ok (.ldc2_w 254, 3) := by decide +kernel
theorem dX9_fingerprint_156 : decode cX9_fingerprint 156 = .ok (.ldc2_w 254, 3) := by decide +kernel
theorem dX9_fingerprint_159 : decode cX9_fingerprint 159 = .ok (.lload_n 1, 1) := by decide +kernel
theorem dX9_fingerprint_160 : decode cX9_fingerprint 160 = .ok (.lmul, 1) := by decide +kernel
theorem dX9_fingerprint_161 : decode cX9_fingerprint 161 = .ok (.iload_n 3, 1) := by decide +kernel
theorem dX9_fingerprint_162 : decode cX9_fingerprint 162 = .ok (.i2l, 1) := by decide +kernel
theorem dX9_fingerprint_163 : decode cX9_fingerprint 163 = .ok (.ladd, 1) := by decide +kernel
theorem dX9_fingerprint_164 : decode cX9_fingerprint 164 = .ok (.lmul, 1) := by decide +kernel
theorem dX9_fingerprint_165 : decode cX9_fingerprint 165 = .ok (.aload_n 0, 1) := by decide +kernel
theorem dX9_fingerprint_166 : decode cX9_fingerprint 166 = .ok (.getfield 12, 3) := by decide +kernel
theorem dX9_fingerprint_169 : decode cX9_fingerprint 169 = .ok (.getfield 184, 3) := by decide +kernel
theorem dX9_fingerprint_172 : decode cX9_fingerprint 172 = .ok (.iload_n 3, 1) := by decide +kernel
theorem dX9_fingerprint_173 : decode cX9_fingerprint 173 = .ok (.invokevirtual 92, 3) := by decide +kernel
theorem dX9_fingerprint_176 : decode cX9_fingerprint 176 = .ok (.i2l, 1) := by decide +kernel
theorem dX9_fingerprint_177 : decode cX9_fingerprint 177 = .ok (.ladd, 1) := by decide +kernel
theorem dX9_fingerprint_178 : decode cX9_fingerprint 178 = .ok (.lstore_n 1, 1) := by decide +kernel
theorem dX9_fingerprint_179 : decode cX9_fingerprint 179 = .ok (.iinc 3 1, 3) := by decide +kernel
theorem dX9_fingerprint_182 : decode cX9_fingerprint 182 = .ok (.goto (-50), 3) := by decide +kernel
theorem dX9_fingerprint_185 : decode cX9_fingerprint 185 = .ok (.iconst 0, 1) := by decide +kernel
theorem dX9_fingerprint_186 : decode cX9_fingerprint 186 = .ok (.istore_n 3, 1) := by decide +kernel
theorem dX9_fingerprint_187 : decode cX9_fingerprint 187 = .ok (.iload_n 3, 1) := by decide +kernel
theorem dX9_fingerprint_188 : decode cX9_fingerprint 188 = .ok (.aload_n 0, 1) := by decide +kernel
theorem dX9_fingerprint_189 : decode cX9_fingerprint 189 = .ok (.getfield 12, 3) := by decide +kernel
theorem dX9_fingerprint_192 : decode cX9_fingerprint 192 = .ok (.getfield 127, 3) := by decide +kernel
theorem dX9_fingerprint_195 : decode cX9_fingerprint 195 = .ok (.invokevirtual 271, 3) := by decide +kernel
theorem dX9_fingerprint_198 : decode cX9_fingerprint 198 = .ok (.if_icmp .ge 40, 3) := by decide +kernel
theorem dX9_fingerprint_201 : decode cX9_fingerprint 201 = .ok (.iconst 0, 1) := by decide +kernel
theorem dX9_fingerprint_202 : decode cX9_fingerprint 202 = .ok (.istore 4, 2) := by decide +kernel
theorem dX9_fingerprint_204 : decode cX9_fingerprint 204 = .ok (.iload 4, 2) := by decide +kernel
theorem dX9_fingerprint_206 : decode cX9_fingerprint 206 = .ok (.bipush 7, 2) := by decide +kernel
theorem dX9_fingerprint_208 : decode cX9_fingerprint 208 = .ok (.if_icmp .ge 24, 3) := by decide +kernel
theorem dX9_fingerprint_211 : decode cX9_fingerprint 211 = .ok (.ldc2_w 254, 3) := by decide +kernel
theorem dX9_fingerprint_214 : decode cX9_fingerprint 214 = .ok (.lload_n 1, 1) := by decide +kernel
theorem dX9_fingerprint_215 : decode cX9_fingerprint 215 = .ok (.lmul, 1) := by decide +kernel
theorem dX9_fingerprint_216 : decode cX9_fingerprint 216 = .ok (.aload_n 0, 1) := by decide +kernel
theorem dX9_fingerprint_217 : decode cX9_fingerprint 217 = .ok (.iload_n 3, 1) := by decide +kernel
theorem dX9_fingerprint_218 : decode cX9_fingerprint 218 = .ok (.iload 4, 2) := by decide +kernel
theorem dX9_fingerprint_220 : decode cX9_fingerprint 220 = .ok (.invokevirtual 274, 3) := by decide +kernel
theorem dX9_fingerprint_223 : decode cX9_fingerprint 223 = .ok (.i2l, 1) := by decide +kernel
theorem dX9_fingerprint_224 : decode cX9_fingerprint 224 = .ok (.ladd, 1) := by decide +kernel
theorem dX9_fingerprint_225 : decode cX9_fingerprint 225 = .ok (.lstore_n 1, 1) := by decide +kernel
theorem dX9_fingerprint_226 : decode cX9_fingerprint 226 = .ok (.iinc 4 1, 3) := by decide +kernel
theorem dX9_fingerprint_229 : decode cX9_fingerprint 229 = .ok (.goto (-25), 3) := by decide +kernel
theorem dX9_fingerprint_232 : decode cX9_fingerprint 232 = .ok (.iinc 3 1, 3) := by decide +kernel
theorem dX9_fingerprint_235 : decode cX9_fingerprint 235 = .ok (.goto (-48), 3) := by decide +kernel
theorem dX9_fingerprint_238 : decode cX9_fingerprint 238 = .ok (.lload_n 1, 1) := by decide +kernel
theorem dX9_fingerprint_239 : decode cX9_fingerprint 239 = .ok (.lreturn, 1) := by decide +kernel
theorem dX9_isMember_0 : decode cX9_isMember 0 = .ok (.iload_n 1, 1) := by decide +kernel
theorem dX9_isMember_1 : decode cX9_isMember 1 = .ok (.ifCond .lt 21, 3) := by decide +kernel
theorem dX9_isMember_4 : decode cX9_isMember 4 = .ok (.iload_n 1, 1) := by decide +kernel
theorem dX9_isMember_5 : decode cX9_isMember 5 = .ok (.aload_n 0, 1) := by decide +kernel
theorem dX9_isMember_6 : decode cX9_isMember 6 = .ok (.getfield 12, 3) := by decide +kernel
theorem dX9_isMember_9 : decode cX9_isMember 9 = .ok (.getfield 52, 3) := by decide +kernel
theorem dX9_isMember_12 : decode cX9_isMember 12 = .ok (.getfield 56, 3) := by decide +kernel
theorem dX9_isMember_15 : decode cX9_isMember 15 = .ok (.if_icmp .ge 7, 3) := by decide +kernel
theorem dX9_isMember_18 : decode cX9_isMember 18 = .ok (.iconst 1, 1) := by decide +kernel
theorem dX9_isMember_19 : decode cX9_isMember 19 = .ok (.goto 4, 3) := by decide +kernel
theorem dX9_isMember_22 : decode cX9_isMember 22 = .ok (.iconst 0, 1) := by decide +kernel
theorem dX9_isMember_23 : decode cX9_isMember 23 = .ok (.ireturn, 1) := by decide +kernel
theorem dX9_isBlock_0 : decode cX9_isBlock 0 = .ok (.iload_n 0, 1) := by decide +kernel
theorem dX9_isBlock_1 : decode cX9_isBlock 1 = .ok (.ifCond .lt 14, 3) := by decide +kernel
theorem dX9_isBlock_4 : decode cX9_isBlock 4 = .ok (.iload_n 0, 1) := by decide +kernel
theorem dX9_isBlock_5 : decode cX9_isBlock 5 = .ok (.sipush 200, 3) := by decide +kernel
theorem dX9_isBlock_8 : decode cX9_isBlock 8 = .ok (.if_icmp .ge 7, 3) := by decide +kernel
theorem dX9_isBlock_11 : decode cX9_isBlock 11 = .ok (.iconst 1, 1) := by decide +kernel
theorem dX9_isBlock_12 : decode cX9_isBlock 12 = .ok (.goto 4, 3) := by decide +kernel
theorem dX9_isBlock_15 : decode cX9_isBlock 15 = .ok (.iconst 0, 1) := by decide +kernel
theorem dX9_isBlock_16 : decode cX9_isBlock 16 = .ok (.ireturn, 1) := by decide +kernel
theorem dX9_isWeight_0 : decode cX9_isWeight 0 = .ok (.iload_n 0, 1) := by decide +kernel
theorem dX9_isWeight_1 : decode cX9_isWeight 1 = .ok (.iconst 1, 1) := by decide +kernel
theorem dX9_isWeight_2 : decode cX9_isWeight 2 = .ok (.if_icmp .lt 13, 3) := by decide +kernel
theorem dX9_isWeight_5 : decode cX9_isWeight 5 = .ok (.iload_n 0, 1) := by decide +kernel
theorem dX9_isWeight_6 : decode cX9_isWeight 6 = .ok (.bipush 9, 2) := by decide +kernel
theorem dX9_isWeight_8 : decode cX9_isWeight 8 = .ok (.if_icmp .gt 7, 3) := by decide +kernel
theorem dX9_isWeight_11 : decode cX9_isWeight 11 = .ok (.iconst 1, 1) := by decide +kernel
theorem dX9_isWeight_12 : decode cX9_isWeight 12 = .ok (.goto 4, 3) := by decide +kernel
theorem dX9_isWeight_15 : decode cX9_isWeight 15 = .ok (.iconst 0, 1) := by decide +kernel
theorem dX9_isWeight_16 : decode cX9_isWeight 16 = .ok (.ireturn, 1) := by decide +kernel
theorem dX9_isPosition_0 : decode cX9_isPosition 0 = .ok (.iload_n 0, 1) := by decide +kernel
theorem dX9_isPosition_1 : decode cX9_isPosition 1 = .ok (.ifCond .lt 14, 3) := by decide +kernel
theorem dX9_isPosition_4 : decode cX9_isPosition 4 = .ok (.iload_n 0, 1) := by decide +kernel
theorem dX9_isPosition_5 : decode cX9_isPosition 5 = .ok (.sipush 1000, 3) := by decide +kernel
theorem dX9_isPosition_8 : decode cX9_isPosition 8 = .ok (.if_icmp .gt 7, 3) := by decide +kernel
theorem dX9_isPosition_11 : decode cX9_isPosition 11 = .ok (.iconst 1, 1) := by decide +kernel
theorem dX9_isPosition_12 : decode cX9_isPosition 12 = .ok (.goto 4, 3) := by decide +kernel
theorem dX9_isPosition_15 : decode cX9_isPosition 15 = .ok (.iconst 0, 1) := by decide +kernel
theorem dX9_isPosition_16 : decode cX9_isPosition 16 = .ok (.ireturn, 1) := by decide +kernel
theorem dX9_isSettingValue_0 : decode cX9_isSettingValue 0 = .ok (.iload_n 0, 1) := by decide +kernel
theorem dX9_isSettingValue_1 : decode cX9_isSettingValue 1 = .ok (.ifCond .lt 41, 3) := by decide +kernel
theorem dX9_isSettingValue_4 : decode cX9_isSettingValue 4 = .ok (.iload_n 0, 1) := by decide +kernel
theorem dX9_isSettingValue_5 : decode cX9_isSettingValue 5 = .ok (.getstatic 277, 3) := by decide +kernel
theorem dX9_isSettingValue_8 : decode cX9_isSettingValue 8 = .ok (.arraylength, 1) := by decide +kernel
theorem dX9_isSettingValue_9 : decode cX9_isSettingValue 9 = .ok (.if_icmp .ge 33, 3) := by decide +kernel
theorem dX9_isSettingValue_12 : decode cX9_isSettingValue 12 = .ok (.iload_n 0, 1) := by decide +kernel
theorem dX9_isSettingValue_13 : decode cX9_isSettingValue 13 = .ok (.getstatic 280, 3) := by decide +kernel
theorem dX9_isSettingValue_16 : decode cX9_isSettingValue 16 = .ok (.arraylength, 1) := by decide +kernel
theorem dX9_isSettingValue_17 : decode cX9_isSettingValue 17 = .ok (.if_icmp .ge 25, 3) := by decide +kernel
theorem dX9_isSettingValue_20 : decode cX9_isSettingValue 20 = .ok (.iload_n 1, 1) := by decide +kernel
theorem dX9_isSettingValue_21 : decode cX9_isSettingValue 21 = .ok (.getstatic 277, 3) := by decide +kernel
theorem dX9_isSettingValue_24 : decode cX9_isSettingValue 24 = .ok (.iload_n 0, 1) := by decide +kernel
theorem dX9_isSettingValue_25 : decode cX9_isSettingValue 25 = .ok (.iaload, 1) := by decide +kernel
theorem dX9_isSettingValue_26 : decode cX9_isSettingValue 26 = .ok (.if_icmp .lt 16, 3) := by decide +kernel
theorem dX9_isSettingValue_29 : decode cX9_isSettingValue 29 = .ok (.iload_n 1, 1) := by decide +kernel
theorem dX9_isSettingValue_30 : decode cX9_isSettingValue 30 = .ok (.getstatic 280, 3) := by decide +kernel
theorem dX9_isSettingValue_33 : decode cX9_isSettingValue 33 = .ok (.iload_n 0, 1) := by decide +kernel
theorem dX9_isSettingValue_34 : decode cX9_isSettingValue 34 = .ok (.iaload, 1) := by decide +kernel
theorem dX9_isSettingValue_35 : decode cX9_isSettingValue 35 = .ok (.if_icmp .gt 7, 3) := by decide +kernel
theorem dX9_isSettingValue_38 : decode cX9_isSettingValue 38 = .ok (.iconst 1, 1) := by decide +kernel
theorem dX9_isSettingValue_39 : decode cX9_isSettingValue 39 = .ok (.goto 4, 3) := by decide +kernel
theorem dX9_isSettingValue_42 : decode cX9_isSettingValue 42 = .ok (.iconst 0, 1) := by decide +kernel
theorem dX9_isSettingValue_43 : decode cX9_isSettingValue 43 = .ok (.ireturn, 1) := by decide +kernel
theorem dX9_areEnough_0 : decode cX9_areEnough 0 = .ok (.iload_n 1, 1) := by decide +kernel
theorem dX9_areEnough_1 : decode cX9_areEnough 1 = .ok (.invokestatic 187, 3) := by decide +kernel
theorem dX9_areEnough_4 : decode cX9_areEnough 4 = .ok (.aload_n 0, 1) := by decide +kernel
theorem dX9_areEnough_5 : decode cX9_areEnough 5 = .ok (.getfield 12, 3) := by decide +kernel
theorem dX9_areEnough_8 : decode cX9_areEnough 8 = .ok (.getfield 121, 3) := by decide +kernel
theorem dX9_areEnough_11 : decode cX9_areEnough 11 = .ok (.iconst 2, 1) := by decide +kernel
theorem dX9_areEnough_12 : decode cX9_areEnough 12 = .ok (.invokevirtual 92, 3) := by decide +kernel
theorem dX9_areEnough_15 : decode cX9_areEnough 15 = .ok (.if_icmp .lt 7, 3) := by decide +kernel
theorem dX9_areEnough_18 : decode cX9_areEnough 18 = .ok (.iconst 1, 1) := by decide +kernel
theorem dX9_areEnough_19 : decode cX9_areEnough 19 = .ok (.goto 4, 3) := by decide +kernel
theorem dX9_areEnough_22 : decode cX9_areEnough 22 = .ok (.iconst 0, 1) := by decide +kernel
theorem dX9_areEnough_23 : decode cX9_areEnough 23 = .ok (.ireturn, 1) := by decide +kernel
theorem dX9_sumOfTimes_0 : decode cX9_sumOfTimes 0 = .ok (.ldc 231, 2) := by decide +kernel
theorem dX9_sumOfTimes_2 : decode cX9_sumOfTimes 2 = .ok (.istore_n 2, 1) := by decide +kernel
theorem dX9_sumOfTimes_3 : decode cX9_sumOfTimes 3 = .ok (.iconst 0, 1) := by decide +kernel
theorem dX9_sumOfTimes_4 : decode cX9_sumOfTimes 4 = .ok (.istore_n 3, 1) := by decide +kernel
theorem dX9_sumOfTimes_5 : decode cX9_sumOfTimes 5 = .ok (.iload_n 3, 1) := by decide +kernel
theorem dX9_sumOfTimes_6 : decode cX9_sumOfTimes 6 = .ok (.sipush 200, 3) := by decide +kernel
theorem dX9_sumOfTimes_9 : decode cX9_sumOfTimes 9 = .ok (.if_icmp .ge 52, 3) := by decide +kernel
theorem dX9_sumOfTimes_12 : decode cX9_sumOfTimes 12 = .ok (.aload_n 0, 1) := by decide +kernel
theorem dX9_sumOfTimes_13 : decode cX9_sumOfTimes 13 = .ok (.getfield 33, 3) := by decide +kernel
theorem dX9_sumOfTimes_16 : decode cX9_sumOfTimes 16 = .ok (.aload_n 0, 1) := by decide +kernel
theorem dX9_sumOfTimes_17 : decode cX9_sumOfTimes 17 = .ok (.getfield 12, 3) := by decide +kernel
theorem dX9_sumOfTimes_20 : decode cX9_sumOfTimes 20 = .ok (.iload_n 3, 1) := by decide +kernel
theorem dX9_sumOfTimes_21 : decode cX9_sumOfTimes 21 = .ok (.iload_n 1, 1) := by decide +kernel
theorem dX9_sumOfTimes_22 : decode cX9_sumOfTimes 22 = .ok (.invokevirtual 211, 3) := by decide +kernel
theorem dX9_sumOfTimes_25 : decode cX9_sumOfTimes 25 = .ok (.aload_n 0, 1) := by decide +kernel
theorem dX9_sumOfTimes_26 : decode cX9_sumOfTimes 26 = .ok (.getfield 33, 3) := by decide +kernel
theorem dX9_sumOfTimes_29 : decode cX9_sumOfTimes 29 = .ok (.getfield 215, 3) := by decide +kernel
theorem dX9_sumOfTimes_32 : decode cX9_sumOfTimes 32 = .ok (.ifCond .ne 23, 3) := by decide +kernel
theorem dX9_sumOfTimes_35 : decode cX9_sumOfTimes 35 = .ok (.iload_n 2, 1) := by decide +kernel
theorem dX9_sumOfTimes_36 : decode cX9_sumOfTimes 36 = .ok (.ldc 231, 2) := by decide +kernel
theorem dX9_sumOfTimes_38 : decode cX9_sumOfTimes 38 = .ok (.if_icmp .ne 7, 3) := by decide +kernel
theorem dX9_sumOfTimes_41 : decode cX9_sumOfTimes 41 = .ok (.iconst 0, 1) := by decide +kernel
theorem dX9_sumOfTimes_42 : decode cX9_sumOfTimes 42 = .ok (.goto 4, 3) := by decide +kernel
theorem dX9_sumOfTimes_45 : decode cX9_sumOfTimes 45 = .ok (.iload_n 2, 1) := by decide +kernel
theorem dX9_sumOfTimes_46 : decode cX9_sumOfTimes 46 = .ok (.aload_n 0, 1) := by decide +kernel
theorem dX9_sumOfTimes_47 : decode cX9_sumOfTimes 47 = .ok (.getfield 33, 3) := by decide +kernel
theorem dX9_sumOfTimes_50 : decode cX9_sumOfTimes 50 = .ok (.getfield 222, 3) := by decide +kernel
theorem dX9_sumOfTimes_53 : decode cX9_sumOfTimes 53 = .ok (.iadd, 1) := by decide +kernel
theorem dX9_sumOfTimes_54 : decode cX9_sumOfTimes 54 = .ok (.istore_n 2, 1) := by decide +kernel
theorem dX9_sumOfTimes_55 : decode cX9_sumOfTimes 55 = .ok (.iinc 3 1, 3) := by decide +kernel
theorem dX9_sumOfTimes_58 : decode cX9_sumOfTimes 58 = .ok (.goto (-53), 3) := by decide +kernel
theorem dX9_sumOfTimes_61 : decode cX9_sumOfTimes 61 = .ok (.iload_n 2, 1) := by decide +kernel
theorem dX9_sumOfTimes_62 : decode cX9_sumOfTimes 62 = .ok (.ireturn, 1) := by decide +kernel
theorem dX10_init_0 : decode cX10_init 0 = .ok (.aload_n 0, 1) := by decide +kernel
theorem dX10_init_1 : decode cX10_init 1 = .ok (.invokespecial 1, 3) := by decide +kernel
theorem dX10_init_4 : decode cX10_init 4 = .ok (.aload_n 0, 1) := by decide +kernel
theorem dX10_init_5 : decode cX10_init 5 = .ok (.sipush 520, 3) := by decide +kernel
theorem dX10_init_8 : decode cX10_init 8 = .ok (.newarray .int, 2) := by decide +kernel
theorem dX10_init_10 : decode cX10_init 10 = .ok (.putfield 7, 3) := by decide +kernel
theorem dX10_init_13 : decode cX10_init 13 = .ok (.aload_n 0, 1) := by decide +kernel
theorem dX10_init_14 : decode cX10_init 14 = .ok (.sipush 2080, 3) := by decide +kernel
theorem dX10_init_17 : decode cX10_init 17 = .ok (.newarray .int, 2) := by decide +kernel
theorem dX10_init_19 : decode cX10_init 19 = .ok (.putfield 13, 3) := by decide +kernel
theorem dX10_init_22 : decode cX10_init 22 = .ok (.aload_n 0, 1) := by decide +kernel
theorem dX10_init_23 : decode cX10_init 23 = .ok (.bipush 10, 2) := by decide +kernel
theorem dX10_init_25 : decode cX10_init 25 = .ok (.newarray .int, 2) := by decide +kernel
theorem dX10_init_27 : decode cX10_init 27 = .ok (.putfield 16, 3) := by decide +kernel
theorem dX10_init_30 : decode cX10_init 30 = .ok (.aload_n 0, 1) := by decide +kernel
theorem dX10_init_31 : decode cX10_init 31 = .ok (.bipush 60, 2) := by decide +kernel
theorem dX10_init_33 : decode cX10_init 33 = .ok (.newarray .int, 2) := by decide +kernel
theorem dX10_init_35 : decode cX10_init 35 = .ok (.putfield 19, 3) := by decide +kernel
theorem dX10_init_38 : decode cX10_init 38 = .ok (.aload_n 0, 1) := by decide +kernel
theorem dX10_init_39 : decode cX10_init 39 = .ok (.bipush 60, 2) := by decide +kernel
theorem dX10_init_41 : decode cX10_init 41 = .ok (.newarray .int, 2) := by decide +kernel
theorem dX10_init_43 : decode cX10_init 43 = .ok (.putfield 22, 3) := by decide +kernel
theorem dX10_init_46 : decode cX10_init 46 = .ok (.aload_n 0, 1) := by decide +kernel
theorem dX10_init_47 : decode cX10_init 47 = .ok (.bipush 10, 2) := by decide +kernel
theorem dX10_init_49 : decode cX10_init 49 = .ok (.newarray .int, 2) := by decide +kernel
theorem dX10_init_51 : decode cX10_init 51 = .ok (.putfield 25, 3) := by decide +kernel
theorem dX10_init_54 : decode cX10_init 54 = .ok (.aload_n 0, 1) := by decide +kernel
theorem dX10_init_55 : decode cX10_init 55 = .ok (.getfield 7, 3) := by decide +kernel
theorem dX10_init_58 : decode cX10_init 58 = .ok (.iconst 0, 1) := by decide +kernel
theorem dX10_init_59 : decode cX10_init 59 = .ok (.bipush 100, 2) := by decide +kernel
theorem dX10_init_61 : decode cX10_init 61 = .ok (.iastore, 1) := by decide +kernel
theorem dX10_init_62 : decode cX10_init 62 = .ok (.aload_n 0, 1) := by decide +kernel
theorem dX10_init_63 : decode cX10_init 63 = .ok (.getfield 7, 3) := by decide +kernel
theorem dX10_init_66 : decode cX10_init 66 = .ok (.iconst 1, 1) := by decide +kernel
theorem dX10_init_67 : decode cX10_init 67 = .ok (.bipush 50, 2) := by decide +kernel
theorem dX10_init_69 : decode cX10_init 69 = .ok (.iastore, 1) := by decide +kernel
theorem dX10_init_70 : decode cX10_init 70 = .ok (.aload_n 0, 1) := by decide +kernel
theorem dX10_init_71 : decode cX10_init 71 = .ok (.getfield 7, 3) := by decide +kernel
theorem dX10_init_74 : decode cX10_init 74 = .ok (.iconst 2, 1) := by decide +kernel
theorem dX10_init_75 : decode cX10_init 75 = .ok (.iconst 2, 1) := by decide +kernel
theorem dX10_init_76 : decode cX10_init 76 = .ok (.iastore, 1) := by decide +kernel
theorem dX10_init_77 : decode cX10_init 77 = .ok (.aload_n 0, 1) := by decide +kernel
theorem dX10_init_78 : decode cX10_init 78 = .ok (.getfield 7, 3) := by decide +kernel
theorem dX10_init_81 : decode cX10_init 81 = .ok (.iconst 3, 1) := by decide +kernel
theorem dX10_init_82 : decode cX10_init 82 = .ok (.iconst 5, 1) := by decide +kernel
theorem dX10_init_83 : decode cX10_init 83 = .ok (.iastore, 1) := by decide +kernel
theorem dX10_init_84 : decode cX10_init 84 = .ok (.aload_n 0, 1) := by decide +kernel
theorem dX10_init_85 : decode cX10_init 85 = .ok (.getfield 7, 3) := by decide +kernel
theorem dX10_init_88 : decode cX10_init 88 = .ok (.iconst 4, 1) := by decide +kernel
theorem dX10_init_89 : decode cX10_init 89 = .ok (.iconst 3, 1) := by decide +kernel
theorem dX10_init_90 : decode cX10_init 90 = .ok (.iastore, 1) := by decide +kernel
theorem dX10_init_91 : decode cX10_init 91 = .ok (.return_, 1) := by decide +kernel
theorem dX10_in_0 : decode cX10_in 0 = .ok (.iload_n 0, 1) := by decide +kernel
theorem dX10_in_1 : decode cX10_in 1 = .ok (.iload_n 1, 1) := by decide +kernel
theorem dX10_in_2 : decode cX10_in 2 = .ok (.if_icmp .lt 12, 3) := by decide +kernel
theorem dX10_in_5 : decode cX10_in 5 = .ok (.iload_n 0, 1) := by decide +kernel
theorem dX10_in_6 : decode cX10_in 6 = .ok (.iload_n 2, 1) := by decide +kernel
theorem dX10_in_7 : decode cX10_in 7 = .ok (.if_icmp .gt 7, 3) := by decide +kernel
theorem dX10_in_10 : decode cX10_in 10 = .ok (.iconst 1, 1) := by decide +kernel
theorem dX10_in_11 : decode cX10_in 11 = .ok (.goto 4, 3) := by decide +kernel
theorem dX10_in_14 : decode cX10_in 14 = .ok (.iconst 0, 1) := by decide +kernel
theorem dX10_in_15 : decode cX10_in 15 = .ok (.ireturn, 1) := by decide +kernel
theorem dX10_act_0 : decode cX10_act 0 = .ok (.aload_n 0, 1) := by decide +kernel
theorem dX10_act_1 : decode cX10_act 1 = .ok (.getfield 28, 3) := by decide +kernel
theorem dX10_act_4 : decode cX10_act 4 = .ok (.iconst 4, 1) := by decide +kernel
theorem dX10_act_5 : decode cX10_act 5 = .ok (.if_icmp .ne 44, 3) := by decide +kernel
theorem dX10_act_8 : decode cX10_act 8 = .ok (.iconst 0, 1) := by decide +kernel
theorem dX10_act_9 : decode cX10_act 9 = .ok (.istore_n 1, 1) := by decide +kernel
theorem dX10_act_10 : decode cX10_act 10 = .ok (.iload_n 1, 1) := by decide +kernel
theorem dX10_act_11 : decode cX10_act 11 = .ok (.sipush 1560, 3) := by decide +kernel
theorem dX10_act_14 : decode cX10_act 14 = .ok (.if_icmp .ge 25, 3) := by decide +kernel
theorem dX10_act_17 : decode cX10_act 17 = .ok (.aload_n 0, 1) := by decide +kernel
theorem dX10_act_18 : decode cX10_act 18 = .ok (.getfield 13, 3) := by decide +kernel
theorem dX10_act_21 : decode cX10_act 21 = .ok (.iload_n 1, 1) := by decide +kernel
theorem dX10_act_22 : decode cX10_act 22 = .ok (.aload_n 0, 1) := by decide +kernel
theorem dX10_act_23 : decode cX10_act 23 = .ok (.getfield 13, 3) := by decide +kernel
theorem dX10_act_26 : decode cX10_act 26 = .ok (.iload_n 1, 1) := by decide +kernel
theorem dX10_act_27 : decode cX10_act 27 = .ok (.sipush 520, 3) := by decide +kernel
theorem dX10_act_30 : decode cX10_act 30 = .ok (.iadd, 1) := by decide +kernel
theorem dX10_act_31 : decode cX10_act 31 = .ok (.iaload, 1) := by decide +kernel
theorem dX10_act_32 : decode cX10_act 32 = .ok (.iastore, 1) := by decide +kernel
theorem dX10_act_33 : decode cX10_act 33 = .ok (.iinc 1 1, 3) := by decide +kernel
theorem dX10_act_36 : decode cX10_act 36 = .ok (.goto (-26), 3) := by decide +kernel
theorem dX10_act_39 : decode cX10_act 39 = .ok (.aload_n 0, 1) := by decide +kernel
theorem dX10_act_40 : decode cX10_act 40 = .ok (.dup, 1) := by decide +kernel
theorem dX10_act_41 : decode cX10_act 41 = .ok (.getfield 28, 3) := by decide +kernel
theorem dX10_act_44 : decode cX10_act 44 = .ok (.iconst 1, 1) := by decide +kernel
theorem dX10_act_45 : decode cX10_act 45 = .ok (.isub, 1) := by decide +kernel
theorem dX10_act_46 : decode cX10_act 46 = .ok (.putfield 28, 3) := by decide +kernel
theorem dX10_act_49 : decode cX10_act 49 = .ok (.iconst 0, 1) := by decide +kernel
theorem dX10_act_50 : decode cX10_act 50 = .ok (.istore_n 1, 1) := by decide +kernel
theorem dX10_act_51 : decode cX10_act 51 = .ok (.iload_n 1, 1) := by decide +kernel
theorem dX10_act_52 : decode cX10_act 52 = .ok (.sipush 520, 3) := by decide +kernel
theorem dX10_act_55 : decode cX10_act 55 = .ok (.if_icmp .ge 30, 3) := by decide +kernel
theorem dX10_act_58 : decode cX10_act 58 = .ok (.aload_n 0, 1) := by decide +kernel
theorem dX10_act_59 : decode cX10_act 59 = .ok (.getfield 13, 3) := by decide +kernel
theorem dX10_act_62 : decode cX10_act 62 = .ok (.sipush 520, 3) := by decide +kernel
theorem dX10_act_65 : decode cX10_act 65 = .ok (.aload_n 0, 1) := by decide +kernel
theorem dX10_act_66 : decode cX10_act 66 = .ok (.getfield 28, 3) := by decide +kernel
theorem dX10_act_69 : decode cX10_act 69 = .ok (.imul, 1) := by decide +kernel
theorem dX10_act_70 : decode cX10_act 70 = .ok (.iload_n 1, 1) := by decide +kernel
theorem dX10_act_71 : decode cX10_act 71 = .ok (.iadd, 1) := by decide +kernel
theorem dX10_act_72 : decode cX10_act 72 = .ok (.aload_n 0, 1) := by decide +kernel
theorem dX10_act_73 : decode cX10_act 73 = .ok (.getfield 7, 3) := by decide +kernel
theorem dX10_act_76 : decode cX10_act 76 = .ok (.iload_n 1, 1) := by decide +kernel
theorem dX10_act_77 : decode cX10_act 77 = .ok (.iaload, 1) := by decide +kernel
theorem dX10_act_78 : decode cX10_act 78 = .ok (.iastore, 1) := by decide +kernel
theorem dX10_act_79 : decode cX10_act 79 = .ok (.iinc 1 1, 3) := by decide +kernel
theorem dX10_act_82 : decode cX10_act 82 = .ok (.goto (-31), 3) := by decide +kernel
theorem dX10_act_85 : decode cX10_act 85 = .ok (.aload_n 0, 1) := by decide +kernel
theorem dX10_act_86 : decode cX10_act 86 = .ok (.dup, 1) := by decide +kernel
theorem dX10_act_87 : decode cX10_act 87 = .ok (.getfield 28, 3) := by decide +kernel
theorem dX10_act_90 : decode cX10_act 90 = .ok (.iconst 1, 1) := by decide +kernel
theorem dX10_act_91 : decode cX10_act 91 = .ok (.iadd, 1) := by decide +kernel
theorem dX10_act_92 : decode cX10_act 92 = .ok (.putfield 28, 3) := by decide +kernel
theorem dX10_act_95 : decode cX10_act 95 = .ok (.return_, 1) := by decide +kernel
theorem dX10_sets_0 : decode cX10_sets 0 = .ok (.aload_n 0, 1) := by decide +kernel
theorem dX10_sets_1 : decode cX10_sets 1 = .ok (.invokevirtual 32, 3) := by decide +kernel
theorem dX10_sets_4 : decode cX10_sets 4 = .ok (.aload_n 0, 1) := by decide +kernel
theorem dX10_sets_5 : decode cX10_sets 5 = .ok (.getfield 7, 3) := by decide +kernel
theorem dX10_sets_8 : decode cX10_sets 8 = .ok (.iload_n 1, 1) := by decide +kernel
theorem dX10_sets_9 : decode cX10_sets 9 = .ok (.iaload, 1) := by decide +kernel
theorem dX10_sets_10 : decode cX10_sets 10 = .ok (.istore_n 3, 1) := by decide +kernel
theorem dX10_sets_11 : decode cX10_sets 11 = .ok (.aload_n 0, 1) := by decide +kernel
theorem dX10_sets_12 : decode cX10_sets 12 = .ok (.getfield 7, 3) := by decide +kernel
theorem dX10_sets_15 : decode cX10_sets 15 = .ok (.iload_n 1, 1) := by decide +kernel
theorem dX10_sets_16 : decode cX10_sets 16 = .ok (.iload_n 2, 1) := by decide +kernel
theorem dX10_sets_17 : decode cX10_sets 17 = .ok (.iastore, 1) := by decide +kernel
theorem dX10_sets_18 : decode cX10_sets 18 = .ok (.iload_n 3, 1) := by decide +kernel
theorem dX10_sets_19 : decode cX10_sets 19 = .ok (.ireturn, 1) := by decide +kernel
theorem dX10_at_0 : decode cX10_at 0 = .ok (.bipush 30, 2) := by decide +kernel
theorem dX10_at_2 : decode cX10_at 2 = .ok (.bipush 12, 2) := by decide +kernel
theorem dX10_at_4 : decode cX10_at 4 = .ok (.iload_n 0, 1) := by decide +kernel
theorem dX10_at_5 : decode cX10_at 5 = .ok (.imul, 1) := by decide +kernel
theorem dX10_at_6 : decode cX10_at 6 = .ok (.iadd, 1) := by decide +kernel
theorem dX10_at_7 : decode cX10_at 7 = .ok (.iload_n 1, 1) := by decide +kernel
theorem dX10_at_8 : decode cX10_at 8 = .ok (.iadd, 1) := by decide +kernel
theorem dX10_at_9 : decode cX10_at 9 = .ok (.ireturn, 1) := by decide +kernel
theorem dX10_isMember_0 : decode cX10_isMember 0 = .ok (.iload_n 1, 1) := by decide +kernel
theorem dX10_isMember_1 : decode cX10_isMember 1 = .ok (.iconst 0, 1) := by decide +kernel
theorem dX10_isMember_2 : decode cX10_isMember 2 = .ok (.aload_n 0, 1) := by decide +kernel
theorem dX10_isMember_3 : decode cX10_isMember 3 = .ok (.getfield 7, 3) := by decide +kernel
theorem dX10_isMember_6 : decode cX10_isMember 6 = .ok (.iconst 5, 1) := by decide +kernel
theorem dX10_isMember_7 : decode cX10_isMember 7 = .ok (.iaload, 1) := by decide +kernel
theorem dX10_isMember_8 : decode cX10_isMember 8 = .ok (.iconst 1, 1) := by decide +kernel
theorem dX10_isMember_9 : decode cX10_isMember 9 = .ok (.isub, 1) := by decide +kernel
theorem dX10_isMember_10 : decode cX10_isMember 10 = .ok (.invokestatic 35, 3) := by decide +kernel
theorem dX10_isMember_13 : decode cX10_isMember 13 = .ok (.ireturn, 1) := by decide +kernel
theorem dX10_isBlock_0 : decode cX10_isBlock 0 = .ok (.iload_n 0, 1) := by decide +kernel
theorem dX10_isBlock_1 : decode cX10_isBlock 1 = .ok (.iconst 0, 1) := by decide +kernel
theorem dX10_isBlock_2 : decode cX10_isBlock 2 = .ok (.sipush 199, 3) := by decide +kernel
theorem dX10_isBlock_5 : decode cX10_isBlock 5 = .ok (.invokestatic 35, 3) := by decide +kernel
theorem dX10_isBlock_8 : decode cX10_isBlock 8 = .ok (.ireturn, 1) := by decide +kernel
theorem dX10_mixed_0 : decode cX10_mixed 0 = .ok (.iload_n 0, 1) := by decide +kernel
theorem dX10_mixed_1 : decode cX10_mixed 1 = .ok (.ldc 39, 2) := by decide +kernel
theorem dX10_mixed_3 : decode cX10_mixed 3 = .ok (.imul, 1) := by decide +kernel
theorem dX10_mixed_4 : decode cX10_mixed 4 = .ok (.sipush 12345, 3) := by decide +kernel
theorem dX10_mixed_7 : decode cX10_mixed 7 = .ok (.iadd, 1) := by decide +kernel
theorem dX10_mixed_8 : decode cX10_mixed 8 = .ok (.istore_n 1, 1) := by decide +kernel
theorem dX10_mixed_9 : decode cX10_mixed 9 = .ok (.iload_n 1, 1) := by decide +kernel
theorem dX10_mixed_10 : decode cX10_mixed 10 = .ok (.iload_n 1, 1) := by decide +kernel
theorem dX10_mixed_11 : decode cX10_mixed 11 = .ok (.bipush 15, 2) := by decide +kernel
theorem dX10_mixed_13 : decode cX10_mixed 13 = .ok (.iushr, 1) := by decide +kernel
theorem dX10_mixed_14 : decode cX10_mixed 14 = .ok (.ixor, 1) := by decide +kernel
theorem dX10_mixed_15 : decode cX10_mixed 15 = .ok (.istore_n 1, 1) := by decide +kernel
theorem dX10_mixed_16 : decode cX10_mixed 16 = .ok (.iload_n 1, 1) := by decide +kernel
theorem dX10_mixed_17 : decode cX10_mixed 17 = .ok (.ldc 39, 2) := by decide +kernel
theorem dX10_mixed_19 : decode cX10_mixed 19 = .ok (.imul, 1) := by decide +kernel
theorem dX10_mixed_20 : decode cX10_mixed 20 = .ok (.sipush 12345, 3) := by decide +kernel
theorem dX10_mixed_23 : decode cX10_mixed 23 = .ok (.iadd, 1) := by decide +kernel
theorem dX10_mixed_24 : decode cX10_mixed 24 = .ok (.ireturn, 1) := by decide +kernel
theorem dX10_join_0 : decode cX10_join 0 = .ok (.iload_n 1, 1) := by decide +kernel
theorem dX10_join_1 : decode cX10_join 1 = .ok (.iconst 1, 1) := by decide +kernel
theorem dX10_join_2 : decode cX10_join 2 = .ok (.bipush 9, 2) := by decide +kernel
theorem dX10_join_4 : decode cX10_join 4 = .ok (.invokestatic 35, 3) := by decide +kernel
theorem dX10_join_7 : decode cX10_join 7 = .ok (.ifCond .eq 14, 3) := by decide +kernel
theorem dX10_join_10 : decode cX10_join 10 = .ok (.iload_n 2, 1) := by decide +kernel
theorem dX10_join_11 : decode cX10_join 11 = .ok (.iconst 0, 1) := by decide +kernel
theorem dX10_join_12 : decode cX10_join 12 = .ok (.sipush 1000, 3) := by decide +kernel
theorem dX10_join_15 : decode cX10_join 15 = .ok (.invokestatic 35, 3) := by decide +kernel
theorem dX10_join_18 : decode cX10_join 18 = .ok (.ifCond .ne 6, 3) := by decide +kernel
theorem dX10_join_21 : decode cX10_join 21 = .ok (.ldc 40, 2) := by decide +kernel
theorem dX10_join_23 : decode cX10_join 23 = .ok (.ireturn, 1) := by decide +kernel
theorem dX10_join_24 : decode cX10_join 24 = .ok (.aload_n 0, 1) := by decide +kernel
theorem dX10_join_25 : decode cX10_join 25 = .ok (.getfield 7, 3) := by decide +kernel
theorem dX10_join_28 : decode cX10_join 28 = .ok (.iconst 5, 1) := by decide +kernel
theorem dX10_join_29 : decode cX10_join 29 = .ok (.iaload, 1) := by decide +kernel
theorem dX10_join_30 : decode cX10_join 30 = .ok (.bipush 10, 2) := by decide +kernel
theorem dX10_join_32 : decode cX10_join 32 = .ok (.if_icmp .ne 6, 3) := by decide +kernel
theorem dX10_join_35 : decode cX10_join 35 = .ok (.ldc 41, 2) := by decide +kernel
theorem dX10_join_37 : decode cX10_join 37 = .ok (.ireturn, 1) := by decide +kernel
theorem dX10_join_38 : decode cX10_join 38 = .ok (.aload_n 0, 1) := by decide +kernel
theorem dX10_join_39 : decode cX10_join 39 = .ok (.invokevirtual 32, 3) := by decide +kernel
theorem dX10_join_42 : decode cX10_join 42 = .ok (.aload_n 0, 1) := by decide +kernel
theorem dX10_join_43 : decode cX10_join 43 = .ok (.getfield 7, 3) := by decide +kernel
theorem dX10_join_46 : decode cX10_join 46 = .ok (.iconst 5, 1) := by decide +kernel
theorem dX10_join_47 : decode cX10_join 47 = .ok (.iaload, 1) := by decide +kernel
theorem dX10_join_48 : decode cX10_join 48 = .ok (.istore_n 3, 1) := by decide +kernel
theorem dX10_join_49 : decode cX10_join 49 = .ok (.iconst 0, 1) := by decide +kernel
theorem dX10_join_50 : decode cX10_join 50 = .ok (.istore 4, 2) := by decide +kernel
theorem dX10_join_52 : decode cX10_join 52 = .ok (.iload 4, 2) := by decide +kernel
theorem dX10_join_54 : decode cX10_join 54 = .ok (.bipush 12, 2) := by decide +kernel
theorem dX10_join_56 : decode cX10_join 56 = .ok (.if_icmp .ge 21, 3) := by decide +kernel
theorem dX10_join_59 : decode cX10_join 59 = .ok (.aload_n 0, 1) := by decide +kernel
theorem dX10_join_60 : decode cX10_join 60 = .ok (.getfield 7, 3) := by decide +kernel
theorem dX10_join_63 : decode cX10_join 63 = .ok (.iload_n 3, 1) := by decide +kernel
theorem dX10_join_64 : decode cX10_join 64 = .ok (.iload 4, 2) := by decide +kernel
theorem dX10_join_66 : decode cX10_join 66 = .ok (.invokestatic 42, 3) := by decide +kernel
theorem dX10_join_69 : decode cX10_join 69 = .ok (.iconst 0, 1) := by decide +kernel
theorem dX10_join_70 : decode cX10_join 70 = .ok (.iastore, 1) := by decide +kernel
theorem dX10_join_71 : decode cX10_join 71 = .ok (.iinc 4 1, 3) := by decide +kernel
theorem dX10_join_74 : decode cX10_join 74 = .ok (.goto (-22), 3) := by decide +kernel
theorem dX10_join_77 : decode cX10_join 77 = .ok (.aload_n 0, 1) := by decide +kernel
theorem dX10_join_78 : decode cX10_join 78 = .ok (.getfield 7, 3) := by decide +kernel
theorem dX10_join_81 : decode cX10_join 81 = .ok (.iload_n 3, 1) := by decide +kernel
theorem dX10_join_82 : decode cX10_join 82 = .ok (.iconst 0, 1) := by decide +kernel
theorem dX10_join_83 : decode cX10_join 83 = .ok (.invokestatic 42, 3) := by decide +kernel
theorem dX10_join_86 : decode cX10_join 86 = .ok (.iload_n 1, 1) := by decide +kernel
theorem dX10_join_87 : decode cX10_join 87 = .ok (.iastore, 1) := by decide +kernel
theorem dX10_join_88 : decode cX10_join 88 = .ok (.aload_n 0, 1) := by decide +kernel
theorem dX10_join_89 : decode cX10_join 89 = .ok (.getfield 7, 3) := by decide +kernel
theorem dX10_join_92 : decode cX10_join 92 = .ok (.iload_n 3, 1) := by decide +kernel
theorem dX10_join_93 : decode cX10_join 93 = .ok (.iconst 1, 1) := by decide +kernel
theorem dX10_join_94 : decode cX10_join 94 = .ok (.invokestatic 42, 3) := by decide +kernel
theorem dX10_join_97 : decode cX10_join 97 = .ok (.iload_n 2, 1) := by decide +kernel
theorem dX10_join_98 : decode cX10_join 98 = .ok (.iastore, 1) := by decide +kernel
theorem dX10_join_99 : decode cX10_join 99 = .ok (.aload_n 0, 1) := by decide +kernel
theorem dX10_join_100 : decode cX10_join 100 = .ok (.getfield 7, 3) := by decide +kernel
theorem dX10_join_103 : decode cX10_join 103 = .ok (.iload_n 3, 1) := by decide +kernel
theorem dX10_join_104 : decode cX10_join 104 = .ok (.iconst 2, 1) := by decide +kernel
theorem dX10_join_105 : decode cX10_join 105 = .ok (.invokestatic 42, 3) := by decide +kernel
theorem dX10_join_108 : decode cX10_join 108 = .ok (.iconst 1, 1) := by decide +kernel
theorem dX10_join_109 : decode cX10_join 109 = .ok (.iastore, 1) := by decide +kernel
theorem dX10_join_110 : decode cX10_join 110 = .ok (.aload_n 0, 1) := by decide +kernel
theorem dX10_join_111 : decode cX10_join 111 = .ok (.getfield 7, 3) := by decide +kernel
theorem dX10_join_114 : decode cX10_join 114 = .ok (.iload_n 3, 1) := by decide +kernel
theorem dX10_join_115 : decode cX10_join 115 = .ok (.iconst 4, 1) := by decide +kernel
theorem dX10_join_116 : decode cX10_join 116 = .ok (.invokestatic 42, 3) := by decide +kernel
theorem dX10_join_119 : decode cX10_join 119 = .ok (.ldc 46, 2) := by decide +kernel
theorem dX10_join_121 : decode cX10_join 121 = .ok (.iastore, 1) := by decide +kernel
theorem dX10_join_122 : decode cX10_join 122 = .ok (.aload_n 0, 1) := by decide +kernel
theorem dX10_join_123 : decode cX10_join 123 = .ok (.getfield 7, 3) := by decide +kernel
theorem dX10_join_126 : decode cX10_join 126 = .ok (.iconst 5, 1) := by decide +kernel
theorem dX10_join_127 : decode cX10_join 127 = .ok (.dup2, 1) := by decide +kernel
theorem dX10_join_128 : decode cX10_join 128 = .ok (.iaload, 1) := by decide +kernel
theorem dX10_join_129 : decode cX10_join 129 = .ok (.iconst 1, 1) := by decide +kernel
theorem dX10_join_130 : decode cX10_join 130 = .ok (.iadd, 1) := by decide +kernel
theorem dX10_join_131 : decode cX10_join 131 = .ok (.iastore, 1) := by decide +kernel
theorem dX10_join_132 : decode cX10_join 132 = .ok (.iload_n 3, 1) := by decide +kernel
theorem dX10_join_133 : decode cX10_join 133 = .ok (.ireturn, 1) := by decide +kernel
theorem dX10_change_0 : decode cX10_change 0 = .ok (.iload_n 2, 1) := by decide +kernel
theorem dX10_change_1 : decode cX10_change 1 = .ok (.ifCond .ne 13, 3) := by decide +kernel
theorem dX10_change_4 : decode cX10_change 4 = .ok (.iload_n 3, 1) := by decide +kernel
theorem dX10_change_5 : decode cX10_change 5 = .ok (.iconst 1, 1) := by decide +kernel
theorem dX10_change_6 : decode cX10_change 6 = .ok (.bipush 9, 2) := by decide +kernel
theorem dX10_change_8 : decode cX10_change 8 = .ok (.invokestatic 35, 3) := by decide +kernel
theorem dX10_change_11 : decode cX10_change 11 = .ok (.goto 24, 3) := by decide +kernel
theorem dX10_change_14 : decode cX10_change 14 = .ok (.iload_n 2, 1) := by decide +kernel
theorem dX10_change_15 : decode cX10_change 15 = .ok (.iconst 1, 1) := by decide +kernel
theorem dX10_change_16 : decode cX10_change 16 = .ok (.if_icmp .ne 18, 3) := by decide +kernel
theorem dX10_change_19 : decode cX10_change 19 = .ok (.iload_n 3, 1) := by decide +kernel
theorem dX10_change_20 : decode cX10_change 20 = .ok (.iconst 0, 1) := by decide +kernel
theorem dX10_change_21 : decode cX10_change 21 = .ok (.sipush 1000, 3) := by decide +kernel
theorem dX10_change_24 : decode cX10_change 24 = .ok (.invokestatic 35, 3) := by decide +kernel
theorem dX10_change_27 : decode cX10_change 27 = .ok (.ifCond .eq 7, 3) := by decide +kernel
theorem dX10_change_30 : decode cX10_change 30 = .ok (.iconst 1, 1) := by decide +kernel
theorem dX10_change_31 : decode cX10_change 31 = .ok (.goto 4, 3) := by decide +kernel
theorem dX10_change_34 : decode cX10_change 34 = .ok (.iconst 0, 1) := by decide +kernel
theorem dX10_change_35 : decode cX10_change 35 = .ok (.istore 4, 2) := by decide +kernel
theorem dX10_change_37 : decode cX10_change 37 = .ok (.aload_n 0, 1) := by decide +kernel
theorem dX10_change_38 : decode cX10_change 38 = .ok (.iload_n 1, 1) := by decide +kernel
theorem dX10_change_39 : decode cX10_change 39 = .ok (.invokevirtual 47, 3) := by decide +kernel
theorem dX10_change_42 : decode cX10_change 42 = .ok (.ifCond .eq 21, 3) := by decide +kernel
theorem dX10_change_45 : decode cX10_change 45 = .ok (.iload 4, 2) := by decide +kernel
theorem dX10_change_47 : decode cX10_change 47 = .ok (.ifCond .eq 16, 3) := by decide +kernel
theorem dX10_change_50 : decode cX10_change 50 = .ok (.aload_n 0, 1) := by decide +kernel
theorem dX10_change_51 : decode cX10_change 51 = .ok (.iload_n 1, 1) := by decide +kernel
theorem dX10_change_52 : decode cX10_change 52 = .ok (.iload_n 2, 1) := by decide +kernel
theorem dX10_change_53 : decode cX10_change 53 = .ok (.invokestatic 42, 3) := by decide +kernel
theorem dX10_change_56 : decode cX10_change 56 = .ok (.iload_n 3, 1) := by decide +kernel
theorem dX10_change_57 : decode cX10_change 57 = .ok (.invokevirtual 51, 3) := by decide +kernel
theorem dX10_change_60 : decode cX10_change 60 = .ok (.goto 5, 3) := by decide +kernel
theorem dX10_change_63 : decode cX10_change 63 = .ok (.ldc 40, 2) := by decide +kernel
theorem dX10_change_65 : decode cX10_change 65 = .ok (.ireturn, 1) := by decide +kernel
theorem dX10_live_0 : decode cX10_live 0 = .ok (.aload_n 0, 1) := by decide +kernel
theorem dX10_live_1 : decode cX10_live 1 = .ok (.iload_n 1, 1) := by decide +kernel
theorem dX10_live_2 : decode cX10_live 2 = .ok (.invokevirtual 47, 3) := by decide +kernel
theorem dX10_live_5 : decode cX10_live 5 = .ok (.ifCond .eq 24, 3) := by decide +kernel
theorem dX10_live_8 : decode cX10_live 8 = .ok (.aload_n 0, 1) := by decide +kernel
theorem dX10_live_9 : decode cX10_live 9 = .ok (.iload_n 1, 1) := by decide +kernel
theorem dX10_live_10 : decode cX10_live 10 = .ok (.iconst 2, 1) := by decide +kernel
theorem dX10_live_11 : decode cX10_live 11 = .ok (.invokestatic 42, 3) := by decide +kernel
theorem dX10_live_14 : decode cX10_live 14 = .ok (.iload_n 2, 1) := by decide +kernel
theorem dX10_live_15 : decode cX10_live 15 = .ok (.ifCond .eq 7, 3) := by decide +kernel
theorem dX10_live_18 : decode cX10_live 18 = .ok (.iconst 1, 1) := by decide +kernel
theorem dX10_live_19 : decode cX10_live 19 = .ok (.goto 4, 3) := by decide +kernel
theorem dX10_live_22 : decode cX10_live 22 = .ok (.iconst 0, 1) := by decide +kernel
theorem dX10_live_23 : decode cX10_live 23 = .ok (.invokevirtual 51, 3) := by decide +kernel
theorem dX10_live_26 : decode cX10_live 26 = .ok (.goto 5, 3) := by decide +kernel
theorem dX10_live_29 : decode cX10_live 29 = .ok (.ldc 40, 2) := by decide +kernel
theorem dX10_live_31 : decode cX10_live 31 = .ok (.ireturn, 1) := by decide +kernel
theorem dX10_has_0 : decode cX10_has 0 = .ok (.aload_n 0, 1) := by decide +kernel
theorem dX10_has_1 : decode cX10_has 1 = .ok (.getfield 7, 3) := by decide +kernel
theorem dX10_has_4 : decode cX10_has 4 = .ok (.sipush 150, 3) := by decide +kernel
theorem dX10_has_7 : decode cX10_has 7 = .ok (.iload_n 2, 1) := by decide +kernel
theorem dX10_has_8 : decode cX10_has 8 = .ok (.iadd, 1) := by decide +kernel
theorem dX10_has_9 : decode cX10_has 9 = .ok (.iaload, 1) := by decide +kernel
theorem dX10_has_10 : decode cX10_has 10 = .ok (.iload_n 1, 1) := by decide +kernel
theorem dX10_has_11 : decode cX10_has 11 = .ok (.ishr, 1) := by decide +kernel
theorem dX10_has_12 : decode cX10_has 12 = .ok (.iconst 1, 1) := by decide +kernel
theorem dX10_has_13 : decode cX10_has 13 = .ok (.iand, 1) := by decide +kernel
theorem dX10_has_14 : decode cX10_has 14 = .ok (.ifCond .ne 7, 3) := by decide +kernel
theorem dX10_has_17 : decode cX10_has 17 = .ok (.iconst 1, 1) := by decide +kernel
theorem dX10_has_18 : decode cX10_has 18 = .ok (.goto 4, 3) := by decide +kernel
theorem dX10_has_21 : decode cX10_has 21 = .ok (.iconst 0, 1) := by decide +kernel
theorem dX10_has_22 : decode cX10_has 22 = .ok (.ireturn, 1) := by decide +kernel
theorem dX10_told_0 : decode cX10_told 0 = .ok (.iload_n 2, 1) := by decide +kernel
theorem dX10_told_1 : decode cX10_told 1 = .ok (.iconst 5, 1) := by decide +kernel
theorem dX10_told_2 : decode cX10_told 2 = .ok (.if_icmp .eq 14, 3) := by decide +kernel
theorem dX10_told_5 : decode cX10_told 5 = .ok (.aload_n 0, 1) := by decide +kernel
theorem dX10_told_6 : decode cX10_told 6 = .ok (.getfield 7, 3) := by decide +kernel
theorem dX10_told_9 : decode cX10_told 9 = .ok (.iload_n 1, 1) := by decide +kernel
theorem dX10_told_10 : decode cX10_told 10 = .ok (.iload_n 2, 1) := by decide +kernel
theorem dX10_told_11 : decode cX10_told 11 = .ok (.invokestatic 42, 3) := by decide +kernel
theorem dX10_told_14 : decode cX10_told 14 = .ok (.iaload, 1) := by decide +kernel
theorem dX10_told_15 : decode cX10_told 15 = .ok (.ireturn, 1) := by decide +kernel
theorem dX10_told_16 : decode cX10_told 16 = .ok (.iconst 0, 1) := by decide +kernel
theorem dX10_told_17 : decode cX10_told 17 = .ok (.istore_n 3, 1) := by decide +kernel
theorem dX10_told_18 : decode cX10_told 18 = .ok (.iconst 0, 1) := by decide +kernel
theorem dX10_told_19 : decode cX10_told 19 = .ok (.istore 4, 2) := by decide +kernel
theorem dX10_told_21 : decode cX10_told 21 = .ok (.iload 4, 2) := by decide +kernel
theorem dX10_told_23 : decode cX10_told 23 = .ok (.sipush 200, 3) := by decide +kernel
theorem dX10_told_26 : decode cX10_told 26 = .ok (.if_icmp .ge 27, 3) := by decide +kernel
theorem dX10_told_29 : decode cX10_told 29 = .ok (.iload_n 3, 1) := by decide +kernel
theorem dX10_told_30 : decode cX10_told 30 = .ok (.aload_n 0, 1) := by decide +kernel
theorem dX10_told_31 : decode cX10_told 31 = .ok (.iload_n 1, 1) := by decide +kernel
theorem dX10_told_32 : decode cX10_told 32 = .ok (.iload 4, 2) := by decide +kernel
theorem dX10_told_34 : decode cX10_told 34 = .ok (.invokevirtual 54, 3) := by decide +kernel
theorem dX10_told_37 : decode cX10_told 37 = .ok (.ifCond .eq 7, 3) := by decide +kernel
theorem dX10_told_40 : decode cX10_told 40 = .ok (.iconst 0, 1) := by decide +kernel
theorem dX10_told_41 : decode cX10_told 41 = .ok (.goto 4, 3) := by decide +kernel
theorem dX10_told_44 : decode cX10_told 44 = .ok (.iconst 1, 1) := by decide +kernel
theorem dX10_told_45 : decode cX10_told 45 = .ok (.iadd, 1) := by decide +kernel
theorem dX10_told_46 : decode cX10_told 46 = .ok (.istore_n 3, 1) := by decide +kernel
theorem dX10_told_47 : decode cX10_told 47 = .ok (.iinc 4 1, 3) := by decide +kernel
theorem dX10_told_50 : decode cX10_told 50 = .ok (.goto (-29), 3) := by decide +kernel
theorem dX10_told_53 : decode cX10_told 53 = .ok (.iload_n 3, 1) := by decide +kernel
theorem dX10_told_54 : decode cX10_told 54 = .ok (.ireturn, 1) := by decide +kernel
theorem dX10_member_0 : decode cX10_member 0 = .ok (.aload_n 0, 1) := by decide +kernel
theorem dX10_member_1 : decode cX10_member 1 = .ok (.iload_n 1, 1) := by decide +kernel
theorem dX10_member_2 : decode cX10_member 2 = .ok (.invokevirtual 47, 3) := by decide +kernel
theorem dX10_member_5 : decode cX10_member 5 = .ok (.ifCond .eq 22, 3) := by decide +kernel
theorem dX10_member_8 : decode cX10_member 8 = .ok (.iload_n 2, 1) := by decide +kernel
theorem dX10_member_9 : decode cX10_member 9 = .ok (.iconst 0, 1) := by decide +kernel
theorem dX10_member_10 : decode cX10_member 10 = .ok (.bipush 8, 2) := by decide +kernel
theorem dX10_member_12 : decode cX10_member 12 = .ok (.invokestatic 35, 3) := by decide +kernel
theorem dX10_member_15 : decode cX10_member 15 = .ok (.ifCond .eq 12, 3) := by decide +kernel
theorem dX10_member_18 : decode cX10_member 18 = .ok (.aload_n 0, 1) := by decide +kernel
theorem dX10_member_19 : decode cX10_member 19 = .ok (.iload_n 1, 1) := by decide +kernel
theorem dX10_member_20 : decode cX10_member 20 = .ok (.iload_n 2, 1) := by decide +kernel
theorem dX10_member_21 : decode cX10_member 21 = .ok (.invokevirtual 58, 3) := by decide +kernel
theorem dX10_member_24 : decode cX10_member 24 = .ok (.goto 5, 3) := by decide +kernel
theorem dX10_member_27 : decode cX10_member 27 = .ok (.ldc 40, 2) := by decide +kernel
theorem dX10_member_29 : decode cX10_member 29 = .ok (.ireturn, 1) := by decide +kernel
theorem dX10_set_0 : decode cX10_set 0 = .ok (.iload_n 1, 1) := by decide +kernel
theorem dX10_set_1 : decode cX10_set 1 = .ok (.ifCond .ne 14, 3) := by decide +kernel
theorem dX10_set_4 : decode cX10_set 4 = .ok (.iload_n 2, 1) := by decide +kernel
theorem dX10_set_5 : decode cX10_set 5 = .ok (.iconst 1, 1) := by decide +kernel
theorem dX10_set_6 : decode cX10_set 6 = .ok (.sipush 1000, 3) := by decide +kernel
theorem dX10_set_9 : decode cX10_set 9 = .ok (.invokestatic 35, 3) := by decide +kernel
theorem dX10_set_12 : decode cX10_set 12 = .ok (.goto 58, 3) := by decide +kernel
theorem dX10_set_15 : decode cX10_set 15 = .ok (.iload_n 1, 1) := by decide +kernel
theorem dX10_set_16 : decode cX10_set 16 = .ok (.iconst 1, 1) := by decide +kernel
theorem dX10_set_17 : decode cX10_set 17 = .ok (.if_icmp .ne 14, 3) := by decide +kernel
theorem dX10_set_20 : decode cX10_set 20 = .ok (.iload_n 2, 1) := by decide +kernel
theorem dX10_set_21 : decode cX10_set 21 = .ok (.iconst 0, 1) := by decide +kernel
theorem dX10_set_22 : decode cX10_set 22 = .ok (.sipush 500, 3) := by decide +kernel
theorem dX10_set_25 : decode cX10_set 25 = .ok (.invokestatic 35, 3) := by decide +kernel
theorem dX10_set_28 : decode cX10_set 28 = .ok (.goto 42, 3) := by decide +kernel
theorem dX10_set_31 : decode cX10_set 31 = .ok (.iload_n 1, 1) := by decide +kernel
theorem dX10_set_32 : decode cX10_set 32 = .ok (.iconst 2, 1) := by decide +kernel
theorem dX10_set_33 : decode cX10_set 33 = .ok (.if_icmp .ne 13, 3) := by decide +kernel
theorem dX10_set_36 : decode cX10_set 36 = .ok (.iload_n 2, 1) := by decide +kernel
theorem dX10_set_37 : decode cX10_set 37 = .ok (.iconst 1, 1) := by decide +kernel
theorem dX10_set_38 : decode cX10_set 38 = .ok (.bipush 10, 2) := by decide +kernel
theorem dX10_set_40 : decode cX10_set 40 = .ok (.invokestatic 35, 3) := by decide +kernel
theorem dX10_set_43 : decode cX10_set 43 = .ok (.goto 27, 3) := by decide +kernel
theorem dX10_set_46 : decode cX10_set 46 = .ok (.iload_n 1, 1) := by decide +kernel
theorem dX10_set_47 : decode cX10_set 47 = .ok (.iconst 3, 1) := by decide +kernel
theorem dX10_set_48 : decode cX10_set 48 = .ok (.iconst 4, 1) := by decide +kernel
theorem dX10_set_49 : decode cX10_set 49 = .ok (.invokestatic 35, 3) := by decide +kernel
theorem dX10_set_52 : decode cX10_set 52 = .ok (.ifCond .eq 17, 3) := by decide +kernel
theorem dX10_set_55 : decode cX10_set 55 = .ok (.iload_n 2, 1) := by decide +kernel
theorem dX10_set_56 : decode cX10_set 56 = .ok (.iconst 0, 1) := by decide +kernel
theorem dX10_set_57 : decode cX10_set 57 = .ok (.bipush 100, 2) := by decide +kernel
theorem dX10_set_59 : decode cX10_set 59 = .ok (.invokestatic 35, 3) := by decide +kernel
theorem dX10_set_62 : decode cX10_set 62 = .ok (.ifCond .eq 7, 3) := by decide +kernel
theorem dX10_set_65 : decode cX10_set 65 = .ok (.iconst 1, 1) := by decide +kernel
theorem dX10_set_66 : decode cX10_set 66 = .ok (.goto 4, 3) := by decide +kernel
theorem dX10_set_69 : decode cX10_set 69 = .ok (.iconst 0, 1) := by decide +kernel
theorem dX10_set_70 : decode cX10_set 70 = .ok (.istore_n 3, 1) := by decide +kernel
theorem dX10_set_71 : decode cX10_set 71 = .ok (.iload_n 3, 1) := by decide +kernel
theorem dX10_set_72 : decode cX10_set 72 = .ok (.ifCond .eq 12, 3) := by decide +kernel
theorem dX10_set_75 : decode cX10_set 75 = .ok (.aload_n 0, 1) := by decide +kernel
theorem dX10_set_76 : decode cX10_set 76 = .ok (.iload_n 1, 1) := by decide +kernel
theorem dX10_set_77 : decode cX10_set 77 = .ok (.iload_n 2, 1) := by decide +kernel
theorem dX10_set_78 : decode cX10_set 78 = .ok (.invokevirtual 51, 3) := by decide +kernel
theorem dX10_set_81 : decode cX10_set 81 = .ok (.goto 5, 3) := by decide +kernel
theorem dX10_set_84 : decode cX10_set 84 = .ok (.ldc 40, 2) := by decide +kernel
theorem dX10_set_86 : decode cX10_set 86 = .ok (.ireturn, 1) := by decide +kernel
theorem dX10_about_0 : decode cX10_about 0 = .ok (.iload_n 1, 1) := by decide +kernel
theorem dX10_about_1 : decode cX10_about 1 = .ok (.iconst 0, 1) := by decide +kernel
theorem dX10_about_2 : decode cX10_about 2 = .ok (.bipush 9, 2) := by decide +kernel
theorem dX10_about_4 : decode cX10_about 4 = .ok (.invokestatic 35, 3) := by decide +kernel
theorem dX10_about_7 : decode cX10_about 7 = .ok (.ifCond .eq 12, 3) := by decide +kernel
theorem dX10_about_10 : decode cX10_about 10 = .ok (.aload_n 0, 1) := by decide +kernel
theorem dX10_about_11 : decode cX10_about 11 = .ok (.getfield 7, 3) := by decide +kernel
theorem dX10_about_14 : decode cX10_about 14 = .ok (.iload_n 1, 1) := by decide +kernel
theorem dX10_about_15 : decode cX10_about 15 = .ok (.iaload, 1) := by decide +kernel
theorem dX10_about_16 : decode cX10_about 16 = .ok (.goto 5, 3) := by decide +kernel
theorem dX10_about_19 : decode cX10_about 19 = .ok (.ldc 40, 2) := by decide +kernel
theorem dX10_about_21 : decode cX10_about 21 = .ok (.ireturn, 1) := by decide +kernel
theorem dX10_mix_0 : decode cX10_mix 0 = .ok (.iload_n 1, 1) := by decide +kernel
theorem dX10_mix_1 : decode cX10_mix 1 = .ok (.invokestatic 61, 3) := by decide +kernel
theorem dX10_mix_4 : decode cX10_mix 4 = .ok (.ireturn, 1) := by decide +kernel
theorem dX10_lives_0 : decode cX10_lives 0 = .ok (.aload_n 0, 1) := by decide +kernel
theorem dX10_lives_1 : decode cX10_lives 1 = .ok (.getfield 7, 3) := by decide +kernel
theorem dX10_lives_4 : decode cX10_lives 4 = .ok (.iload_n 1, 1) := by decide +kernel
theorem dX10_lives_5 : decode cX10_lives 5 = .ok (.iconst 2, 1) := by decide +kernel
theorem dX10_lives_6 : decode cX10_lives 6 = .ok (.invokestatic 42, 3) := by decide +kernel
theorem dX10_lives_9 : decode cX10_lives 9 = .ok (.iaload, 1) := by decide +kernel
theorem dX10_lives_10 : decode cX10_lives 10 = .ok (.iconst 1, 1) := by decide +kernel
theorem dX10_lives_11 : decode cX10_lives 11 = .ok (.if_icmp .ne 7, 3) := by decide +kernel
theorem dX10_lives_14 : decode cX10_lives 14 = .ok (.iconst 1, 1) := by decide +kernel
theorem dX10_lives_15 : decode cX10_lives 15 = .ok (.goto 4, 3) := by decide +kernel
theorem dX10_lives_18 : decode cX10_lives 18 = .ok (.iconst 0, 1) := by decide +kernel
theorem dX10_lives_19 : decode cX10_lives 19 = .ok (.ireturn, 1) := by decide +kernel
theorem dX10_commit_0 : decode cX10_commit 0 = .ok (.aload_n 0, 1) := by decide +kernel
theorem dX10_commit_1 : decode cX10_commit 1 = .ok (.iload_n 1, 1) := by decide +kernel
theorem dX10_commit_2 : decode cX10_commit 2 = .ok (.invokevirtual 47, 3) := by decide +kernel
theorem dX10_commit_5 : decode cX10_commit 5 = .ok (.ifCond .ne 6, 3) := by decide +kernel
theorem dX10_commit_8 : decode cX10_commit 8 = .ok (.ldc 40, 2) := by decide +kernel
theorem dX10_commit_10 : decode cX10_commit 10 = .ok (.ireturn, 1) := by decide +kernel
theorem dX10_commit_11 : decode cX10_commit 11 = .ok (.aload_n 0, 1) := by decide +kernel
theorem dX10_commit_12 : decode cX10_commit 12 = .ok (.iload_n 1, 1) := by decide +kernel
theorem dX10_commit_13 : decode cX10_commit 13 = .ok (.invokevirtual 65, 3) := by decide +kernel
theorem dX10_commit_16 : decode cX10_commit 16 = .ok (.ifCond .ne 6, 3) := by decide +kernel
theorem dX10_commit_19 : decode cX10_commit 19 = .ok (.ldc 68, 2) := by decide +kernel
theorem dX10_commit_21 : decode cX10_commit 21 = .ok (.ireturn, 1) := by decide +kernel
theorem dX10_commit_22 : decode cX10_commit 22 = .ok (.aload_n 0, 1) := by decide +kernel
theorem dX10_commit_23 : decode cX10_commit 23 = .ok (.invokevirtual 32, 3) := by decide +kernel
theorem dX10_commit_26 : decode cX10_commit 26 = .ok (.aload_n 0, 1) := by decide +kernel
theorem dX10_commit_27 : decode cX10_commit 27 = .ok (.getfield 7, 3) := by decide +kernel
theorem dX10_commit_30 : decode cX10_commit 30 = .ok (.iload_n 1, 1) := by decide +kernel
theorem dX10_commit_31 : decode cX10_commit 31 = .ok (.bipush 8, 2) := by decide +kernel
theorem dX10_commit_33 : decode cX10_commit 33 = .ok (.invokestatic 42, 3) := by decide +kernel
theorem dX10_commit_36 : decode cX10_commit 36 = .ok (.iaload, 1) := by decide +kernel
theorem dX10_commit_37 : decode cX10_commit 37 = .ok (.istore_n 3, 1) := by decide +kernel
theorem dX10_commit_38 : decode cX10_commit 38 = .ok (.aload_n 0, 1) := by decide +kernel
theorem dX10_commit_39 : decode cX10_commit 39 = .ok (.getfield 7, 3) := by decide +kernel
theorem dX10_commit_42 : decode cX10_commit 42 = .ok (.iload_n 1, 1) := by decide +kernel
theorem dX10_commit_43 : decode cX10_commit 43 = .ok (.bipush 8, 2) := by decide +kernel
theorem dX10_commit_45 : decode cX10_commit 45 = .ok (.invokestatic 42, 3) := by decide +kernel
theorem dX10_commit_48 : decode cX10_commit 48 = .ok (.iconst 1, 1) := by decide +kernel
theorem dX10_commit_49 : decode cX10_commit 49 = .ok (.iastore, 1) := by decide +kernel
theorem dX10_commit_50 : decode cX10_commit 50 = .ok (.aload_n 0, 1) := by decide +kernel
theorem dX10_commit_51 : decode cX10_commit 51 = .ok (.getfield 7, 3) := by decide +kernel
theorem dX10_commit_54 : decode cX10_commit 54 = .ok (.iload_n 1, 1) := by decide +kernel
theorem dX10_commit_55 : decode cX10_commit 55 = .ok (.bipush 9, 2) := by decide +kernel
theorem dX10_commit_57 : decode cX10_commit 57 = .ok (.invokestatic 42, 3) := by decide +kernel
theorem dX10_commit_60 : decode cX10_commit 60 = .ok (.iload_n 2, 1) := by decide +kernel
theorem dX10_commit_61 : decode cX10_commit 61 = .ok (.iastore, 1) := by decide +kernel
theorem dX10_commit_62 : decode cX10_commit 62 = .ok (.iload_n 3, 1) := by decide +kernel
theorem dX10_commit_63 : decode cX10_commit 63 = .ok (.ifCond .ne 7, 3) := by decide +kernel
theorem dX10_commit_66 : decode cX10_commit 66 = .ok (.iconst 0, 1) := by decide +kernel
theorem dX10_commit_67 : decode cX10_commit 67 = .ok (.goto 4, 3) := by decide +kernel
theorem dX10_commit_70 : decode cX10_commit 70 = .ok (.iconst 1, 1) := by decide +kernel
theorem dX10_commit_71 : decode cX10_commit 71 = .ok (.ireturn, 1) := by decide +kernel
theorem dX10_reveal_0 : decode cX10_reveal 0 = .ok (.aload_n 0, 1) := by decide +kernel
end
section
theorem dX10_reveal_1 : decode cX10_reveal 1 = .ok (.iload_n 1, 1) := by decide +kernel
theorem dX10_reveal_2 : decode cX10_reveal 2 = .ok (.invokevirtual 47, 3) := by decide +kernel
theorem dX10_reveal_5 : decode cX10_reveal 5 = .ok (.ifCond .ne 6, 3) := by decide +kernel
theorem dX10_reveal_8 : decode cX10_reveal 8 = .ok (.ldc 40, 2) := by decide +kernel
theorem dX10_reveal_10 : decode cX10_reveal 10 = .ok (.ireturn, 1) := by decide +kernel
theorem dX10_reveal_11 : decode cX10_reveal 11 = .ok (.aload_n 0, 1) := by decide +kernel
theorem dX10_reveal_12 : decode cX10_reveal 12 = .ok (.iload_n 1, 1) := by decide +kernel
theorem dX10_reveal_13 : decode cX10_reveal 13 = .ok (.invokevirtual 65, 3) := by decide +kernel
theorem dX10_reveal_16 : decode cX10_reveal 16 = .ok (.ifCond .eq 17, 3) := by decide +kernel
theorem dX10_reveal_19 : decode cX10_reveal 19 = .ok (.aload_n 0, 1) := by decide +kernel
theorem dX10_reveal_20 : decode cX10_reveal 20 = .ok (.getfield 7, 3) := by decide +kernel
theorem dX10_reveal_23 : decode cX10_reveal 23 = .ok (.iload_n 1, 1) := by decide +kernel
theorem dX10_reveal_24 : decode cX10_reveal 24 = .ok (.bipush 8, 2) := by decide +kernel
theorem dX10_reveal_26 : decode cX10_reveal 26 = .ok (.invokestatic 42, 3) := by decide +kernel
theorem dX10_reveal_29 : decode cX10_reveal 29 = .ok (.iaload, 1) := by decide +kernel
theorem dX10_reveal_30 : decode cX10_reveal 30 = .ok (.ifCond .ne 6, 3) := by decide +kernel
theorem dX10_reveal_33 : decode cX10_reveal 33 = .ok (.ldc 68, 2) := by decide +kernel
theorem dX10_reveal_35 : decode cX10_reveal 35 = .ok (.ireturn, 1) := by decide +kernel
theorem dX10_reveal_36 : decode cX10_reveal 36 = .ok (.aload_n 0, 1) := by decide +kernel
theorem dX10_reveal_37 : decode cX10_reveal 37 = .ok (.invokevirtual 32, 3) := by decide +kernel
theorem dX10_reveal_40 : decode cX10_reveal 40 = .ok (.iload_n 2, 1) := by decide +kernel
theorem dX10_reveal_41 : decode cX10_reveal 41 = .ok (.invokestatic 61, 3) := by decide +kernel
theorem dX10_reveal_44 : decode cX10_reveal 44 = .ok (.aload_n 0, 1) := by decide +kernel
theorem dX10_reveal_45 : decode cX10_reveal 45 = .ok (.getfield 7, 3) := by decide +kernel
theorem dX10_reveal_48 : decode cX10_reveal 48 = .ok (.iload_n 1, 1) := by decide +kernel
theorem dX10_reveal_49 : decode cX10_reveal 49 = .ok (.bipush 9, 2) := by decide +kernel
theorem dX10_reveal_51 : decode cX10_reveal 51 = .ok (.invokestatic 42, 3) := by decide +kernel
theorem dX10_reveal_54 : decode cX10_reveal 54 = .ok (.iaload, 1) := by decide +kernel
theorem dX10_reveal_55 : decode cX10_reveal 55 = .ok (.if_icmp .ne 7, 3) := by decide +kernel
theorem dX10_reveal_58 : decode cX10_reveal 58 = .ok (.iconst 1, 1) := by decide +kernel
theorem dX10_reveal_59 : decode cX10_reveal 59 = .ok (.goto 4, 3) := by decide +kernel
theorem dX10_reveal_62 : decode cX10_reveal 62 = .ok (.iconst 0, 1) := by decide +kernel
theorem dX10_reveal_63 : decode cX10_reveal 63 = .ok (.istore_n 3, 1) := by decide +kernel
theorem dX10_reveal_64 : decode cX10_reveal 64 = .ok (.aload_n 0, 1) := by decide +kernel
theorem dX10_reveal_65 : decode cX10_reveal 65 = .ok (.getfield 7, 3) := by decide +kernel
theorem dX10_reveal_68 : decode cX10_reveal 68 = .ok (.iload_n 1, 1) := by decide +kernel
theorem dX10_reveal_69 : decode cX10_reveal 69 = .ok (.bipush 8, 2) := by decide +kernel
theorem dX10_reveal_71 : decode cX10_reveal 71 = .ok (.invokestatic 42, 3) := by decide +kernel
theorem dX10_reveal_74 : decode cX10_reveal 74 = .ok (.iload_n 3, 1) := by decide +kernel
theorem dX10_reveal_75 : decode cX10_reveal 75 = .ok (.ifCond .eq 7, 3) := by decide +kernel
theorem dX10_reveal_78 : decode cX10_reveal 78 = .ok (.iconst 2, 1) := by decide +kernel
theorem dX10_reveal_79 : decode cX10_reveal 79 = .ok (.goto 4, 3) := by decide +kernel
theorem dX10_reveal_82 : decode cX10_reveal 82 = .ok (.iconst 3, 1) := by decide +kernel
theorem dX10_reveal_83 : decode cX10_reveal 83 = .ok (.iastore, 1) := by decide +kernel
theorem dX10_reveal_84 : decode cX10_reveal 84 = .ok (.aload_n 0, 1) := by decide +kernel
theorem dX10_reveal_85 : decode cX10_reveal 85 = .ok (.getfield 7, 3) := by decide +kernel
theorem dX10_reveal_88 : decode cX10_reveal 88 = .ok (.iload_n 1, 1) := by decide +kernel
theorem dX10_reveal_89 : decode cX10_reveal 89 = .ok (.bipush 10, 2) := by decide +kernel
theorem dX10_reveal_91 : decode cX10_reveal 91 = .ok (.invokestatic 42, 3) := by decide +kernel
theorem dX10_reveal_94 : decode cX10_reveal 94 = .ok (.iload_n 2, 1) := by decide +kernel
theorem dX10_reveal_95 : decode cX10_reveal 95 = .ok (.iastore, 1) := by decide +kernel
theorem dX10_reveal_96 : decode cX10_reveal 96 = .ok (.iload_n 3, 1) := by decide +kernel
theorem dX10_reveal_97 : decode cX10_reveal 97 = .ok (.ifCond .eq 7, 3) := by decide +kernel
theorem dX10_reveal_100 : decode cX10_reveal 100 = .ok (.iconst 1, 1) := by decide +kernel
theorem dX10_reveal_101 : decode cX10_reveal 101 = .ok (.goto 4, 3) := by decide +kernel
theorem dX10_reveal_104 : decode cX10_reveal 104 = .ok (.iconst 0, 1) := by decide +kernel
theorem dX10_reveal_105 : decode cX10_reveal 105 = .ok (.ireturn, 1) := by decide +kernel
theorem dX10_seeds_0 : decode cX10_seeds 0 = .ok (.iconst 0, 1) := by decide +kernel
theorem dX10_seeds_1 : decode cX10_seeds 1 = .ok (.istore_n 2, 1) := by decide +kernel
theorem dX10_seeds_2 : decode cX10_seeds 2 = .ok (.aload_n 0, 1) := by decide +kernel
theorem dX10_seeds_3 : decode cX10_seeds 3 = .ok (.aload_n 0, 1) := by decide +kernel
theorem dX10_seeds_4 : decode cX10_seeds 4 = .ok (.getfield 7, 3) := by decide +kernel
theorem dX10_seeds_7 : decode cX10_seeds 7 = .ok (.bipush 6, 2) := by decide +kernel
theorem dX10_seeds_9 : decode cX10_seeds 9 = .ok (.iaload, 1) := by decide +kernel
theorem dX10_seeds_10 : decode cX10_seeds 10 = .ok (.iconst 1, 1) := by decide +kernel
theorem dX10_seeds_11 : decode cX10_seeds 11 = .ok (.iadd, 1) := by decide +kernel
theorem dX10_seeds_12 : decode cX10_seeds 12 = .ok (.putfield 69, 3) := by decide +kernel
theorem dX10_seeds_15 : decode cX10_seeds 15 = .ok (.iconst 0, 1) := by decide +kernel
theorem dX10_seeds_16 : decode cX10_seeds 16 = .ok (.istore_n 3, 1) := by decide +kernel
theorem dX10_seeds_17 : decode cX10_seeds 17 = .ok (.iload_n 3, 1) := by decide +kernel
theorem dX10_seeds_18 : decode cX10_seeds 18 = .ok (.aload_n 0, 1) := by decide +kernel
theorem dX10_seeds_19 : decode cX10_seeds 19 = .ok (.getfield 7, 3) := by decide +kernel
theorem dX10_seeds_22 : decode cX10_seeds 22 = .ok (.iconst 5, 1) := by decide +kernel
theorem dX10_seeds_23 : decode cX10_seeds 23 = .ok (.iaload, 1) := by decide +kernel
theorem dX10_seeds_24 : decode cX10_seeds 24 = .ok (.if_icmp .ge 58, 3) := by decide +kernel
theorem dX10_seeds_27 : decode cX10_seeds 27 = .ok (.aload_n 0, 1) := by decide +kernel
theorem dX10_seeds_28 : decode cX10_seeds 28 = .ok (.getfield 7, 3) := by decide +kernel
theorem dX10_seeds_31 : decode cX10_seeds 31 = .ok (.iload_n 3, 1) := by decide +kernel
theorem dX10_seeds_32 : decode cX10_seeds 32 = .ok (.bipush 8, 2) := by decide +kernel
theorem dX10_seeds_34 : decode cX10_seeds 34 = .ok (.invokestatic 42, 3) := by decide +kernel
theorem dX10_seeds_37 : decode cX10_seeds 37 = .ok (.iaload, 1) := by decide +kernel
theorem dX10_seeds_38 : decode cX10_seeds 38 = .ok (.iconst 2, 1) := by decide +kernel
theorem dX10_seeds_39 : decode cX10_seeds 39 = .ok (.if_icmp .ne 37, 3) := by decide +kernel
theorem dX10_seeds_42 : decode cX10_seeds 42 = .ok (.iload_n 1, 1) := by decide +kernel
theorem dX10_seeds_43 : decode cX10_seeds 43 = .ok (.iload_n 3, 1) := by decide +kernel
theorem dX10_seeds_44 : decode cX10_seeds 44 = .ok (.ishr, 1) := by decide +kernel
theorem dX10_seeds_45 : decode cX10_seeds 45 = .ok (.iconst 1, 1) := by decide +kernel
theorem dX10_seeds_46 : decode cX10_seeds 46 = .ok (.iand, 1) := by decide +kernel
theorem dX10_seeds_47 : decode cX10_seeds 47 = .ok (.ifCond .ne 29, 3) := by decide +kernel
theorem dX10_seeds_50 : decode cX10_seeds 50 = .ok (.aload_n 0, 1) := by decide +kernel
theorem dX10_seeds_51 : decode cX10_seeds 51 = .ok (.aload_n 0, 1) := by decide +kernel
theorem dX10_seeds_52 : decode cX10_seeds 52 = .ok (.getfield 69, 3) := by decide +kernel
theorem dX10_seeds_55 : decode cX10_seeds 55 = .ok (.aload_n 0, 1) := by decide +kernel
theorem dX10_seeds_56 : decode cX10_seeds 56 = .ok (.getfield 7, 3) := by decide +kernel
theorem dX10_seeds_59 : decode cX10_seeds 59 = .ok (.iload_n 3, 1) := by decide +kernel
theorem dX10_seeds_60 : decode cX10_seeds 60 = .ok (.bipush 10, 2) := by decide +kernel
theorem dX10_seeds_62 : decode cX10_seeds 62 = .ok (.invokestatic 42, 3) := by decide +kernel
theorem dX10_seeds_65 : decode cX10_seeds 65 = .ok (.iaload, 1) := by decide +kernel
theorem dX10_seeds_66 : decode cX10_seeds 66 = .ok (.ixor, 1) := by decide +kernel
theorem dX10_seeds_67 : decode cX10_seeds 67 = .ok (.invokestatic 61, 3) := by decide +kernel
theorem dX10_seeds_70 : decode cX10_seeds 70 = .ok (.putfield 69, 3) := by decide +kernel
theorem dX10_seeds_73 : decode cX10_seeds 73 = .ok (.iinc 2 1, 3) := by decide +kernel
theorem dX10_seeds_76 : decode cX10_seeds 76 = .ok (.iinc 3 1, 3) := by decide +kernel
theorem dX10_seeds_79 : decode cX10_seeds 79 = .ok (.goto (-62), 3) := by decide +kernel
theorem dX10_seeds_82 : decode cX10_seeds 82 = .ok (.iload_n 2, 1) := by decide +kernel
theorem dX10_seeds_83 : decode cX10_seeds 83 = .ok (.ireturn, 1) := by decide +kernel
theorem dX10_lot_0 : decode cX10_lot 0 = .ok (.aload_n 0, 1) := by decide +kernel
theorem dX10_lot_1 : decode cX10_lot 1 = .ok (.aload_n 0, 1) := by decide +kernel
theorem dX10_lot_2 : decode cX10_lot 2 = .ok (.getfield 72, 3) := by decide +kernel
theorem dX10_lot_5 : decode cX10_lot 5 = .ok (.invokestatic 61, 3) := by decide +kernel
theorem dX10_lot_8 : decode cX10_lot 8 = .ok (.putfield 72, 3) := by decide +kernel
theorem dX10_lot_11 : decode cX10_lot 11 = .ok (.aload_n 0, 1) := by decide +kernel
theorem dX10_lot_12 : decode cX10_lot 12 = .ok (.getfield 72, 3) := by decide +kernel
theorem dX10_lot_15 : decode cX10_lot 15 = .ok (.bipush 16, 2) := by decide +kernel
theorem dX10_lot_17 : decode cX10_lot 17 = .ok (.iushr, 1) := by decide +kernel
theorem dX10_lot_18 : decode cX10_lot 18 = .ok (.iload_n 1, 1) := by decide +kernel
theorem dX10_lot_19 : decode cX10_lot 19 = .ok (.irem, 1) := by decide +kernel
theorem dX10_lot_20 : decode cX10_lot 20 = .ok (.ireturn, 1) := by decide +kernel
theorem dX10_lists_0 : decode cX10_lists 0 = .ok (.aload_n 0, 1) := by decide +kernel
theorem dX10_lists_1 : decode cX10_lists 1 = .ok (.iload_n 1, 1) := by decide +kernel
theorem dX10_lists_2 : decode cX10_lists 2 = .ok (.putfield 72, 3) := by decide +kernel
theorem dX10_lists_5 : decode cX10_lists 5 = .ok (.iconst 0, 1) := by decide +kernel
theorem dX10_lists_6 : decode cX10_lists 6 = .ok (.istore_n 2, 1) := by decide +kernel
theorem dX10_lists_7 : decode cX10_lists 7 = .ok (.iconst 0, 1) := by decide +kernel
theorem dX10_lists_8 : decode cX10_lists 8 = .ok (.istore_n 3, 1) := by decide +kernel
theorem dX10_lists_9 : decode cX10_lists 9 = .ok (.iload_n 3, 1) := by decide +kernel
theorem dX10_lists_10 : decode cX10_lists 10 = .ok (.aload_n 0, 1) := by decide +kernel
theorem dX10_lists_11 : decode cX10_lists 11 = .ok (.getfield 7, 3) := by decide +kernel
theorem dX10_lists_14 : decode cX10_lists 14 = .ok (.iconst 5, 1) := by decide +kernel
theorem dX10_lists_15 : decode cX10_lists 15 = .ok (.iaload, 1) := by decide +kernel
theorem dX10_lists_16 : decode cX10_lists 16 = .ok (.if_icmp .ge 163, 3) := by decide +kernel
theorem dX10_lists_19 : decode cX10_lists 19 = .ok (.iconst 0, 1) := by decide +kernel
theorem dX10_lists_20 : decode cX10_lists 20 = .ok (.istore 4, 2) := by decide +kernel
theorem dX10_lists_22 : decode cX10_lists 22 = .ok (.iconst 0, 1) := by decide +kernel
theorem dX10_lists_23 : decode cX10_lists 23 = .ok (.istore 5, 2) := by decide +kernel
theorem dX10_lists_25 : decode cX10_lists 25 = .ok (.iload 5, 2) := by decide +kernel
theorem dX10_lists_27 : decode cX10_lists 27 = .ok (.aload_n 0, 1) := by decide +kernel
theorem dX10_lists_28 : decode cX10_lists 28 = .ok (.getfield 7, 3) := by decide +kernel
theorem dX10_lists_31 : decode cX10_lists 31 = .ok (.iconst 5, 1) := by decide +kernel
theorem dX10_lists_32 : decode cX10_lists 32 = .ok (.iaload, 1) := by decide +kernel
theorem dX10_lists_33 : decode cX10_lists 33 = .ok (.if_icmp .ge 38, 3) := by decide +kernel
theorem dX10_lists_36 : decode cX10_lists 36 = .ok (.iload 4, 2) := by decide +kernel
theorem dX10_lists_38 : decode cX10_lists 38 = .ok (.iload_n 2, 1) := by decide +kernel
theorem dX10_lists_39 : decode cX10_lists 39 = .ok (.iload 5, 2) := by decide +kernel
theorem dX10_lists_41 : decode cX10_lists 41 = .ok (.ishr, 1) := by decide +kernel
theorem dX10_lists_42 : decode cX10_lists 42 = .ok (.iconst 1, 1) := by decide +kernel
theorem dX10_lists_43 : decode cX10_lists 43 = .ok (.iand, 1) := by decide +kernel
theorem dX10_lists_44 : decode cX10_lists 44 = .ok (.ifCond .ne 17, 3) := by decide +kernel
theorem dX10_lists_47 : decode cX10_lists 47 = .ok (.aload_n 0, 1) := by decide +kernel
theorem dX10_lists_48 : decode cX10_lists 48 = .ok (.getfield 7, 3) := by decide +kernel
theorem dX10_lists_51 : decode cX10_lists 51 = .ok (.iload 5, 2) := by decide +kernel
theorem dX10_lists_53 : decode cX10_lists 53 = .ok (.iconst 0, 1) := by decide +kernel
theorem dX10_lists_54 : decode cX10_lists 54 = .ok (.invokestatic 42, 3) := by decide +kernel
theorem dX10_lists_57 : decode cX10_lists 57 = .ok (.iaload, 1) := by decide +kernel
theorem dX10_lists_58 : decode cX10_lists 58 = .ok (.goto 4, 3) := by decide +kernel
theorem dX10_lists_61 : decode cX10_lists 61 = .ok (.iconst 0, 1) := by decide +kernel
theorem dX10_lists_62 : decode cX10_lists 62 = .ok (.iadd, 1) := by decide +kernel
theorem dX10_lists_63 : decode cX10_lists 63 = .ok (.istore 4, 2) := by decide +kernel
theorem dX10_lists_65 : decode cX10_lists 65 = .ok (.iinc 5 1, 3) := by decide +kernel
theorem dX10_lists_68 : decode cX10_lists 68 = .ok (.goto (-43), 3) := by decide +kernel
theorem dX10_lists_71 : decode cX10_lists 71 = .ok (.aload_n 0, 1) := by decide +kernel
theorem dX10_lists_72 : decode cX10_lists 72 = .ok (.iload 4, 2) := by decide +kernel
theorem dX10_lists_74 : decode cX10_lists 74 = .ok (.invokevirtual 75, 3) := by decide +kernel
theorem dX10_lists_77 : decode cX10_lists 77 = .ok (.istore 5, 2) := by decide +kernel
theorem dX10_lists_79 : decode cX10_lists 79 = .ok (.ldc 46, 2) := by decide +kernel
theorem dX10_lists_81 : decode cX10_lists 81 = .ok (.istore 6, 2) := by decide +kernel
theorem dX10_lists_83 : decode cX10_lists 83 = .ok (.iconst 0, 1) := by decide +kernel
theorem dX10_lists_84 : decode cX10_lists 84 = .ok (.istore 7, 2) := by decide +kernel
theorem dX10_lists_86 : decode cX10_lists 86 = .ok (.iload 7, 2) := by decide +kernel
theorem dX10_lists_88 : decode cX10_lists 88 = .ok (.aload_n 0, 1) := by decide +kernel
theorem dX10_lists_89 : decode cX10_lists 89 = .ok (.getfield 7, 3) := by decide +kernel
theorem dX10_lists_92 : decode cX10_lists 92 = .ok (.iconst 5, 1) := by decide +kernel
theorem dX10_lists_93 : decode cX10_lists 93 = .ok (.iaload, 1) := by decide +kernel
theorem dX10_lists_94 : decode cX10_lists 94 = .ok (.if_icmp .ge 64, 3) := by decide +kernel
theorem dX10_lists_97 : decode cX10_lists 97 = .ok (.iload_n 2, 1) := by decide +kernel
theorem dX10_lists_98 : decode cX10_lists 98 = .ok (.iload 7, 2) := by decide +kernel
theorem dX10_lists_100 : decode cX10_lists 100 = .ok (.ishr, 1) := by decide +kernel
theorem dX10_lists_101 : decode cX10_lists 101 = .ok (.iconst 1, 1) := by decide +kernel
theorem dX10_lists_102 : decode cX10_lists 102 = .ok (.iand, 1) := by decide +kernel
theorem dX10_lists_103 : decode cX10_lists 103 = .ok (.ifCond .ne 49, 3) := by decide +kernel
theorem dX10_lists_106 : decode cX10_lists 106 = .ok (.iload 6, 2) := by decide +kernel
theorem dX10_lists_108 : decode cX10_lists 108 = .ok (.ifCond .ge 24, 3) := by decide +kernel
theorem dX10_lists_111 : decode cX10_lists 111 = .ok (.iload 5, 2) := by decide +kernel
theorem dX10_lists_113 : decode cX10_lists 113 = .ok (.aload_n 0, 1) := by decide +kernel
theorem dX10_lists_114 : decode cX10_lists 114 = .ok (.getfield 7, 3) := by decide +kernel
theorem dX10_lists_117 : decode cX10_lists 117 = .ok (.iload 7, 2) := by decide +kernel
theorem dX10_lists_119 : decode cX10_lists 119 = .ok (.iconst 0, 1) := by decide +kernel
theorem dX10_lists_120 : decode cX10_lists 120 = .ok (.invokestatic 42, 3) := by decide +kernel
theorem dX10_lists_123 : decode cX10_lists 123 = .ok (.iaload, 1) := by decide +kernel
theorem dX10_lists_124 : decode cX10_lists 124 = .ok (.if_icmp .ge 8, 3) := by decide +kernel
theorem dX10_lists_127 : decode cX10_lists 127 = .ok (.iload 7, 2) := by decide +kernel
theorem dX10_lists_129 : decode cX10_lists 129 = .ok (.goto 5, 3) := by decide +kernel
theorem dX10_lists_132 : decode cX10_lists 132 = .ok (.iload 6, 2) := by decide +kernel
theorem dX10_lists_134 : decode cX10_lists 134 = .ok (.istore 6, 2) := by decide +kernel
theorem dX10_lists_136 : decode cX10_lists 136 = .ok (.iload 5, 2) := by decide +kernel
theorem dX10_lists_138 : decode cX10_lists 138 = .ok (.aload_n 0, 1) := by decide +kernel
theorem dX10_lists_139 : decode cX10_lists 139 = .ok (.getfield 7, 3) := by decide +kernel
theorem dX10_lists_142 : decode cX10_lists 142 = .ok (.iload 7, 2) := by decide +kernel
theorem dX10_lists_144 : decode cX10_lists 144 = .ok (.iconst 0, 1) := by decide +kernel
theorem dX10_lists_145 : decode cX10_lists 145 = .ok (.invokestatic 42, 3) := by decide +kernel
theorem dX10_lists_148 : decode cX10_lists 148 = .ok (.iaload, 1) := by decide +kernel
theorem dX10_lists_149 : decode cX10_lists 149 = .ok (.isub, 1) := by decide +kernel
theorem dX10_lists_150 : decode cX10_lists 150 = .ok (.istore 5, 2) := by decide +kernel
theorem dX10_lists_152 : decode cX10_lists 152 = .ok (.iinc 7 1, 3) := by decide +kernel
theorem dX10_lists_155 : decode cX10_lists 155 = .ok (.goto (-69), 3) := by decide +kernel
theorem dX10_lists_158 : decode cX10_lists 158 = .ok (.aload_n 0, 1) := by decide +kernel
theorem dX10_lists_159 : decode cX10_lists 159 = .ok (.getfield 16, 3) := by decide +kernel
theorem dX10_lists_162 : decode cX10_lists 162 = .ok (.iload_n 3, 1) := by decide +kernel
theorem dX10_lists_163 : decode cX10_lists 163 = .ok (.iload 6, 2) := by decide +kernel
theorem dX10_lists_165 : decode cX10_lists 165 = .ok (.iastore, 1) := by decide +kernel
theorem dX10_lists_166 : decode cX10_lists 166 = .ok (.iload_n 2, 1) := by decide +kernel
theorem dX10_lists_167 : decode cX10_lists 167 = .ok (.iconst 1, 1) := by decide +kernel
theorem dX10_lists_168 : decode cX10_lists 168 = .ok (.iload 6, 2) := by decide +kernel
theorem dX10_lists_170 : decode cX10_lists 170 = .ok (.ishl, 1) := by decide +kernel
theorem dX10_lists_171 : decode cX10_lists 171 = .ok (.ior, 1) := by decide +kernel
theorem dX10_lists_172 : decode cX10_lists 172 = .ok (.istore_n 2, 1) := by decide +kernel
theorem dX10_lists_173 : decode cX10_lists 173 = .ok (.iinc 3 1, 3) := by decide +kernel
theorem dX10_lists_176 : decode cX10_lists 176 = .ok (.goto (-167), 3) := by decide +kernel
theorem dX10_lists_179 : decode cX10_lists 179 = .ok (.return_, 1) := by decide +kernel
theorem dX10_draw_0 : decode cX10_draw 0 = .ok (.aload_n 0, 1) := by decide +kernel
theorem dX10_draw_1 : decode cX10_draw 1 = .ok (.iconst 0, 1) := by decide +kernel
theorem dX10_draw_2 : decode cX10_draw 2 = .ok (.invokevirtual 78, 3) := by decide +kernel
theorem dX10_draw_5 : decode cX10_draw 5 = .ok (.aload_n 0, 1) := by decide +kernel
theorem dX10_draw_6 : decode cX10_draw 6 = .ok (.getfield 7, 3) := by decide +kernel
theorem dX10_draw_9 : decode cX10_draw 9 = .ok (.iconst 2, 1) := by decide +kernel
theorem dX10_draw_10 : decode cX10_draw 10 = .ok (.iaload, 1) := by decide +kernel
theorem dX10_draw_11 : decode cX10_draw 11 = .ok (.if_icmp .ge 6, 3) := by decide +kernel
theorem dX10_draw_14 : decode cX10_draw 14 = .ok (.ldc 68, 2) := by decide +kernel
theorem dX10_draw_16 : decode cX10_draw 16 = .ok (.ireturn, 1) := by decide +kernel
theorem dX10_draw_17 : decode cX10_draw 17 = .ok (.aload_n 0, 1) := by decide +kernel
theorem dX10_draw_18 : decode cX10_draw 18 = .ok (.invokevirtual 32, 3) := by decide +kernel
theorem dX10_draw_21 : decode cX10_draw 21 = .ok (.aload_n 0, 1) := by decide +kernel
theorem dX10_draw_22 : decode cX10_draw 22 = .ok (.getfield 7, 3) := by decide +kernel
theorem dX10_draw_25 : decode cX10_draw 25 = .ok (.bipush 6, 2) := by decide +kernel
theorem dX10_draw_27 : decode cX10_draw 27 = .ok (.dup2, 1) := by decide +kernel
theorem dX10_draw_28 : decode cX10_draw 28 = .ok (.iaload, 1) := by decide +kernel
theorem dX10_draw_29 : decode cX10_draw 29 = .ok (.iconst 1, 1) := by decide +kernel
theorem dX10_draw_30 : decode cX10_draw 30 = .ok (.iadd, 1) := by decide +kernel
theorem dX10_draw_31 : decode cX10_draw 31 = .ok (.iastore, 1) := by decide +kernel
theorem dX10_draw_32 : decode cX10_draw 32 = .ok (.aload_n 0, 1) := by decide +kernel
theorem dX10_draw_33 : decode cX10_draw 33 = .ok (.getfield 7, 3) := by decide +kernel
theorem dX10_draw_36 : decode cX10_draw 36 = .ok (.bipush 10, 2) := by decide +kernel
theorem dX10_draw_38 : decode cX10_draw 38 = .ok (.aload_n 0, 1) := by decide +kernel
theorem dX10_draw_39 : decode cX10_draw 39 = .ok (.getfield 69, 3) := by decide +kernel
theorem dX10_draw_42 : decode cX10_draw 42 = .ok (.iastore, 1) := by decide +kernel
theorem dX10_draw_43 : decode cX10_draw 43 = .ok (.aload_n 0, 1) := by decide +kernel
theorem dX10_draw_44 : decode cX10_draw 44 = .ok (.aload_n 0, 1) := by decide +kernel
theorem dX10_draw_45 : decode cX10_draw 45 = .ok (.getfield 69, 3) := by decide +kernel
theorem dX10_draw_48 : decode cX10_draw 48 = .ok (.invokevirtual 81, 3) := by decide +kernel
theorem dX10_draw_51 : decode cX10_draw 51 = .ok (.aload_n 0, 1) := by decide +kernel
theorem dX10_draw_52 : decode cX10_draw 52 = .ok (.getfield 7, 3) := by decide +kernel
theorem dX10_draw_55 : decode cX10_draw 55 = .ok (.bipush 11, 2) := by decide +kernel
theorem dX10_draw_57 : decode cX10_draw 57 = .ok (.aload_n 0, 1) := by decide +kernel
theorem dX10_draw_58 : decode cX10_draw 58 = .ok (.getfield 7, 3) := by decide +kernel
theorem dX10_draw_61 : decode cX10_draw 61 = .ok (.iconst 5, 1) := by decide +kernel
theorem dX10_draw_62 : decode cX10_draw 62 = .ok (.iaload, 1) := by decide +kernel
theorem dX10_draw_63 : decode cX10_draw 63 = .ok (.iastore, 1) := by decide +kernel
theorem dX10_draw_64 : decode cX10_draw 64 = .ok (.iconst 0, 1) := by decide +kernel
theorem dX10_draw_65 : decode cX10_draw 65 = .ok (.istore_n 1, 1) := by decide +kernel
theorem dX10_draw_66 : decode cX10_draw 66 = .ok (.iload_n 1, 1) := by decide +kernel
theorem dX10_draw_67 : decode cX10_draw 67 = .ok (.aload_n 0, 1) := by decide +kernel
theorem dX10_draw_68 : decode cX10_draw 68 = .ok (.getfield 7, 3) := by decide +kernel
theorem dX10_draw_71 : decode cX10_draw 71 = .ok (.iconst 5, 1) := by decide +kernel
theorem dX10_draw_72 : decode cX10_draw 72 = .ok (.iaload, 1) := by decide +kernel
theorem dX10_draw_73 : decode cX10_draw 73 = .ok (.if_icmp .ge 105, 3) := by decide +kernel
theorem dX10_draw_76 : decode cX10_draw 76 = .ok (.aload_n 0, 1) := by decide +kernel
theorem dX10_draw_77 : decode cX10_draw 77 = .ok (.getfield 7, 3) := by decide +kernel
theorem dX10_draw_80 : decode cX10_draw 80 = .ok (.bipush 12, 2) := by decide +kernel
theorem dX10_draw_82 : decode cX10_draw 82 = .ok (.iload_n 1, 1) := by decide +kernel
theorem dX10_draw_83 : decode cX10_draw 83 = .ok (.iadd, 1) := by decide +kernel
theorem dX10_draw_84 : decode cX10_draw 84 = .ok (.aload_n 0, 1) := by decide +kernel
theorem dX10_draw_85 : decode cX10_draw 85 = .ok (.getfield 16, 3) := by decide +kernel
theorem dX10_draw_88 : decode cX10_draw 88 = .ok (.iload_n 1, 1) := by decide +kernel
theorem dX10_draw_89 : decode cX10_draw 89 = .ok (.iaload, 1) := by decide +kernel
theorem dX10_draw_90 : decode cX10_draw 90 = .ok (.iastore, 1) := by decide +kernel
theorem dX10_draw_91 : decode cX10_draw 91 = .ok (.aload_n 0, 1) := by decide +kernel
theorem dX10_draw_92 : decode cX10_draw 92 = .ok (.getfield 7, 3) := by decide +kernel
theorem dX10_draw_95 : decode cX10_draw 95 = .ok (.aload_n 0, 1) := by decide +kernel
theorem dX10_draw_96 : decode cX10_draw 96 = .ok (.getfield 16, 3) := by decide +kernel
theorem dX10_draw_99 : decode cX10_draw 99 = .ok (.iload_n 1, 1) := by decide +kernel
theorem dX10_draw_100 : decode cX10_draw 100 = .ok (.iaload, 1) := by decide +kernel
theorem dX10_draw_101 : decode cX10_draw 101 = .ok (.iconst 4, 1) := by decide +kernel
theorem dX10_draw_102 : decode cX10_draw 102 = .ok (.invokestatic 42, 3) := by decide +kernel
theorem dX10_draw_105 : decode cX10_draw 105 = .ok (.iload_n 1, 1) := by decide +kernel
theorem dX10_draw_106 : decode cX10_draw 106 = .ok (.iastore, 1) := by decide +kernel
theorem dX10_draw_107 : decode cX10_draw 107 = .ok (.aload_n 0, 1) := by decide +kernel
theorem dX10_draw_108 : decode cX10_draw 108 = .ok (.getfield 7, 3) := by decide +kernel
theorem dX10_draw_111 : decode cX10_draw 111 = .ok (.iload_n 1, 1) := by decide +kernel
theorem dX10_draw_112 : decode cX10_draw 112 = .ok (.iconst 3, 1) := by decide +kernel
theorem dX10_draw_113 : decode cX10_draw 113 = .ok (.invokestatic 42, 3) := by decide +kernel
theorem dX10_draw_116 : decode cX10_draw 116 = .ok (.dup2, 1) := by decide +kernel
theorem dX10_draw_117 : decode cX10_draw 117 = .ok (.iaload, 1) := by decide +kernel
theorem dX10_draw_118 : decode cX10_draw 118 = .ok (.aload_n 0, 1) := by decide +kernel
theorem dX10_draw_119 : decode cX10_draw 119 = .ok (.getfield 7, 3) := by decide +kernel
theorem dX10_draw_122 : decode cX10_draw 122 = .ok (.iload_n 1, 1) := by decide +kernel
theorem dX10_draw_123 : decode cX10_draw 123 = .ok (.bipush 8, 2) := by decide +kernel
theorem dX10_draw_125 : decode cX10_draw 125 = .ok (.invokestatic 42, 3) := by decide +kernel
theorem dX10_draw_128 : decode cX10_draw 128 = .ok (.iaload, 1) := by decide +kernel
theorem dX10_draw_129 : decode cX10_draw 129 = .ok (.iconst 1, 1) := by decide +kernel
theorem dX10_draw_130 : decode cX10_draw 130 = .ok (.if_icmp .eq 18, 3) := by decide +kernel
theorem dX10_draw_133 : decode cX10_draw 133 = .ok (.aload_n 0, 1) := by decide +kernel
theorem dX10_draw_134 : decode cX10_draw 134 = .ok (.getfield 7, 3) := by decide +kernel
theorem dX10_draw_137 : decode cX10_draw 137 = .ok (.iload_n 1, 1) := by decide +kernel
theorem dX10_draw_138 : decode cX10_draw 138 = .ok (.bipush 8, 2) := by decide +kernel
theorem dX10_draw_140 : decode cX10_draw 140 = .ok (.invokestatic 42, 3) := by decide +kernel
theorem dX10_draw_143 : decode cX10_draw 143 = .ok (.iaload, 1) := by decide +kernel
theorem dX10_draw_144 : decode cX10_draw 144 = .ok (.iconst 3, 1) := by decide +kernel
theorem dX10_draw_145 : decode cX10_draw 145 = .ok (.if_icmp .ne 12, 3) := by decide +kernel
theorem dX10_draw_148 : decode cX10_draw 148 = .ok (.aload_n 0, 1) := by decide +kernel
theorem dX10_draw_149 : decode cX10_draw 149 = .ok (.getfield 7, 3) := by decide +kernel
theorem dX10_draw_152 : decode cX10_draw 152 = .ok (.iconst 4, 1) := by decide +kernel
theorem dX10_draw_153 : decode cX10_draw 153 = .ok (.iaload, 1) := by decide +kernel
theorem dX10_draw_154 : decode cX10_draw 154 = .ok (.goto 4, 3) := by decide +kernel
theorem dX10_draw_157 : decode cX10_draw 157 = .ok (.iconst 0, 1) := by decide +kernel
theorem dX10_draw_158 : decode cX10_draw 158 = .ok (.isub, 1) := by decide +kernel
theorem dX10_draw_159 : decode cX10_draw 159 = .ok (.iastore, 1) := by decide +kernel
theorem dX10_draw_160 : decode cX10_draw 160 = .ok (.aload_n 0, 1) := by decide +kernel
theorem dX10_draw_161 : decode cX10_draw 161 = .ok (.getfield 7, 3) := by decide +kernel
theorem dX10_draw_164 : decode cX10_draw 164 = .ok (.iload_n 1, 1) := by decide +kernel
theorem dX10_draw_165 : decode cX10_draw 165 = .ok (.bipush 8, 2) := by decide +kernel
theorem dX10_draw_167 : decode cX10_draw 167 = .ok (.invokestatic 42, 3) := by decide +kernel
theorem dX10_draw_170 : decode cX10_draw 170 = .ok (.iconst 0, 1) := by decide +kernel
theorem dX10_draw_171 : decode cX10_draw 171 = .ok (.iastore, 1) := by decide +kernel
theorem dX10_draw_172 : decode cX10_draw 172 = .ok (.iinc 1 1, 3) := by decide +kernel
theorem dX10_draw_175 : decode cX10_draw 175 = .ok (.goto (-109), 3) := by decide +kernel
theorem dX10_draw_178 : decode cX10_draw 178 = .ok (.aload_n 0, 1) := by decide +kernel
theorem dX10_draw_179 : decode cX10_draw 179 = .ok (.getfield 7, 3) := by decide +kernel
theorem dX10_draw_182 : decode cX10_draw 182 = .ok (.bipush 6, 2) := by decide +kernel
theorem dX10_draw_184 : decode cX10_draw 184 = .ok (.iaload, 1) := by decide +kernel
theorem dX10_draw_185 : decode cX10_draw 185 = .ok (.ireturn, 1) := by decide +kernel
theorem dX10_seed_0 : decode cX10_seed 0 = .ok (.aload_n 0, 1) := by decide +kernel
theorem dX10_seed_1 : decode cX10_seed 1 = .ok (.getfield 7, 3) := by decide +kernel
theorem dX10_seed_4 : decode cX10_seed 4 = .ok (.bipush 6, 2) := by decide +kernel
theorem dX10_seed_6 : decode cX10_seed 6 = .ok (.iaload, 1) := by decide +kernel
theorem dX10_seed_7 : decode cX10_seed 7 = .ok (.ifCond .ne 9, 3) := by decide +kernel
theorem dX10_seed_10 : decode cX10_seed 10 = .ok (.ldc2_w 85, 3) := by decide +kernel
theorem dX10_seed_13 : decode cX10_seed 13 = .ok (.goto 11, 3) := by decide +kernel
theorem dX10_seed_16 : decode cX10_seed 16 = .ok (.aload_n 0, 1) := by decide +kernel
theorem dX10_seed_17 : decode cX10_seed 17 = .ok (.getfield 7, 3) := by decide +kernel
theorem dX10_seed_20 : decode cX10_seed 20 = .ok (.bipush 10, 2) := by decide +kernel
theorem dX10_seed_22 : decode cX10_seed 22 = .ok (.iaload, 1) := by decide +kernel
theorem dX10_seed_23 : decode cX10_seed 23 = .ok (.i2l, 1) := by decide +kernel
theorem dX10_seed_24 : decode cX10_seed 24 = .ok (.lreturn, 1) := by decide +kernel
theorem dX10_duty_0 : decode cX10_duty 0 = .ok (.iload_n 1, 1) := by decide +kernel
theorem dX10_duty_1 : decode cX10_duty 1 = .ok (.ifCond .ge 8, 3) := by decide +kernel
theorem dX10_duty_4 : decode cX10_duty 4 = .ok (.ldc 40, 2) := by decide +kernel
theorem dX10_duty_6 : decode cX10_duty 6 = .ok (.goto 28, 3) := by decide +kernel
theorem dX10_duty_9 : decode cX10_duty 9 = .ok (.iload_n 1, 1) := by decide +kernel
theorem dX10_duty_10 : decode cX10_duty 10 = .ok (.aload_n 0, 1) := by decide +kernel
theorem dX10_duty_11 : decode cX10_duty 11 = .ok (.getfield 7, 3) := by decide +kernel
theorem dX10_duty_14 : decode cX10_duty 14 = .ok (.bipush 11, 2) := by decide +kernel
theorem dX10_duty_16 : decode cX10_duty 16 = .ok (.iaload, 1) := by decide +kernel
theorem dX10_duty_17 : decode cX10_duty 17 = .ok (.if_icmp .ge 15, 3) := by decide +kernel
theorem dX10_duty_20 : decode cX10_duty 20 = .ok (.aload_n 0, 1) := by decide +kernel
theorem dX10_duty_21 : decode cX10_duty 21 = .ok (.getfield 7, 3) := by decide +kernel
theorem dX10_duty_24 : decode cX10_duty 24 = .ok (.bipush 12, 2) := by decide +kernel
theorem dX10_duty_26 : decode cX10_duty 26 = .ok (.iload_n 1, 1) := by decide +kernel
theorem dX10_duty_27 : decode cX10_duty 27 = .ok (.iadd, 1) := by decide +kernel
theorem dX10_duty_28 : decode cX10_duty 28 = .ok (.iaload, 1) := by decide +kernel
theorem dX10_duty_29 : decode cX10_duty 29 = .ok (.goto 5, 3) := by decide +kernel
theorem dX10_duty_32 : decode cX10_duty 32 = .ok (.ldc 46, 2) := by decide +kernel
theorem dX10_duty_34 : decode cX10_duty 34 = .ok (.ireturn, 1) := by decide +kernel
theorem dX10_ifLeft_0 : decode cX10_ifLeft 0 = .ok (.iload_n 1, 1) := by decide +kernel
theorem dX10_ifLeft_1 : decode cX10_ifLeft 1 = .ok (.iconst 0, 1) := by decide +kernel
theorem dX10_ifLeft_2 : decode cX10_ifLeft 2 = .ok (.sipush 1023, 3) := by decide +kernel
theorem dX10_ifLeft_5 : decode cX10_ifLeft 5 = .ok (.invokestatic 35, 3) := by decide +kernel
theorem dX10_ifLeft_8 : decode cX10_ifLeft 8 = .ok (.ifCond .eq 7, 3) := by decide +kernel
theorem dX10_ifLeft_11 : decode cX10_ifLeft 11 = .ok (.iload_n 2, 1) := by decide +kernel
theorem dX10_ifLeft_12 : decode cX10_ifLeft 12 = .ok (.ifCond .ge 6, 3) := by decide +kernel
theorem dX10_ifLeft_15 : decode cX10_ifLeft 15 = .ok (.ldc 40, 2) := by decide +kernel
theorem dX10_ifLeft_17 : decode cX10_ifLeft 17 = .ok (.ireturn, 1) := by decide +kernel
theorem dX10_ifLeft_18 : decode cX10_ifLeft 18 = .ok (.aload_n 0, 1) := by decide +kernel
theorem dX10_ifLeft_19 : decode cX10_ifLeft 19 = .ok (.iload_n 1, 1) := by decide +kernel
theorem dX10_ifLeft_20 : decode cX10_ifLeft 20 = .ok (.invokevirtual 78, 3) := by decide +kernel
theorem dX10_ifLeft_23 : decode cX10_ifLeft 23 = .ok (.aload_n 0, 1) := by decide +kernel
theorem dX10_ifLeft_24 : decode cX10_ifLeft 24 = .ok (.getfield 7, 3) := by decide +kernel
theorem dX10_ifLeft_27 : decode cX10_ifLeft 27 = .ok (.iconst 2, 1) := by decide +kernel
theorem dX10_ifLeft_28 : decode cX10_ifLeft 28 = .ok (.iaload, 1) := by decide +kernel
theorem dX10_ifLeft_29 : decode cX10_ifLeft 29 = .ok (.if_icmp .ge 6, 3) := by decide +kernel
theorem dX10_ifLeft_32 : decode cX10_ifLeft 32 = .ok (.ldc 68, 2) := by decide +kernel
theorem dX10_ifLeft_34 : decode cX10_ifLeft 34 = .ok (.ireturn, 1) := by decide +kernel
theorem dX10_ifLeft_35 : decode cX10_ifLeft 35 = .ok (.aload_n 0, 1) := by decide +kernel
theorem dX10_ifLeft_36 : decode cX10_ifLeft 36 = .ok (.aload_n 0, 1) := by decide +kernel
theorem dX10_ifLeft_37 : decode cX10_ifLeft 37 = .ok (.getfield 69, 3) := by decide +kernel
theorem dX10_ifLeft_40 : decode cX10_ifLeft 40 = .ok (.invokevirtual 81, 3) := by decide +kernel
theorem dX10_ifLeft_43 : decode cX10_ifLeft 43 = .ok (.iload_n 2, 1) := by decide +kernel
theorem dX10_ifLeft_44 : decode cX10_ifLeft 44 = .ok (.aload_n 0, 1) := by decide +kernel
theorem dX10_ifLeft_45 : decode cX10_ifLeft 45 = .ok (.getfield 7, 3) := by decide +kernel
theorem dX10_ifLeft_48 : decode cX10_ifLeft 48 = .ok (.iconst 5, 1) := by decide +kernel
theorem dX10_ifLeft_49 : decode cX10_ifLeft 49 = .ok (.iaload, 1) := by decide +kernel
theorem dX10_ifLeft_50 : decode cX10_ifLeft 50 = .ok (.if_icmp .ge 12, 3) := by decide +kernel
theorem dX10_ifLeft_53 : decode cX10_ifLeft 53 = .ok (.aload_n 0, 1) := by decide +kernel
theorem dX10_ifLeft_54 : decode cX10_ifLeft 54 = .ok (.getfield 16, 3) := by decide +kernel
theorem dX10_ifLeft_57 : decode cX10_ifLeft 57 = .ok (.iload_n 2, 1) := by decide +kernel
theorem dX10_ifLeft_58 : decode cX10_ifLeft 58 = .ok (.iaload, 1) := by decide +kernel
theorem dX10_ifLeft_59 : decode cX10_ifLeft 59 = .ok (.goto 5, 3) := by decide +kernel
theorem dX10_ifLeft_62 : decode cX10_ifLeft 62 = .ok (.ldc 46, 2) := by decide +kernel
theorem dX10_ifLeft_64 : decode cX10_ifLeft 64 = .ok (.ireturn, 1) := by decide +kernel
theorem dX10_lose_0 : decode cX10_lose 0 = .ok (.aload_n 0, 1) := by decide +kernel
theorem dX10_lose_1 : decode cX10_lose 1 = .ok (.iload_n 1, 1) := by decide +kernel
theorem dX10_lose_2 : decode cX10_lose 2 = .ok (.invokevirtual 47, 3) := by decide +kernel
theorem dX10_lose_5 : decode cX10_lose 5 = .ok (.ifCond .eq 10, 3) := by decide +kernel
theorem dX10_lose_8 : decode cX10_lose 8 = .ok (.iload_n 2, 1) := by decide +kernel
theorem dX10_lose_9 : decode cX10_lose 9 = .ok (.invokestatic 87, 3) := by decide +kernel
theorem dX10_lose_12 : decode cX10_lose 12 = .ok (.ifCond .ne 6, 3) := by decide +kernel
theorem dX10_lose_15 : decode cX10_lose 15 = .ok (.ldc 40, 2) := by decide +kernel
theorem dX10_lose_17 : decode cX10_lose 17 = .ok (.ireturn, 1) := by decide +kernel
theorem dX10_lose_18 : decode cX10_lose 18 = .ok (.aload_n 0, 1) := by decide +kernel
theorem dX10_lose_19 : decode cX10_lose 19 = .ok (.invokevirtual 32, 3) := by decide +kernel
theorem dX10_lose_22 : decode cX10_lose 22 = .ok (.aload_n 0, 1) := by decide +kernel
theorem dX10_lose_23 : decode cX10_lose 23 = .ok (.getfield 7, 3) := by decide +kernel
theorem dX10_lose_26 : decode cX10_lose 26 = .ok (.sipush 150, 3) := by decide +kernel
theorem dX10_lose_29 : decode cX10_lose 29 = .ok (.iload_n 2, 1) := by decide +kernel
theorem dX10_lose_30 : decode cX10_lose 30 = .ok (.iadd, 1) := by decide +kernel
theorem dX10_lose_31 : decode cX10_lose 31 = .ok (.dup2, 1) := by decide +kernel
theorem dX10_lose_32 : decode cX10_lose 32 = .ok (.iaload, 1) := by decide +kernel
theorem dX10_lose_33 : decode cX10_lose 33 = .ok (.iconst 1, 1) := by decide +kernel
theorem dX10_lose_34 : decode cX10_lose 34 = .ok (.iload_n 1, 1) := by decide +kernel
theorem dX10_lose_35 : decode cX10_lose 35 = .ok (.ishl, 1) := by decide +kernel
theorem dX10_lose_36 : decode cX10_lose 36 = .ok (.ior, 1) := by decide +kernel
theorem dX10_lose_37 : decode cX10_lose 37 = .ok (.iastore, 1) := by decide +kernel
theorem dX10_lose_38 : decode cX10_lose 38 = .ok (.iconst 0, 1) := by decide +kernel
theorem dX10_lose_39 : decode cX10_lose 39 = .ok (.istore_n 3, 1) := by decide +kernel
theorem dX10_lose_40 : decode cX10_lose 40 = .ok (.iconst 0, 1) := by decide +kernel
theorem dX10_lose_41 : decode cX10_lose 41 = .ok (.istore 4, 2) := by decide +kernel
theorem dX10_lose_43 : decode cX10_lose 43 = .ok (.iload 4, 2) := by decide +kernel
theorem dX10_lose_45 : decode cX10_lose 45 = .ok (.bipush 10, 2) := by decide +kernel
theorem dX10_lose_47 : decode cX10_lose 47 = .ok (.if_icmp .ge 27, 3) := by decide +kernel
theorem dX10_lose_50 : decode cX10_lose 50 = .ok (.iload_n 3, 1) := by decide +kernel
theorem dX10_lose_51 : decode cX10_lose 51 = .ok (.aload_n 0, 1) := by decide +kernel
theorem dX10_lose_52 : decode cX10_lose 52 = .ok (.getfield 7, 3) := by decide +kernel
theorem dX10_lose_55 : decode cX10_lose 55 = .ok (.sipush 150, 3) := by decide +kernel
theorem dX10_lose_58 : decode cX10_lose 58 = .ok (.iload_n 2, 1) := by decide +kernel
theorem dX10_lose_59 : decode cX10_lose 59 = .ok (.iadd, 1) := by decide +kernel
theorem dX10_lose_60 : decode cX10_lose 60 = .ok (.iaload, 1) := by decide +kernel
theorem dX10_lose_61 : decode cX10_lose 61 = .ok (.iload 4, 2) := by decide +kernel
theorem dX10_lose_63 : decode cX10_lose 63 = .ok (.ishr, 1) := by decide +kernel
theorem dX10_lose_64 : decode cX10_lose 64 = .ok (.iconst 1, 1) := by decide +kernel
theorem dX10_lose_65 : decode cX10_lose 65 = .ok (.iand, 1) := by decide +kernel
theorem dX10_lose_66 : decode cX10_lose 66 = .ok (.iadd, 1) := by decide +kernel
theorem dX10_lose_67 : decode cX10_lose 67 = .ok (.istore_n 3, 1) := by decide +kernel
theorem dX10_lose_68 : decode cX10_lose 68 = .ok (.iinc 4 1, 3) := by decide +kernel
theorem dX10_lose_71 : decode cX10_lose 71 = .ok (.goto (-28), 3) := by decide +kernel
theorem dX10_lose_74 : decode cX10_lose 74 = .ok (.iload_n 3, 1) := by decide +kernel
theorem dX10_lose_75 : decode cX10_lose 75 = .ok (.ireturn, 1) := by decide +kernel
theorem dX10_type_0 : decode cX10_type 0 = .ok (.iload_n 1, 1) := by decide +kernel
theorem dX10_type_1 : decode cX10_type 1 = .ok (.bipush 32, 2) := by decide +kernel
theorem dX10_type_3 : decode cX10_type 3 = .ok (.bipush 126, 2) := by decide +kernel
theorem dX10_type_5 : decode cX10_type 5 = .ok (.invokestatic 35, 3) := by decide +kernel
theorem dX10_type_8 : decode cX10_type 8 = .ok (.ifCond .ne 6, 3) := by decide +kernel
theorem dX10_type_11 : decode cX10_type 11 = .ok (.ldc 40, 2) := by decide +kernel
theorem dX10_type_13 : decode cX10_type 13 = .ok (.ireturn, 1) := by decide +kernel
theorem dX10_type_14 : decode cX10_type 14 = .ok (.aload_n 0, 1) := by decide +kernel
theorem dX10_type_15 : decode cX10_type 15 = .ok (.getfield 90, 3) := by decide +kernel
theorem dX10_type_18 : decode cX10_type 18 = .ok (.bipush 60, 2) := by decide +kernel
theorem dX10_type_20 : decode cX10_type 20 = .ok (.if_icmp .ne 6, 3) := by decide +kernel
theorem dX10_type_23 : decode cX10_type 23 = .ok (.ldc 41, 2) := by decide +kernel
theorem dX10_type_25 : decode cX10_type 25 = .ok (.ireturn, 1) := by decide +kernel
theorem dX10_type_26 : decode cX10_type 26 = .ok (.aload_n 0, 1) := by decide +kernel
theorem dX10_type_27 : decode cX10_type 27 = .ok (.getfield 19, 3) := by decide +kernel
theorem dX10_type_30 : decode cX10_type 30 = .ok (.aload_n 0, 1) := by decide +kernel
theorem dX10_type_31 : decode cX10_type 31 = .ok (.getfield 90, 3) := by decide +kernel
theorem dX10_type_34 : decode cX10_type 34 = .ok (.iload_n 1, 1) := by decide +kernel
theorem dX10_type_35 : decode cX10_type 35 = .ok (.iastore, 1) := by decide +kernel
theorem dX10_type_36 : decode cX10_type 36 = .ok (.aload_n 0, 1) := by decide +kernel
theorem dX10_type_37 : decode cX10_type 37 = .ok (.dup, 1) := by decide +kernel
theorem dX10_type_38 : decode cX10_type 38 = .ok (.getfield 90, 3) := by decide +kernel
theorem dX10_type_41 : decode cX10_type 41 = .ok (.iconst 1, 1) := by decide +kernel
theorem dX10_type_42 : decode cX10_type 42 = .ok (.iadd, 1) := by decide +kernel
theorem dX10_type_43 : decode cX10_type 43 = .ok (.putfield 90, 3) := by decide +kernel
theorem dX10_type_46 : decode cX10_type 46 = .ok (.aload_n 0, 1) := by decide +kernel
theorem dX10_type_47 : decode cX10_type 47 = .ok (.getfield 90, 3) := by decide +kernel
theorem dX10_type_50 : decode cX10_type 50 = .ok (.ireturn, 1) := by decide +kernel
theorem dX10_clear_0 : decode cX10_clear 0 = .ok (.aload_n 0, 1) := by decide +kernel
theorem dX10_clear_1 : decode cX10_clear 1 = .ok (.getfield 90, 3) := by decide +kernel
theorem dX10_clear_4 : decode cX10_clear 4 = .ok (.istore_n 1, 1) := by decide +kernel
theorem dX10_clear_5 : decode cX10_clear 5 = .ok (.aload_n 0, 1) := by decide +kernel
theorem dX10_clear_6 : decode cX10_clear 6 = .ok (.iconst 0, 1) := by decide +kernel
theorem dX10_clear_7 : decode cX10_clear 7 = .ok (.putfield 90, 3) := by decide +kernel
theorem dX10_clear_10 : decode cX10_clear 10 = .ok (.iload_n 1, 1) := by decide +kernel
theorem dX10_clear_11 : decode cX10_clear 11 = .ok (.ireturn, 1) := by decide +kernel
theorem dX10_sign_0 : decode cX10_sign 0 = .ok (.aload_n 0, 1) := by decide +kernel
theorem dX10_sign_1 : decode cX10_sign 1 = .ok (.getfield 93, 3) := by decide +kernel
theorem dX10_sign_4 : decode cX10_sign 4 = .ok (.aload_n 0, 1) := by decide +kernel
theorem dX10_sign_5 : decode cX10_sign 5 = .ok (.getfield 90, 3) := by decide +kernel
theorem dX10_sign_8 : decode cX10_sign 8 = .ok (.if_icmp .ge 15, 3) := by decide +kernel
theorem dX10_sign_11 : decode cX10_sign 11 = .ok (.aload_n 0, 1) := by decide +kernel
theorem dX10_sign_12 : decode cX10_sign 12 = .ok (.getfield 19, 3) := by decide +kernel
theorem dX10_sign_15 : decode cX10_sign 15 = .ok (.aload_n 0, 1) := by decide +kernel
theorem dX10_sign_16 : decode cX10_sign 16 = .ok (.getfield 93, 3) := by decide +kernel
theorem dX10_sign_19 : decode cX10_sign 19 = .ok (.iaload, 1) := by decide +kernel
theorem dX10_sign_20 : decode cX10_sign 20 = .ok (.goto 4, 3) := by decide +kernel
theorem dX10_sign_23 : decode cX10_sign 23 = .ok (.iconst (-1), 1) := by decide +kernel
theorem dX10_sign_24 : decode cX10_sign 24 = .ok (.ireturn, 1) := by decide +kernel
theorem dX10_readsGroup_0 : decode cX10_readsGroup 0 = .ok (.aload_n 0, 1) := by decide +kernel
theorem dX10_readsGroup_1 : decode cX10_readsGroup 1 = .ok (.getfield 93, 3) := by decide +kernel
theorem dX10_readsGroup_4 : decode cX10_readsGroup 4 = .ok (.istore_n 1, 1) := by decide +kernel
theorem dX10_readsGroup_5 : decode cX10_readsGroup 5 = .ok (.iconst 0, 1) := by decide +kernel
theorem dX10_readsGroup_6 : decode cX10_readsGroup 6 = .ok (.istore_n 2, 1) := by decide +kernel
theorem dX10_readsGroup_7 : decode cX10_readsGroup 7 = .ok (.aload_n 0, 1) := by decide +kernel
theorem dX10_readsGroup_8 : decode cX10_readsGroup 8 = .ok (.getfield 93, 3) := by decide +kernel
theorem dX10_readsGroup_11 : decode cX10_readsGroup 11 = .ok (.iload_n 1, 1) := by decide +kernel
theorem dX10_readsGroup_12 : decode cX10_readsGroup 12 = .ok (.iconst 3, 1) := by decide +kernel
theorem dX10_readsGroup_13 : decode cX10_readsGroup 13 = .ok (.iadd, 1) := by decide +kernel
theorem dX10_readsGroup_14 : decode cX10_readsGroup 14 = .ok (.if_icmp .ge 43, 3) := by decide +kernel
theorem dX10_readsGroup_17 : decode cX10_readsGroup 17 = .ok (.aload_n 0, 1) := by decide +kernel
theorem dX10_readsGroup_18 : decode cX10_readsGroup 18 = .ok (.invokevirtual 96, 3) := by decide +kernel
theorem dX10_readsGroup_21 : decode cX10_readsGroup 21 = .ok (.bipush 48, 2) := by decide +kernel
theorem dX10_readsGroup_23 : decode cX10_readsGroup 23 = .ok (.bipush 57, 2) := by decide +kernel
theorem dX10_readsGroup_25 : decode cX10_readsGroup 25 = .ok (.invokestatic 35, 3) := by decide +kernel
theorem dX10_readsGroup_28 : decode cX10_readsGroup 28 = .ok (.ifCond .eq 29, 3) := by decide +kernel
theorem dX10_readsGroup_31 : decode cX10_readsGroup 31 = .ok (.bipush 10, 2) := by decide +kernel
theorem dX10_readsGroup_33 : decode cX10_readsGroup 33 = .ok (.iload_n 2, 1) := by decide +kernel
theorem dX10_readsGroup_34 : decode cX10_readsGroup 34 = .ok (.imul, 1) := by decide +kernel
theorem dX10_readsGroup_35 : decode cX10_readsGroup 35 = .ok (.aload_n 0, 1) := by decide +kernel
theorem dX10_readsGroup_36 : decode cX10_readsGroup 36 = .ok (.invokevirtual 96, 3) := by decide +kernel
theorem dX10_readsGroup_39 : decode cX10_readsGroup 39 = .ok (.iadd, 1) := by decide +kernel
theorem dX10_readsGroup_40 : decode cX10_readsGroup 40 = .ok (.bipush 48, 2) := by decide +kernel
theorem dX10_readsGroup_42 : decode cX10_readsGroup 42 = .ok (.isub, 1) := by decide +kernel
theorem dX10_readsGroup_43 : decode cX10_readsGroup 43 = .ok (.istore_n 2, 1) := by decide +kernel
theorem dX10_readsGroup_44 : decode cX10_readsGroup 44 = .ok (.aload_n 0, 1) := by decide +kernel
theorem dX10_readsGroup_45 : decode cX10_readsGroup 45 = .ok (.dup, 1) := by decide +kernel
theorem dX10_readsGroup_46 : decode cX10_readsGroup 46 = .ok (.getfield 93, 3) := by decide +kernel
theorem dX10_readsGroup_49 : decode cX10_readsGroup 49 = .ok (.iconst 1, 1) := by decide +kernel
theorem dX10_readsGroup_50 : decode cX10_readsGroup 50 = .ok (.iadd, 1) := by decide +kernel
theorem dX10_readsGroup_51 : decode cX10_readsGroup 51 = .ok (.putfield 93, 3) := by decide +kernel
theorem dX10_readsGroup_54 : decode cX10_readsGroup 54 = .ok (.goto (-47), 3) := by decide +kernel
theorem dX10_readsGroup_57 : decode cX10_readsGroup 57 = .ok (.aload_n 0, 1) := by decide +kernel
theorem dX10_readsGroup_58 : decode cX10_readsGroup 58 = .ok (.getfield 93, 3) := by decide +kernel
theorem dX10_readsGroup_61 : decode cX10_readsGroup 61 = .ok (.iload_n 1, 1) := by decide +kernel
theorem dX10_readsGroup_62 : decode cX10_readsGroup 62 = .ok (.if_icmp .eq 12, 3) := by decide +kernel
theorem dX10_readsGroup_65 : decode cX10_readsGroup 65 = .ok (.aload_n 0, 1) := by decide +kernel
theorem dX10_readsGroup_66 : decode cX10_readsGroup 66 = .ok (.invokevirtual 96, 3) := by decide +kernel
theorem dX10_readsGroup_69 : decode cX10_readsGroup 69 = .ok (.bipush 58, 2) := by decide +kernel
theorem dX10_readsGroup_71 : decode cX10_readsGroup 71 = .ok (.if_icmp .eq 5, 3) := by decide +kernel
theorem dX10_readsGroup_74 : decode cX10_readsGroup 74 = .ok (.iconst 0, 1) := by decide +kernel
theorem dX10_readsGroup_75 : decode cX10_readsGroup 75 = .ok (.ireturn, 1) := by decide +kernel
theorem dX10_readsGroup_76 : decode cX10_readsGroup 76 = .ok (.aload_n 0, 1) := by decide +kernel
theorem dX10_readsGroup_77 : decode cX10_readsGroup 77 = .ok (.dup, 1) := by decide +kernel
theorem dX10_readsGroup_78 : decode cX10_readsGroup 78 = .ok (.getfield 93, 3) := by decide +kernel
theorem dX10_readsGroup_81 : decode cX10_readsGroup 81 = .ok (.iconst 1, 1) := by decide +kernel
theorem dX10_readsGroup_82 : decode cX10_readsGroup 82 = .ok (.iadd, 1) := by decide +kernel
theorem dX10_readsGroup_83 : decode cX10_readsGroup 83 = .ok (.putfield 93, 3) := by decide +kernel
theorem dX10_readsGroup_86 : decode cX10_readsGroup 86 = .ok (.aload_n 0, 1) := by decide +kernel
theorem dX10_readsGroup_87 : decode cX10_readsGroup 87 = .ok (.aload_n 0, 1) := by decide +kernel
theorem dX10_readsGroup_88 : decode cX10_readsGroup 88 = .ok (.getfield 100, 3) := by decide +kernel
theorem dX10_readsGroup_91 : decode cX10_readsGroup 91 = .ok (.ifCond .ge 14, 3) := by decide +kernel
theorem dX10_readsGroup_94 : decode cX10_readsGroup 94 = .ok (.iload_n 2, 1) := by decide +kernel
theorem dX10_readsGroup_95 : decode cX10_readsGroup 95 = .ok (.sipush 199, 3) := by decide +kernel
theorem dX10_readsGroup_98 : decode cX10_readsGroup 98 = .ok (.if_icmp .le 7, 3) := by decide +kernel
theorem dX10_readsGroup_101 : decode cX10_readsGroup 101 = .ok (.iload_n 1, 1) := by decide +kernel
theorem dX10_readsGroup_102 : decode cX10_readsGroup 102 = .ok (.goto 7, 3) := by decide +kernel
theorem dX10_readsGroup_105 : decode cX10_readsGroup 105 = .ok (.aload_n 0, 1) := by decide +kernel
theorem dX10_readsGroup_106 : decode cX10_readsGroup 106 = .ok (.getfield 100, 3) := by decide +kernel
theorem dX10_readsGroup_109 : decode cX10_readsGroup 109 = .ok (.putfield 100, 3) := by decide +kernel
theorem dX10_readsGroup_112 : decode cX10_readsGroup 112 = .ok (.aload_n 0, 1) := by decide +kernel
theorem dX10_readsGroup_113 : decode cX10_readsGroup 113 = .ok (.getfield 93, 3) := by decide +kernel
theorem dX10_readsGroup_116 : decode cX10_readsGroup 116 = .ok (.istore_n 3, 1) := by decide +kernel
theorem dX10_readsGroup_117 : decode cX10_readsGroup 117 = .ok (.aload_n 0, 1) := by decide +kernel
theorem dX10_readsGroup_118 : decode cX10_readsGroup 118 = .ok (.invokevirtual 96, 3) := by decide +kernel
theorem dX10_readsGroup_121 : decode cX10_readsGroup 121 = .ok (.bipush 48, 2) := by decide +kernel
theorem dX10_readsGroup_123 : decode cX10_readsGroup 123 = .ok (.isub, 1) := by decide +kernel
theorem dX10_readsGroup_124 : decode cX10_readsGroup 124 = .ok (.iconst 0, 1) := by decide +kernel
theorem dX10_readsGroup_125 : decode cX10_readsGroup 125 = .ok (.aload_n 0, 1) := by decide +kernel
theorem dX10_readsGroup_126 : decode cX10_readsGroup 126 = .ok (.getfield 7, 3) := by decide +kernel
theorem dX10_readsGroup_129 : decode cX10_readsGroup 129 = .ok (.iconst 5, 1) := by decide +kernel
theorem dX10_readsGroup_130 : decode cX10_readsGroup 130 = .ok (.iaload, 1) := by decide +kernel
theorem dX10_readsGroup_131 : decode cX10_readsGroup 131 = .ok (.iconst 1, 1) := by decide +kernel
theorem dX10_readsGroup_132 : decode cX10_readsGroup 132 = .ok (.isub, 1) := by decide +kernel
theorem dX10_readsGroup_133 : decode cX10_readsGroup 133 = .ok (.invokestatic 35, 3) := by decide +kernel
theorem dX10_readsGroup_136 : decode cX10_readsGroup 136 = .ok (.ifCond .eq 47, 3) := by decide +kernel
theorem dX10_readsGroup_139 : decode cX10_readsGroup 139 = .ok (.aload_n 0, 1) := by decide +kernel
theorem dX10_readsGroup_140 : decode cX10_readsGroup 140 = .ok (.getfield 22, 3) := by decide +kernel
theorem dX10_readsGroup_143 : decode cX10_readsGroup 143 = .ok (.aload_n 0, 1) := by decide +kernel
theorem dX10_readsGroup_144 : decode cX10_readsGroup 144 = .ok (.getfield 103, 3) := by decide +kernel
theorem dX10_readsGroup_147 : decode cX10_readsGroup 147 = .ok (.bipush 10, 2) := by decide +kernel
theorem dX10_readsGroup_149 : decode cX10_readsGroup 149 = .ok (.iload_n 2, 1) := by decide +kernel
theorem dX10_readsGroup_150 : decode cX10_readsGroup 150 = .ok (.imul, 1) := by decide +kernel
theorem dX10_readsGroup_151 : decode cX10_readsGroup 151 = .ok (.aload_n 0, 1) := by decide +kernel
theorem dX10_readsGroup_152 : decode cX10_readsGroup 152 = .ok (.invokevirtual 96, 3) := by decide +kernel
theorem dX10_readsGroup_155 : decode cX10_readsGroup 155 = .ok (.iadd, 1) := by decide +kernel
theorem dX10_readsGroup_156 : decode cX10_readsGroup 156 = .ok (.bipush 48, 2) := by decide +kernel
theorem dX10_readsGroup_158 : decode cX10_readsGroup 158 = .ok (.isub, 1) := by decide +kernel
theorem dX10_readsGroup_159 : decode cX10_readsGroup 159 = .ok (.iastore, 1) := by decide +kernel
theorem dX10_readsGroup_160 : decode cX10_readsGroup 160 = .ok (.aload_n 0, 1) := by decide +kernel
theorem dX10_readsGroup_161 : decode cX10_readsGroup 161 = .ok (.dup, 1) := by decide +kernel
theorem dX10_readsGroup_162 : decode cX10_readsGroup 162 = .ok (.getfield 103, 3) := by decide +kernel
theorem dX10_readsGroup_165 : decode cX10_readsGroup 165 = .ok (.iconst 1, 1) := by decide +kernel
theorem dX10_readsGroup_166 : decode cX10_readsGroup 166 = .ok (.iadd, 1) := by decide +kernel
theorem dX10_readsGroup_167 : decode cX10_readsGroup 167 = .ok (.putfield 103, 3) := by decide +kernel
theorem dX10_readsGroup_170 : decode cX10_readsGroup 170 = .ok (.aload_n 0, 1) := by decide +kernel
theorem dX10_readsGroup_171 : decode cX10_readsGroup 171 = .ok (.dup, 1) := by decide +kernel
theorem dX10_readsGroup_172 : decode cX10_readsGroup 172 = .ok (.getfield 93, 3) := by decide +kernel
theorem dX10_readsGroup_175 : decode cX10_readsGroup 175 = .ok (.iconst 1, 1) := by decide +kernel
theorem dX10_readsGroup_176 : decode cX10_readsGroup 176 = .ok (.iadd, 1) := by decide +kernel
theorem dX10_readsGroup_177 : decode cX10_readsGroup 177 = .ok (.putfield 93, 3) := by decide +kernel
theorem dX10_readsGroup_180 : decode cX10_readsGroup 180 = .ok (.goto (-63), 3) := by decide +kernel
theorem dX10_readsGroup_183 : decode cX10_readsGroup 183 = .ok (.aload_n 0, 1) := by decide +kernel
theorem dX10_readsGroup_184 : decode cX10_readsGroup 184 = .ok (.getfield 93, 3) := by decide +kernel
theorem dX10_readsGroup_187 : decode cX10_readsGroup 187 = .ok (.iload_n 3, 1) := by decide +kernel
theorem dX10_readsGroup_188 : decode cX10_readsGroup 188 = .ok (.if_icmp .le 7, 3) := by decide +kernel
theorem dX10_readsGroup_191 : decode cX10_readsGroup 191 = .ok (.iconst 1, 1) := by decide +kernel
theorem dX10_readsGroup_192 : decode cX10_readsGroup 192 = .ok (.goto 4, 3) := by decide +kernel
theorem dX10_readsGroup_195 : decode cX10_readsGroup 195 = .ok (.iconst 0, 1) := by decide +kernel
theorem dX10_readsGroup_196 : decode cX10_readsGroup 196 = .ok (.ireturn, 1) := by decide +kernel
theorem dX10_wrongAt_0 : decode cX10_wrongAt 0 = .ok (.aload_n 0, 1) := by decide +kernel
theorem dX10_wrongAt_1 : decode cX10_wrongAt 1 = .ok (.iconst 0, 1) := by decide +kernel
theorem dX10_wrongAt_2 : decode cX10_wrongAt 2 = .ok (.putfield 93, 3) := by decide +kernel
theorem dX10_wrongAt_5 : decode cX10_wrongAt 5 = .ok (.aload_n 0, 1) := by decide +kernel
theorem dX10_wrongAt_6 : decode cX10_wrongAt 6 = .ok (.iconst 0, 1) := by decide +kernel
theorem dX10_wrongAt_7 : decode cX10_wrongAt 7 = .ok (.putfield 103, 3) := by decide +kernel
theorem dX10_wrongAt_10 : decode cX10_wrongAt 10 = .ok (.aload_n 0, 1) := by decide +kernel
theorem dX10_wrongAt_11 : decode cX10_wrongAt 11 = .ok (.iconst (-1), 1) := by decide +kernel
theorem dX10_wrongAt_12 : decode cX10_wrongAt 12 = .ok (.putfield 100, 3) := by decide +kernel
theorem dX10_wrongAt_15 : decode cX10_wrongAt 15 = .ok (.iconst 1, 1) := by decide +kernel
theorem dX10_wrongAt_16 : decode cX10_wrongAt 16 = .ok (.istore_n 1, 1) := by decide +kernel
theorem dX10_wrongAt_17 : decode cX10_wrongAt 17 = .ok (.iload_n 1, 1) := by decide +kernel
theorem dX10_wrongAt_18 : decode cX10_wrongAt 18 = .ok (.ifCond .eq 51, 3) := by decide +kernel
theorem dX10_wrongAt_21 : decode cX10_wrongAt 21 = .ok (.aload_n 0, 1) := by decide +kernel
theorem dX10_wrongAt_22 : decode cX10_wrongAt 22 = .ok (.invokevirtual 106, 3) := by decide +kernel
theorem dX10_wrongAt_25 : decode cX10_wrongAt 25 = .ok (.ifCond .ne 8, 3) := by decide +kernel
theorem dX10_wrongAt_28 : decode cX10_wrongAt 28 = .ok (.aload_n 0, 1) := by decide +kernel
theorem dX10_wrongAt_29 : decode cX10_wrongAt 29 = .ok (.getfield 93, 3) := by decide +kernel
theorem dX10_wrongAt_32 : decode cX10_wrongAt 32 = .ok (.ireturn, 1) := by decide +kernel
theorem dX10_wrongAt_33 : decode cX10_wrongAt 33 = .ok (.aload_n 0, 1) := by decide +kernel
theorem dX10_wrongAt_34 : decode cX10_wrongAt 34 = .ok (.invokevirtual 96, 3) := by decide +kernel
theorem dX10_wrongAt_37 : decode cX10_wrongAt 37 = .ok (.bipush 59, 2) := by decide +kernel
theorem dX10_wrongAt_39 : decode cX10_wrongAt 39 = .ok (.if_icmp .ne 7, 3) := by decide +kernel
theorem dX10_wrongAt_42 : decode cX10_wrongAt 42 = .ok (.iconst 1, 1) := by decide +kernel
theorem dX10_wrongAt_43 : decode cX10_wrongAt 43 = .ok (.goto 4, 3) := by decide +kernel
theorem dX10_wrongAt_46 : decode cX10_wrongAt 46 = .ok (.iconst 0, 1) := by decide +kernel
theorem dX10_wrongAt_47 : decode cX10_wrongAt 47 = .ok (.istore_n 1, 1) := by decide +kernel
theorem dX10_wrongAt_48 : decode cX10_wrongAt 48 = .ok (.aload_n 0, 1) := by decide +kernel
theorem dX10_wrongAt_49 : decode cX10_wrongAt 49 = .ok (.dup, 1) := by decide +kernel
theorem dX10_wrongAt_50 : decode cX10_wrongAt 50 = .ok (.getfield 93, 3) := by decide +kernel
theorem dX10_wrongAt_53 : decode cX10_wrongAt 53 = .ok (.iload_n 1, 1) := by decide +kernel
theorem dX10_wrongAt_54 : decode cX10_wrongAt 54 = .ok (.ifCond .eq 7, 3) := by decide +kernel
theorem dX10_wrongAt_57 : decode cX10_wrongAt 57 = .ok (.iconst 1, 1) := by decide +kernel
theorem dX10_wrongAt_58 : decode cX10_wrongAt 58 = .ok (.goto 4, 3) := by decide +kernel
theorem dX10_wrongAt_61 : decode cX10_wrongAt 61 = .ok (.iconst 0, 1) := by decide +kernel
theorem dX10_wrongAt_62 : decode cX10_wrongAt 62 = .ok (.iadd, 1) := by decide +kernel
theorem dX10_wrongAt_63 : decode cX10_wrongAt 63 = .ok (.putfield 93, 3) := by decide +kernel
theorem dX10_wrongAt_66 : decode cX10_wrongAt 66 = .ok (.goto (-49), 3) := by decide +kernel
theorem dX10_wrongAt_69 : decode cX10_wrongAt 69 = .ok (.aload_n 0, 1) := by decide +kernel
theorem dX10_wrongAt_70 : decode cX10_wrongAt 70 = .ok (.getfield 93, 3) := by decide +kernel
theorem dX10_wrongAt_73 : decode cX10_wrongAt 73 = .ok (.aload_n 0, 1) := by decide +kernel
theorem dX10_wrongAt_74 : decode cX10_wrongAt 74 = .ok (.getfield 90, 3) := by decide +kernel
theorem dX10_wrongAt_77 : decode cX10_wrongAt 77 = .ok (.if_icmp .ge 10, 3) := by decide +kernel
theorem dX10_wrongAt_80 : decode cX10_wrongAt 80 = .ok (.aload_n 0, 1) := by decide +kernel
theorem dX10_wrongAt_81 : decode cX10_wrongAt 81 = .ok (.getfield 93, 3) := by decide +kernel
theorem dX10_wrongAt_84 : decode cX10_wrongAt 84 = .ok (.goto 7, 3) := by decide +kernel
theorem dX10_wrongAt_87 : decode cX10_wrongAt 87 = .ok (.aload_n 0, 1) := by decide +kernel
theorem dX10_wrongAt_88 : decode cX10_wrongAt 88 = .ok (.getfield 100, 3) := by decide +kernel
theorem dX10_wrongAt_91 : decode cX10_wrongAt 91 = .ok (.ireturn, 1) := by decide +kernel
theorem dX10_read_0 : decode cX10_read 0 = .ok (.aload_n 0, 1) := by decide +kernel
theorem dX10_read_1 : decode cX10_read 1 = .ok (.invokevirtual 110, 3) := by decide +kernel
theorem dX10_read_4 : decode cX10_read 4 = .ok (.istore_n 1, 1) := by decide +kernel
theorem dX10_read_5 : decode cX10_read 5 = .ok (.iload_n 1, 1) := by decide +kernel
theorem dX10_read_6 : decode cX10_read 6 = .ok (.ifCond .lt 8, 3) := by decide +kernel
theorem dX10_read_9 : decode cX10_read 9 = .ok (.bipush (-100), 2) := by decide +kernel
theorem dX10_read_11 : decode cX10_read 11 = .ok (.iload_n 1, 1) := by decide +kernel
theorem dX10_read_12 : decode cX10_read 12 = .ok (.isub, 1) := by decide +kernel
theorem dX10_read_13 : decode cX10_read 13 = .ok (.ireturn, 1) := by decide +kernel
theorem dX10_read_14 : decode cX10_read 14 = .ok (.aload_n 0, 1) := by decide +kernel
theorem dX10_read_15 : decode cX10_read 15 = .ok (.invokevirtual 32, 3) := by decide +kernel
theorem dX10_read_18 : decode cX10_read 18 = .ok (.iconst 0, 1) := by decide +kernel
theorem dX10_read_19 : decode cX10_read 19 = .ok (.istore_n 2, 1) := by decide +kernel
theorem dX10_read_20 : decode cX10_read 20 = .ok (.iconst 0, 1) := by decide +kernel
theorem dX10_read_21 : decode cX10_read 21 = .ok (.istore_n 3, 1) := by decide +kernel
theorem dX10_read_22 : decode cX10_read 22 = .ok (.iload_n 3, 1) := by decide +kernel
theorem dX10_read_23 : decode cX10_read 23 = .ok (.aload_n 0, 1) := by decide +kernel
theorem dX10_read_24 : decode cX10_read 24 = .ok (.getfield 103, 3) := by decide +kernel
theorem dX10_read_27 : decode cX10_read 27 = .ok (.if_icmp .ge 68, 3) := by decide +kernel
theorem dX10_read_30 : decode cX10_read 30 = .ok (.aload_n 0, 1) := by decide +kernel
theorem dX10_read_31 : decode cX10_read 31 = .ok (.getfield 22, 3) := by decide +kernel
theorem dX10_read_34 : decode cX10_read 34 = .ok (.iload_n 3, 1) := by decide +kernel
theorem dX10_read_35 : decode cX10_read 35 = .ok (.iaload, 1) := by decide +kernel
theorem dX10_read_36 : decode cX10_read 36 = .ok (.bipush 10, 2) := by decide +kernel
theorem dX10_read_38 : decode cX10_read 38 = .ok (.idiv, 1) := by decide +kernel
theorem dX10_read_39 : decode cX10_read 39 = .ok (.istore 4, 2) := by decide +kernel
theorem dX10_read_41 : decode cX10_read 41 = .ok (.aload_n 0, 1) := by decide +kernel
theorem dX10_read_42 : decode cX10_read 42 = .ok (.getfield 22, 3) := by decide +kernel
theorem dX10_read_45 : decode cX10_read 45 = .ok (.iload_n 3, 1) := by decide +kernel
theorem dX10_read_46 : decode cX10_read 46 = .ok (.iaload, 1) := by decide +kernel
theorem dX10_read_47 : decode cX10_read 47 = .ok (.bipush 10, 2) := by decide +kernel
theorem dX10_read_49 : decode cX10_read 49 = .ok (.irem, 1) := by decide +kernel
theorem dX10_read_50 : decode cX10_read 50 = .ok (.istore 5, 2) := by decide +kernel
theorem dX10_read_52 : decode cX10_read 52 = .ok (.iload_n 2, 1) := by decide +kernel
theorem dX10_read_53 : decode cX10_read 53 = .ok (.aload_n 0, 1) := by decide +kernel
theorem dX10_read_54 : decode cX10_read 54 = .ok (.iload 5, 2) := by decide +kernel
theorem dX10_read_56 : decode cX10_read 56 = .ok (.iload 4, 2) := by decide +kernel
theorem dX10_read_58 : decode cX10_read 58 = .ok (.invokevirtual 54, 3) := by decide +kernel
theorem dX10_read_61 : decode cX10_read 61 = .ok (.ifCond .eq 7, 3) := by decide +kernel
theorem dX10_read_64 : decode cX10_read 64 = .ok (.iconst 1, 1) := by decide +kernel
theorem dX10_read_65 : decode cX10_read 65 = .ok (.goto 4, 3) := by decide +kernel
theorem dX10_read_68 : decode cX10_read 68 = .ok (.iconst 0, 1) := by decide +kernel
theorem dX10_read_69 : decode cX10_read 69 = .ok (.iadd, 1) := by decide +kernel
theorem dX10_read_70 : decode cX10_read 70 = .ok (.istore_n 2, 1) := by decide +kernel
theorem dX10_read_71 : decode cX10_read 71 = .ok (.aload_n 0, 1) := by decide +kernel
theorem dX10_read_72 : decode cX10_read 72 = .ok (.getfield 7, 3) := by decide +kernel
theorem dX10_read_75 : decode cX10_read 75 = .ok (.sipush 150, 3) := by decide +kernel
theorem dX10_read_78 : decode cX10_read 78 = .ok (.iload 4, 2) := by decide +kernel
theorem dX10_read_80 : decode cX10_read 80 = .ok (.iadd, 1) := by decide +kernel
theorem dX10_read_81 : decode cX10_read 81 = .ok (.dup2, 1) := by decide +kernel
theorem dX10_read_82 : decode cX10_read 82 = .ok (.iaload, 1) := by decide +kernel
theorem dX10_read_83 : decode cX10_read 83 = .ok (.iconst 1, 1) := by decide +kernel
theorem dX10_read_84 : decode cX10_read 84 = .ok (.iload 5, 2) := by decide +kernel
theorem dX10_read_86 : decode cX10_read 86 = .ok (.ishl, 1) := by decide +kernel
theorem dX10_read_87 : decode cX10_read 87 = .ok (.ior, 1) := by decide +kernel
theorem dX10_read_88 : decode cX10_read 88 = .ok (.iastore, 1) := by decide +kernel
theorem dX10_read_89 : decode cX10_read 89 = .ok (.iinc 3 1, 3) := by decide +kernel
theorem dX10_read_92 : decode cX10_read 92 = .ok (.goto (-70), 3) := by decide +kernel
theorem dX10_read_95 : decode cX10_read 95 = .ok (.aload_n 0, 1) := by decide +kernel
theorem dX10_read_96 : decode cX10_read 96 = .ok (.iconst 0, 1) := by decide +kernel
theorem dX10_read_97 : decode cX10_read 97 = .ok (.putfield 90, 3) := by decide +kernel
theorem dX10_read_100 : decode cX10_read 100 = .ok (.iload_n 2, 1) := by decide +kernel
theorem dX10_read_101 : decode cX10_read 101 = .ok (.ireturn, 1) := by decide +kernel
theorem dX10_lost_0 : decode cX10_lost 0 = .ok (.aload_n 0, 1) := by decide +kernel
theorem dX10_lost_1 : decode cX10_lost 1 = .ok (.iload_n 1, 1) := by decide +kernel
theorem dX10_lost_2 : decode cX10_lost 2 = .ok (.invokevirtual 47, 3) := by decide +kernel
theorem dX10_lost_5 : decode cX10_lost 5 = .ok (.ifCond .eq 27, 3) := by decide +kernel
theorem dX10_lost_8 : decode cX10_lost 8 = .ok (.iload_n 2, 1) := by decide +kernel
theorem dX10_lost_9 : decode cX10_lost 9 = .ok (.invokestatic 87, 3) := by decide +kernel
theorem dX10_lost_12 : decode cX10_lost 12 = .ok (.ifCond .eq 20, 3) := by decide +kernel
theorem dX10_lost_15 : decode cX10_lost 15 = .ok (.aload_n 0, 1) := by decide +kernel
theorem dX10_lost_16 : decode cX10_lost 16 = .ok (.iload_n 1, 1) := by decide +kernel
theorem dX10_lost_17 : decode cX10_lost 17 = .ok (.iload_n 2, 1) := by decide +kernel
theorem dX10_lost_18 : decode cX10_lost 18 = .ok (.invokevirtual 54, 3) := by decide +kernel
theorem dX10_lost_21 : decode cX10_lost 21 = .ok (.ifCond .eq 7, 3) := by decide +kernel
theorem dX10_lost_24 : decode cX10_lost 24 = .ok (.iconst 0, 1) := by decide +kernel
theorem dX10_lost_25 : decode cX10_lost 25 = .ok (.goto 9, 3) := by decide +kernel
theorem dX10_lost_28 : decode cX10_lost 28 = .ok (.iconst 1, 1) := by decide +kernel
theorem dX10_lost_29 : decode cX10_lost 29 = .ok (.goto 5, 3) := by decide +kernel
theorem dX10_lost_32 : decode cX10_lost 32 = .ok (.ldc 40, 2) := by decide +kernel
theorem dX10_lost_34 : decode cX10_lost 34 = .ok (.ireturn, 1) := by decide +kernel
theorem dX10_isIn_0 : decode cX10_isIn 0 = .ok (.iload_n 1, 1) := by decide +kernel
theorem dX10_isIn_1 : decode cX10_isIn 1 = .ok (.iload_n 2, 1) := by decide +kernel
theorem dX10_isIn_2 : decode cX10_isIn 2 = .ok (.ishr, 1) := by decide +kernel
theorem dX10_isIn_3 : decode cX10_isIn 3 = .ok (.iconst 1, 1) := by decide +kernel
theorem dX10_isIn_4 : decode cX10_isIn 4 = .ok (.iand, 1) := by decide +kernel
theorem dX10_isIn_5 : decode cX10_isIn 5 = .ok (.iconst 1, 1) := by decide +kernel
theorem dX10_isIn_6 : decode cX10_isIn 6 = .ok (.if_icmp .ne 7, 3) := by decide +kernel
theorem dX10_isIn_9 : decode cX10_isIn 9 = .ok (.iconst 1, 1) := by decide +kernel
theorem dX10_isIn_10 : decode cX10_isIn 10 = .ok (.goto 4, 3) := by decide +kernel
theorem dX10_isIn_13 : decode cX10_isIn 13 = .ok (.iconst 0, 1) := by decide +kernel
theorem dX10_isIn_14 : decode cX10_isIn 14 = .ok (.ireturn, 1) := by decide +kernel
theorem dX10_distance_0 : decode cX10_distance 0 = .ok (.aload_n 0, 1) := by decide +kernel
theorem dX10_distance_1 : decode cX10_distance 1 = .ok (.getfield 7, 3) := by decide +kernel
theorem dX10_distance_4 : decode cX10_distance 4 = .ok (.iload_n 1, 1) := by decide +kernel
theorem dX10_distance_5 : decode cX10_distance 5 = .ok (.iconst 1, 1) := by decide +kernel
theorem dX10_distance_6 : decode cX10_distance 6 = .ok (.invokestatic 42, 3) := by decide +kernel
theorem dX10_distance_9 : decode cX10_distance 9 = .ok (.iaload, 1) := by decide +kernel
theorem dX10_distance_10 : decode cX10_distance 10 = .ok (.aload_n 0, 1) := by decide +kernel
theorem dX10_distance_11 : decode cX10_distance 11 = .ok (.getfield 7, 3) := by decide +kernel
theorem dX10_distance_14 : decode cX10_distance 14 = .ok (.iload_n 2, 1) := by decide +kernel
theorem dX10_distance_15 : decode cX10_distance 15 = .ok (.iconst 1, 1) := by decide +kernel
theorem dX10_distance_16 : decode cX10_distance 16 = .ok (.invokestatic 42, 3) := by decide +kernel
theorem dX10_distance_19 : decode cX10_distance 19 = .ok (.iaload, 1) := by decide +kernel
theorem dX10_distance_20 : decode cX10_distance 20 = .ok (.isub, 1) := by decide +kernel
theorem dX10_distance_21 : decode cX10_distance 21 = .ok (.istore_n 3, 1) := by decide +kernel
theorem dX10_distance_22 : decode cX10_distance 22 = .ok (.iload_n 3, 1) := by decide +kernel
theorem dX10_distance_23 : decode cX10_distance 23 = .ok (.ifCond .ge 8, 3) := by decide +kernel
theorem dX10_distance_26 : decode cX10_distance 26 = .ok (.iload_n 3, 1) := by decide +kernel
theorem dX10_distance_27 : decode cX10_distance 27 = .ok (.ineg, 1) := by decide +kernel
theorem dX10_distance_28 : decode cX10_distance 28 = .ok (.goto 4, 3) := by decide +kernel
theorem dX10_distance_31 : decode cX10_distance 31 = .ok (.iload_n 3, 1) := by decide +kernel
theorem dX10_distance_32 : decode cX10_distance 32 = .ok (.ireturn, 1) := by decide +kernel
theorem dX10_works_0 : decode cX10_works 0 = .ok (.aload_n 0, 1) := by decide +kernel
theorem dX10_works_1 : decode cX10_works 1 = .ok (.iconst 0, 1) := by decide +kernel
theorem dX10_works_2 : decode cX10_works 2 = .ok (.putfield 113, 3) := by decide +kernel
theorem dX10_works_5 : decode cX10_works 5 = .ok (.iconst 0, 1) := by decide +kernel
theorem dX10_works_6 : decode cX10_works 6 = .ok (.istore_n 3, 1) := by decide +kernel
theorem dX10_works_7 : decode cX10_works 7 = .ok (.iload_n 3, 1) := by decide +kernel
theorem dX10_works_8 : decode cX10_works 8 = .ok (.aload_n 0, 1) := by decide +kernel
theorem dX10_works_9 : decode cX10_works 9 = .ok (.getfield 7, 3) := by decide +kernel
theorem dX10_works_12 : decode cX10_works 12 = .ok (.iconst 5, 1) := by decide +kernel
theorem dX10_works_13 : decode cX10_works 13 = .ok (.iaload, 1) := by decide +kernel
theorem dX10_works_14 : decode cX10_works 14 = .ok (.if_icmp .ge 42, 3) := by decide +kernel
theorem dX10_works_17 : decode cX10_works 17 = .ok (.aload_n 0, 1) := by decide +kernel
theorem dX10_works_18 : decode cX10_works 18 = .ok (.dup, 1) := by decide +kernel
theorem dX10_works_19 : decode cX10_works 19 = .ok (.getfield 113, 3) := by decide +kernel
theorem dX10_works_22 : decode cX10_works 22 = .ok (.aload_n 0, 1) := by decide +kernel
theorem dX10_works_23 : decode cX10_works 23 = .ok (.iload_n 3, 1) := by decide +kernel
theorem dX10_works_24 : decode cX10_works 24 = .ok (.invokevirtual 65, 3) := by decide +kernel
theorem dX10_works_27 : decode cX10_works 27 = .ok (.ifCond .eq 18, 3) := by decide +kernel
theorem dX10_works_30 : decode cX10_works 30 = .ok (.aload_n 0, 1) := by decide +kernel
theorem dX10_works_31 : decode cX10_works 31 = .ok (.iload_n 3, 1) := by decide +kernel
theorem dX10_works_32 : decode cX10_works 32 = .ok (.iload_n 1, 1) := by decide +kernel
theorem dX10_works_33 : decode cX10_works 33 = .ok (.invokevirtual 54, 3) := by decide +kernel
theorem dX10_works_36 : decode cX10_works 36 = .ok (.ifCond .ne 9, 3) := by decide +kernel
theorem dX10_works_39 : decode cX10_works 39 = .ok (.iconst 1, 1) := by decide +kernel
theorem dX10_works_40 : decode cX10_works 40 = .ok (.iload_n 3, 1) := by decide +kernel
theorem dX10_works_41 : decode cX10_works 41 = .ok (.ishl, 1) := by decide +kernel
theorem dX10_works_42 : decode cX10_works 42 = .ok (.goto 4, 3) := by decide +kernel
theorem dX10_works_45 : decode cX10_works 45 = .ok (.iconst 0, 1) := by decide +kernel
theorem dX10_works_46 : decode cX10_works 46 = .ok (.ior, 1) := by decide +kernel
theorem dX10_works_47 : decode cX10_works 47 = .ok (.putfield 113, 3) := by decide +kernel
theorem dX10_works_50 : decode cX10_works 50 = .ok (.iinc 3 1, 3) := by decide +kernel
theorem dX10_works_53 : decode cX10_works 53 = .ok (.goto (-46), 3) := by decide +kernel
theorem dX10_works_56 : decode cX10_works 56 = .ok (.aload_n 0, 1) := by decide +kernel
theorem dX10_works_57 : decode cX10_works 57 = .ok (.iconst 0, 1) := by decide +kernel
theorem dX10_works_58 : decode cX10_works 58 = .ok (.putfield 116, 3) := by decide +kernel
theorem dX10_works_61 : decode cX10_works 61 = .ok (.aload_n 0, 1) := by decide +kernel
theorem dX10_works_62 : decode cX10_works 62 = .ok (.ldc 46, 2) := by decide +kernel
theorem dX10_works_64 : decode cX10_works 64 = .ok (.putfield 119, 3) := by decide +kernel
theorem dX10_works_67 : decode cX10_works 67 = .ok (.iconst 0, 1) := by decide +kernel
theorem dX10_works_68 : decode cX10_works 68 = .ok (.istore_n 3, 1) := by decide +kernel
theorem dX10_works_69 : decode cX10_works 69 = .ok (.iload_n 3, 1) := by decide +kernel
theorem dX10_works_70 : decode cX10_works 70 = .ok (.aload_n 0, 1) := by decide +kernel
theorem dX10_works_71 : decode cX10_works 71 = .ok (.getfield 7, 3) := by decide +kernel
theorem dX10_works_74 : decode cX10_works 74 = .ok (.bipush 11, 2) := by decide +kernel
theorem dX10_works_76 : decode cX10_works 76 = .ok (.iaload, 1) := by decide +kernel
theorem dX10_works_77 : decode cX10_works 77 = .ok (.if_icmp .ge 85, 3) := by decide +kernel
theorem dX10_works_80 : decode cX10_works 80 = .ok (.aload_n 0, 1) := by decide +kernel
theorem dX10_works_81 : decode cX10_works 81 = .ok (.getfield 119, 3) := by decide +kernel
theorem dX10_works_84 : decode cX10_works 84 = .ok (.ifCond .ge 78, 3) := by decide +kernel
theorem dX10_works_87 : decode cX10_works 87 = .ok (.aload_n 0, 1) := by decide +kernel
theorem dX10_works_88 : decode cX10_works 88 = .ok (.getfield 7, 3) := by decide +kernel
theorem dX10_works_91 : decode cX10_works 91 = .ok (.bipush 12, 2) := by decide +kernel
theorem dX10_works_93 : decode cX10_works 93 = .ok (.iload_n 3, 1) := by decide +kernel
theorem dX10_works_94 : decode cX10_works 94 = .ok (.iadd, 1) := by decide +kernel
theorem dX10_works_95 : decode cX10_works 95 = .ok (.iaload, 1) := by decide +kernel
theorem dX10_works_96 : decode cX10_works 96 = .ok (.istore 4, 2) := by decide +kernel
theorem dX10_works_98 : decode cX10_works 98 = .ok (.aload_n 0, 1) := by decide +kernel
theorem dX10_works_99 : decode cX10_works 99 = .ok (.aload_n 0, 1) := by decide +kernel
theorem dX10_works_100 : decode cX10_works 100 = .ok (.iload 4, 2) := by decide +kernel
theorem dX10_works_102 : decode cX10_works 102 = .ok (.invokevirtual 65, 3) := by decide +kernel
theorem dX10_works_105 : decode cX10_works 105 = .ok (.ifCond .eq 18, 3) := by decide +kernel
theorem dX10_works_108 : decode cX10_works 108 = .ok (.aload_n 0, 1) := by decide +kernel
theorem dX10_works_109 : decode cX10_works 109 = .ok (.iload 4, 2) := by decide +kernel
theorem dX10_works_111 : decode cX10_works 111 = .ok (.iload_n 1, 1) := by decide +kernel
theorem dX10_works_112 : decode cX10_works 112 = .ok (.invokevirtual 54, 3) := by decide +kernel
theorem dX10_works_115 : decode cX10_works 115 = .ok (.ifCond .eq 8, 3) := by decide +kernel
theorem dX10_works_118 : decode cX10_works 118 = .ok (.iload 4, 2) := by decide +kernel
theorem dX10_works_120 : decode cX10_works 120 = .ok (.goto 7, 3) := by decide +kernel
theorem dX10_works_123 : decode cX10_works 123 = .ok (.aload_n 0, 1) := by decide +kernel
theorem dX10_works_124 : decode cX10_works 124 = .ok (.getfield 119, 3) := by decide +kernel
theorem dX10_works_127 : decode cX10_works 127 = .ok (.putfield 119, 3) := by decide +kernel
theorem dX10_works_130 : decode cX10_works 130 = .ok (.aload_n 0, 1) := by decide +kernel
theorem dX10_works_131 : decode cX10_works 131 = .ok (.dup, 1) := by decide +kernel
theorem dX10_works_132 : decode cX10_works 132 = .ok (.getfield 116, 3) := by decide +kernel
theorem dX10_works_135 : decode cX10_works 135 = .ok (.aload_n 0, 1) := by decide +kernel
theorem dX10_works_136 : decode cX10_works 136 = .ok (.iload 4, 2) := by decide +kernel
theorem dX10_works_138 : decode cX10_works 138 = .ok (.invokevirtual 65, 3) := by decide +kernel
theorem dX10_works_141 : decode cX10_works 141 = .ok (.ifCond .eq 7, 3) := by decide +kernel
theorem dX10_works_144 : decode cX10_works 144 = .ok (.iconst 0, 1) := by decide +kernel
theorem dX10_works_145 : decode cX10_works 145 = .ok (.goto 7, 3) := by decide +kernel
theorem dX10_works_148 : decode cX10_works 148 = .ok (.iconst 1, 1) := by decide +kernel
theorem dX10_works_149 : decode cX10_works 149 = .ok (.iload 4, 2) := by decide +kernel
theorem dX10_works_151 : decode cX10_works 151 = .ok (.ishl, 1) := by decide +kernel
theorem dX10_works_152 : decode cX10_works 152 = .ok (.ior, 1) := by decide +kernel
theorem dX10_works_153 : decode cX10_works 153 = .ok (.putfield 116, 3) := by decide +kernel
theorem dX10_works_156 : decode cX10_works 156 = .ok (.iinc 3 1, 3) := by decide +kernel
theorem dX10_works_159 : decode cX10_works 159 = .ok (.goto (-90), 3) := by decide +kernel
theorem dX10_works_162 : decode cX10_works 162 = .ok (.aload_n 0, 1) := by decide +kernel
theorem dX10_works_163 : decode cX10_works 163 = .ok (.getfield 7, 3) := by decide +kernel
theorem dX10_works_166 : decode cX10_works 166 = .ok (.bipush 6, 2) := by decide +kernel
theorem dX10_works_168 : decode cX10_works 168 = .ok (.iaload, 1) := by decide +kernel
theorem dX10_works_169 : decode cX10_works 169 = .ok (.ifCond .ne 5, 3) := by decide +kernel
theorem dX10_works_172 : decode cX10_works 172 = .ok (.iconst 1, 1) := by decide +kernel
theorem dX10_works_173 : decode cX10_works 173 = .ok (.ireturn, 1) := by decide +kernel
theorem dX10_works_174 : decode cX10_works 174 = .ok (.aload_n 0, 1) := by decide +kernel
theorem dX10_works_175 : decode cX10_works 175 = .ok (.getfield 113, 3) := by decide +kernel
theorem dX10_works_178 : decode cX10_works 178 = .ok (.ifCond .ne 5, 3) := by decide +kernel
theorem dX10_works_181 : decode cX10_works 181 = .ok (.iconst 2, 1) := by decide +kernel
theorem dX10_works_182 : decode cX10_works 182 = .ok (.ireturn, 1) := by decide +kernel
theorem dX10_works_183 : decode cX10_works 183 = .ok (.aload_n 0, 1) := by decide +kernel
theorem dX10_works_184 : decode cX10_works 184 = .ok (.getfield 119, 3) := by decide +kernel
theorem dX10_works_187 : decode cX10_works 187 = .ok (.ifCond .ge 5, 3) := by decide +kernel
theorem dX10_works_190 : decode cX10_works 190 = .ok (.iconst 3, 1) := by decide +kernel
theorem dX10_works_191 : decode cX10_works 191 = .ok (.ireturn, 1) := by decide +kernel
theorem dX10_works_192 : decode cX10_works 192 = .ok (.aload_n 0, 1) := by decide +kernel
theorem dX10_works_193 : decode cX10_works 193 = .ok (.iload_n 1, 1) := by decide +kernel
theorem dX10_works_194 : decode cX10_works 194 = .ok (.iload_n 2, 1) := by decide +kernel
theorem dX10_works_195 : decode cX10_works 195 = .ok (.invokevirtual 122, 3) := by decide +kernel
theorem dX10_works_198 : decode cX10_works 198 = .ok (.iconst 0, 1) := by decide +kernel
theorem dX10_works_199 : decode cX10_works 199 = .ok (.ireturn, 1) := by decide +kernel
theorem dX10_asks_0 : decode cX10_asks 0 = .ok (.aload_n 0, 1) := by decide +kernel
theorem dX10_asks_1 : decode cX10_asks 1 = .ok (.ldc 46, 2) := by decide +kernel
theorem dX10_asks_3 : decode cX10_asks 3 = .ok (.putfield 126, 3) := by decide +kernel
theorem dX10_asks_6 : decode cX10_asks 6 = .ok (.iconst 0, 1) := by decide +kernel
theorem dX10_asks_7 : decode cX10_asks 7 = .ok (.istore_n 3, 1) := by decide +kernel
theorem dX10_asks_8 : decode cX10_asks 8 = .ok (.iload_n 3, 1) := by decide +kernel
theorem dX10_asks_9 : decode cX10_asks 9 = .ok (.aload_n 0, 1) := by decide +kernel
theorem dX10_asks_10 : decode cX10_asks 10 = .ok (.getfield 7, 3) := by decide +kernel
theorem dX10_asks_13 : decode cX10_asks 13 = .ok (.iconst 5, 1) := by decide +kernel
theorem dX10_asks_14 : decode cX10_asks 14 = .ok (.iaload, 1) := by decide +kernel
theorem dX10_asks_15 : decode cX10_asks 15 = .ok (.if_icmp .ge 91, 3) := by decide +kernel
theorem dX10_asks_18 : decode cX10_asks 18 = .ok (.aload_n 0, 1) := by decide +kernel
theorem dX10_asks_19 : decode cX10_asks 19 = .ok (.aload_n 0, 1) := by decide +kernel
theorem dX10_asks_20 : decode cX10_asks 20 = .ok (.getfield 113, 3) := by decide +kernel
theorem dX10_asks_23 : decode cX10_asks 23 = .ok (.iload_n 3, 1) := by decide +kernel
theorem dX10_asks_24 : decode cX10_asks 24 = .ok (.invokevirtual 129, 3) := by decide +kernel
theorem dX10_asks_27 : decode cX10_asks 27 = .ok (.ifCond .eq 73, 3) := by decide +kernel
theorem dX10_asks_30 : decode cX10_asks 30 = .ok (.aload_n 0, 1) := by decide +kernel
theorem dX10_asks_31 : decode cX10_asks 31 = .ok (.aload_n 0, 1) := by decide +kernel
theorem dX10_asks_32 : decode cX10_asks 32 = .ok (.getfield 7, 3) := by decide +kernel
theorem dX10_asks_35 : decode cX10_asks 35 = .ok (.bipush 10, 2) := by decide +kernel
theorem dX10_asks_37 : decode cX10_asks 37 = .ok (.iaload, 1) := by decide +kernel
theorem dX10_asks_38 : decode cX10_asks 38 = .ok (.sipush 1000, 3) := by decide +kernel
theorem dX10_asks_41 : decode cX10_asks 41 = .ok (.iload_n 1, 1) := by decide +kernel
theorem dX10_asks_42 : decode cX10_asks 42 = .ok (.imul, 1) := by decide +kernel
theorem dX10_asks_43 : decode cX10_asks 43 = .ok (.iload_n 3, 1) := by decide +kernel
theorem dX10_asks_44 : decode cX10_asks 44 = .ok (.iadd, 1) := by decide +kernel
theorem dX10_asks_45 : decode cX10_asks 45 = .ok (.ixor, 1) := by decide +kernel
theorem dX10_asks_46 : decode cX10_asks 46 = .ok (.invokestatic 61, 3) := by decide +kernel
theorem dX10_asks_49 : decode cX10_asks 49 = .ok (.putfield 72, 3) := by decide +kernel
theorem dX10_asks_52 : decode cX10_asks 52 = .ok (.aload_n 0, 1) := by decide +kernel
theorem dX10_asks_53 : decode cX10_asks 53 = .ok (.getfield 25, 3) := by decide +kernel
theorem dX10_asks_56 : decode cX10_asks 56 = .ok (.iload_n 3, 1) := by decide +kernel
theorem dX10_asks_57 : decode cX10_asks 57 = .ok (.aload_n 0, 1) := by decide +kernel
theorem dX10_asks_58 : decode cX10_asks 58 = .ok (.iload_n 2, 1) := by decide +kernel
theorem dX10_asks_59 : decode cX10_asks 59 = .ok (.invokevirtual 75, 3) := by decide +kernel
theorem dX10_asks_62 : decode cX10_asks 62 = .ok (.iastore, 1) := by decide +kernel
theorem dX10_asks_63 : decode cX10_asks 63 = .ok (.aload_n 0, 1) := by decide +kernel
theorem dX10_asks_64 : decode cX10_asks 64 = .ok (.aload_n 0, 1) := by decide +kernel
theorem dX10_asks_65 : decode cX10_asks 65 = .ok (.getfield 126, 3) := by decide +kernel
theorem dX10_asks_68 : decode cX10_asks 68 = .ok (.ifCond .lt 21, 3) := by decide +kernel
theorem dX10_asks_71 : decode cX10_asks 71 = .ok (.aload_n 0, 1) := by decide +kernel
theorem dX10_asks_72 : decode cX10_asks 72 = .ok (.getfield 25, 3) := by decide +kernel
theorem dX10_asks_75 : decode cX10_asks 75 = .ok (.iload_n 3, 1) := by decide +kernel
theorem dX10_asks_76 : decode cX10_asks 76 = .ok (.iaload, 1) := by decide +kernel
theorem dX10_asks_77 : decode cX10_asks 77 = .ok (.aload_n 0, 1) := by decide +kernel
theorem dX10_asks_78 : decode cX10_asks 78 = .ok (.getfield 25, 3) := by decide +kernel
theorem dX10_asks_81 : decode cX10_asks 81 = .ok (.aload_n 0, 1) := by decide +kernel
theorem dX10_asks_82 : decode cX10_asks 82 = .ok (.getfield 126, 3) := by decide +kernel
theorem dX10_asks_85 : decode cX10_asks 85 = .ok (.iaload, 1) := by decide +kernel
theorem dX10_asks_86 : decode cX10_asks 86 = .ok (.if_icmp .ge 7, 3) := by decide +kernel
theorem dX10_asks_89 : decode cX10_asks 89 = .ok (.iload_n 3, 1) := by decide +kernel
theorem dX10_asks_90 : decode cX10_asks 90 = .ok (.goto 7, 3) := by decide +kernel
theorem dX10_asks_93 : decode cX10_asks 93 = .ok (.aload_n 0, 1) := by decide +kernel
theorem dX10_asks_94 : decode cX10_asks 94 = .ok (.getfield 126, 3) := by decide +kernel
theorem dX10_asks_97 : decode cX10_asks 97 = .ok (.putfield 126, 3) := by decide +kernel
theorem dX10_asks_100 : decode cX10_asks 100 = .ok (.iinc 3 1, 3) := by decide +kernel
theorem dX10_asks_103 : decode cX10_asks 103 = .ok (.goto (-95), 3) := by decide +kernel
theorem dX10_asks_106 : decode cX10_asks 106 = .ok (.aload_n 0, 1) := by decide +kernel
theorem dX10_asks_107 : decode cX10_asks 107 = .ok (.iconst 0, 1) := by decide +kernel
theorem dX10_asks_108 : decode cX10_asks 108 = .ok (.putfield 132, 3) := by decide +kernel
theorem dX10_asks_111 : decode cX10_asks 111 = .ok (.aload_n 0, 1) := by decide +kernel
theorem dX10_asks_112 : decode cX10_asks 112 = .ok (.iconst 0, 1) := by decide +kernel
theorem dX10_asks_113 : decode cX10_asks 113 = .ok (.putfield 135, 3) := by decide +kernel
theorem dX10_asks_116 : decode cX10_asks 116 = .ok (.ldc 46, 2) := by decide +kernel
theorem dX10_asks_118 : decode cX10_asks 118 = .ok (.istore_n 3, 1) := by decide +kernel
theorem dX10_asks_119 : decode cX10_asks 119 = .ok (.iconst 0, 1) := by decide +kernel
theorem dX10_asks_120 : decode cX10_asks 120 = .ok (.istore 4, 2) := by decide +kernel
theorem dX10_asks_122 : decode cX10_asks 122 = .ok (.iconst 0, 1) := by decide +kernel
theorem dX10_asks_123 : decode cX10_asks 123 = .ok (.istore 5, 2) := by decide +kernel
theorem dX10_asks_125 : decode cX10_asks 125 = .ok (.iload 5, 2) := by decide +kernel
theorem dX10_asks_127 : decode cX10_asks 127 = .ok (.aload_n 0, 1) := by decide +kernel
theorem dX10_asks_128 : decode cX10_asks 128 = .ok (.getfield 7, 3) := by decide +kernel
theorem dX10_asks_131 : decode cX10_asks 131 = .ok (.iconst 5, 1) := by decide +kernel
theorem dX10_asks_132 : decode cX10_asks 132 = .ok (.iaload, 1) := by decide +kernel
theorem dX10_asks_133 : decode cX10_asks 133 = .ok (.if_icmp .ge 177, 3) := by decide +kernel
theorem dX10_asks_136 : decode cX10_asks 136 = .ok (.aload_n 0, 1) := by decide +kernel
theorem dX10_asks_137 : decode cX10_asks 137 = .ok (.aload_n 0, 1) := by decide +kernel
theorem dX10_asks_138 : decode cX10_asks 138 = .ok (.getfield 113, 3) := by decide +kernel
theorem dX10_asks_141 : decode cX10_asks 141 = .ok (.iload 5, 2) := by decide +kernel
theorem dX10_asks_143 : decode cX10_asks 143 = .ok (.invokevirtual 129, 3) := by decide +kernel
theorem dX10_asks_146 : decode cX10_asks 146 = .ok (.ifCond .eq 158, 3) := by decide +kernel
theorem dX10_asks_149 : decode cX10_asks 149 = .ok (.aload_n 0, 1) := by decide +kernel
theorem dX10_asks_150 : decode cX10_asks 150 = .ok (.getfield 25, 3) := by decide +kernel
theorem dX10_asks_153 : decode cX10_asks 153 = .ok (.iload 5, 2) := by decide +kernel
theorem dX10_asks_155 : decode cX10_asks 155 = .ok (.iaload, 1) := by decide +kernel
theorem dX10_asks_156 : decode cX10_asks 156 = .ok (.aload_n 0, 1) := by decide +kernel
theorem dX10_asks_157 : decode cX10_asks 157 = .ok (.getfield 25, 3) := by decide +kernel
theorem dX10_asks_160 : decode cX10_asks 160 = .ok (.aload_n 0, 1) := by decide +kernel
theorem dX10_asks_161 : decode cX10_asks 161 = .ok (.getfield 126, 3) := by decide +kernel
theorem dX10_asks_164 : decode cX10_asks 164 = .ok (.iaload, 1) := by decide +kernel
theorem dX10_asks_165 : decode cX10_asks 165 = .ok (.aload_n 0, 1) := by decide +kernel
theorem dX10_asks_166 : decode cX10_asks 166 = .ok (.aload_n 0, 1) := by decide +kernel
theorem dX10_asks_167 : decode cX10_asks 167 = .ok (.getfield 126, 3) := by decide +kernel
theorem dX10_asks_170 : decode cX10_asks 170 = .ok (.iload 5, 2) := by decide +kernel
theorem dX10_asks_172 : decode cX10_asks 172 = .ok (.invokevirtual 138, 3) := by decide +kernel
theorem dX10_asks_175 : decode cX10_asks 175 = .ok (.iadd, 1) := by decide +kernel
theorem dX10_asks_176 : decode cX10_asks 176 = .ok (.if_icmp .le 7, 3) := by decide +kernel
theorem dX10_asks_179 : decode cX10_asks 179 = .ok (.iconst 1, 1) := by decide +kernel
theorem dX10_asks_180 : decode cX10_asks 180 = .ok (.goto 4, 3) := by decide +kernel
theorem dX10_asks_183 : decode cX10_asks 183 = .ok (.iconst 0, 1) := by decide +kernel
theorem dX10_asks_184 : decode cX10_asks 184 = .ok (.istore 6, 2) := by decide +kernel
theorem dX10_asks_186 : decode cX10_asks 186 = .ok (.aload_n 0, 1) := by decide +kernel
theorem dX10_asks_187 : decode cX10_asks 187 = .ok (.dup, 1) := by decide +kernel
theorem dX10_asks_188 : decode cX10_asks 188 = .ok (.getfield 135, 3) := by decide +kernel
theorem dX10_asks_191 : decode cX10_asks 191 = .ok (.iload 6, 2) := by decide +kernel
theorem dX10_asks_193 : decode cX10_asks 193 = .ok (.ifCond .eq 10, 3) := by decide +kernel
theorem dX10_asks_196 : decode cX10_asks 196 = .ok (.iconst 1, 1) := by decide +kernel
theorem dX10_asks_197 : decode cX10_asks 197 = .ok (.iload 5, 2) := by decide +kernel
theorem dX10_asks_199 : decode cX10_asks 199 = .ok (.ishl, 1) := by decide +kernel
theorem dX10_asks_200 : decode cX10_asks 200 = .ok (.goto 4, 3) := by decide +kernel
theorem dX10_asks_203 : decode cX10_asks 203 = .ok (.iconst 0, 1) := by decide +kernel
theorem dX10_asks_204 : decode cX10_asks 204 = .ok (.ior, 1) := by decide +kernel
theorem dX10_asks_205 : decode cX10_asks 205 = .ok (.putfield 135, 3) := by decide +kernel
theorem dX10_asks_208 : decode cX10_asks 208 = .ok (.aload_n 0, 1) := by decide +kernel
theorem dX10_asks_209 : decode cX10_asks 209 = .ok (.dup, 1) := by decide +kernel
theorem dX10_asks_210 : decode cX10_asks 210 = .ok (.getfield 132, 3) := by decide +kernel
theorem dX10_asks_213 : decode cX10_asks 213 = .ok (.iload 6, 2) := by decide +kernel
theorem dX10_asks_215 : decode cX10_asks 215 = .ok (.ifCond .eq 7, 3) := by decide +kernel
theorem dX10_asks_218 : decode cX10_asks 218 = .ok (.iconst 0, 1) := by decide +kernel
theorem dX10_asks_219 : decode cX10_asks 219 = .ok (.goto 7, 3) := by decide +kernel
theorem dX10_asks_222 : decode cX10_asks 222 = .ok (.iconst 1, 1) := by decide +kernel
theorem dX10_asks_223 : decode cX10_asks 223 = .ok (.iload 5, 2) := by decide +kernel
theorem dX10_asks_225 : decode cX10_asks 225 = .ok (.ishl, 1) := by decide +kernel
theorem dX10_asks_226 : decode cX10_asks 226 = .ok (.ior, 1) := by decide +kernel
theorem dX10_asks_227 : decode cX10_asks 227 = .ok (.putfield 132, 3) := by decide +kernel
theorem dX10_asks_230 : decode cX10_asks 230 = .ok (.aload_n 0, 1) := by decide +kernel
theorem dX10_asks_231 : decode cX10_asks 231 = .ok (.getfield 25, 3) := by decide +kernel
theorem dX10_asks_234 : decode cX10_asks 234 = .ok (.iload 5, 2) := by decide +kernel
theorem dX10_asks_236 : decode cX10_asks 236 = .ok (.iaload, 1) := by decide +kernel
theorem dX10_asks_237 : decode cX10_asks 237 = .ok (.aload_n 0, 1) := by decide +kernel
theorem dX10_asks_238 : decode cX10_asks 238 = .ok (.iload 5, 2) := by decide +kernel
theorem dX10_asks_240 : decode cX10_asks 240 = .ok (.aload_n 0, 1) := by decide +kernel
theorem dX10_asks_241 : decode cX10_asks 241 = .ok (.getfield 119, 3) := by decide +kernel
theorem dX10_asks_244 : decode cX10_asks 244 = .ok (.invokevirtual 138, 3) := by decide +kernel
theorem dX10_asks_247 : decode cX10_asks 247 = .ok (.iadd, 1) := by decide +kernel
theorem dX10_asks_248 : decode cX10_asks 248 = .ok (.istore 7, 2) := by decide +kernel
theorem dX10_asks_250 : decode cX10_asks 250 = .ok (.iload 6, 2) := by decide +kernel
theorem dX10_asks_252 : decode cX10_asks 252 = .ok (.ifCond .ne 18, 3) := by decide +kernel
theorem dX10_asks_255 : decode cX10_asks 255 = .ok (.iload_n 3, 1) := by decide +kernel
theorem dX10_asks_256 : decode cX10_asks 256 = .ok (.ifCond .lt 9, 3) := by decide +kernel
theorem dX10_asks_259 : decode cX10_asks 259 = .ok (.iload 7, 2) := by decide +kernel
theorem dX10_asks_261 : decode cX10_asks 261 = .ok (.iload_n 3, 1) := by decide +kernel
theorem dX10_asks_262 : decode cX10_asks 262 = .ok (.if_icmp .ge 8, 3) := by decide +kernel
theorem dX10_asks_265 : decode cX10_asks 265 = .ok (.iload 7, 2) := by decide +kernel
theorem dX10_asks_267 : decode cX10_asks 267 = .ok (.goto 4, 3) := by decide +kernel
theorem dX10_asks_270 : decode cX10_asks 270 = .ok (.iload_n 3, 1) := by decide +kernel
theorem dX10_asks_271 : decode cX10_asks 271 = .ok (.istore_n 3, 1) := by decide +kernel
theorem dX10_asks_272 : decode cX10_asks 272 = .ok (.aload_n 0, 1) := by decide +kernel
theorem dX10_asks_273 : decode cX10_asks 273 = .ok (.aload_n 0, 1) := by decide +kernel
theorem dX10_asks_274 : decode cX10_asks 274 = .ok (.getfield 119, 3) := by decide +kernel
theorem dX10_asks_277 : decode cX10_asks 277 = .ok (.iload 5, 2) := by decide +kernel
theorem dX10_asks_279 : decode cX10_asks 279 = .ok (.invokevirtual 138, 3) := by decide +kernel
theorem dX10_asks_282 : decode cX10_asks 282 = .ok (.iload 4, 2) := by decide +kernel
theorem dX10_asks_284 : decode cX10_asks 284 = .ok (.if_icmp .le 16, 3) := by decide +kernel
theorem dX10_asks_287 : decode cX10_asks 287 = .ok (.aload_n 0, 1) := by decide +kernel
theorem dX10_asks_288 : decode cX10_asks 288 = .ok (.aload_n 0, 1) := by decide +kernel
theorem dX10_asks_289 : decode cX10_asks 289 = .ok (.getfield 119, 3) := by decide +kernel
theorem dX10_asks_292 : decode cX10_asks 292 = .ok (.iload 5, 2) := by decide +kernel
theorem dX10_asks_294 : decode cX10_asks 294 = .ok (.invokevirtual 138, 3) := by decide +kernel
theorem dX10_asks_297 : decode cX10_asks 297 = .ok (.goto 5, 3) := by decide +kernel
theorem dX10_asks_300 : decode cX10_asks 300 = .ok (.iload 4, 2) := by decide +kernel
theorem dX10_asks_302 : decode cX10_asks 302 = .ok (.istore 4, 2) := by decide +kernel
theorem dX10_asks_304 : decode cX10_asks 304 = .ok (.iinc 5 1, 3) := by decide +kernel
theorem dX10_asks_307 : decode cX10_asks 307 = .ok (.goto (-182), 3) := by decide +kernel
theorem dX10_asks_310 : decode cX10_asks 310 = .ok (.aload_n 0, 1) := by decide +kernel
theorem dX10_asks_311 : decode cX10_asks 311 = .ok (.iload_n 3, 1) := by decide +kernel
theorem dX10_asks_312 : decode cX10_asks 312 = .ok (.aload_n 0, 1) := by decide +kernel
theorem dX10_asks_313 : decode cX10_asks 313 = .ok (.getfield 7, 3) := by decide +kernel
theorem dX10_asks_316 : decode cX10_asks 316 = .ok (.iconst 1, 1) := by decide +kernel
theorem dX10_asks_317 : decode cX10_asks 317 = .ok (.iaload, 1) := by decide +kernel
theorem dX10_asks_318 : decode cX10_asks 318 = .ok (.aload_n 0, 1) := by decide +kernel
theorem dX10_asks_319 : decode cX10_asks 319 = .ok (.getfield 7, 3) := by decide +kernel
theorem dX10_asks_322 : decode cX10_asks 322 = .ok (.aload_n 0, 1) := by decide +kernel
theorem dX10_asks_323 : decode cX10_asks 323 = .ok (.getfield 119, 3) := by decide +kernel
theorem dX10_asks_326 : decode cX10_asks 326 = .ok (.iconst 4, 1) := by decide +kernel
theorem dX10_asks_327 : decode cX10_asks 327 = .ok (.invokestatic 42, 3) := by decide +kernel
theorem dX10_asks_330 : decode cX10_asks 330 = .ok (.iaload, 1) := by decide +kernel
theorem dX10_asks_331 : decode cX10_asks 331 = .ok (.imul, 1) := by decide +kernel
theorem dX10_asks_332 : decode cX10_asks 332 = .ok (.iadd, 1) := by decide +kernel
theorem dX10_asks_333 : decode cX10_asks 333 = .ok (.putfield 141, 3) := by decide +kernel
theorem dX10_asks_336 : decode cX10_asks 336 = .ok (.aload_n 0, 1) := by decide +kernel
theorem dX10_asks_337 : decode cX10_asks 337 = .ok (.aload_n 0, 1) := by decide +kernel
theorem dX10_asks_338 : decode cX10_asks 338 = .ok (.getfield 141, 3) := by decide +kernel
theorem dX10_asks_341 : decode cX10_asks 341 = .ok (.iload 4, 2) := by decide +kernel
theorem dX10_asks_343 : decode cX10_asks 343 = .ok (.iadd, 1) := by decide +kernel
theorem dX10_asks_344 : decode cX10_asks 344 = .ok (.putfield 144, 3) := by decide +kernel
theorem dX10_asks_347 : decode cX10_asks 347 = .ok (.return_, 1) := by decide +kernel
theorem dX10_many_0 : decode cX10_many 0 = .ok (.iconst 0, 1) := by decide +kernel
theorem dX10_many_1 : decode cX10_many 1 = .ok (.istore_n 1, 1) := by decide +kernel
theorem dX10_many_2 : decode cX10_many 2 = .ok (.iconst 0, 1) := by decide +kernel
theorem dX10_many_3 : decode cX10_many 3 = .ok (.istore_n 2, 1) := by decide +kernel
theorem dX10_many_4 : decode cX10_many 4 = .ok (.iload_n 2, 1) := by decide +kernel
theorem dX10_many_5 : decode cX10_many 5 = .ok (.bipush 10, 2) := by decide +kernel
theorem dX10_many_7 : decode cX10_many 7 = .ok (.if_icmp .ge 17, 3) := by decide +kernel
theorem dX10_many_10 : decode cX10_many 10 = .ok (.iload_n 1, 1) := by decide +kernel
theorem dX10_many_11 : decode cX10_many 11 = .ok (.iload_n 0, 1) := by decide +kernel
theorem dX10_many_12 : decode cX10_many 12 = .ok (.iload_n 2, 1) := by decide +kernel
theorem dX10_many_13 : decode cX10_many 13 = .ok (.ishr, 1) := by decide +kernel
theorem dX10_many_14 : decode cX10_many 14 = .ok (.iconst 1, 1) := by decide +kernel
theorem dX10_many_15 : decode cX10_many 15 = .ok (.iand, 1) := by decide +kernel
theorem dX10_many_16 : decode cX10_many 16 = .ok (.iadd, 1) := by decide +kernel
theorem dX10_many_17 : decode cX10_many 17 = .ok (.istore_n 1, 1) := by decide +kernel
theorem dX10_many_18 : decode cX10_many 18 = .ok (.iinc 2 1, 3) := by decide +kernel
theorem dX10_many_21 : decode cX10_many 21 = .ok (.goto (-17), 3) := by decide +kernel
theorem dX10_many_24 : decode cX10_many 24 = .ok (.iload_n 1, 1) := by decide +kernel
theorem dX10_many_25 : decode cX10_many 25 = .ok (.ireturn, 1) := by decide +kernel
theorem dX10_makes_0 : decode cX10_makes 0 = .ok (.aload_n 0, 1) := by decide +kernel
theorem dX10_makes_1 : decode cX10_makes 1 = .ok (.getfield 7, 3) := by decide +kernel
theorem dX10_makes_4 : decode cX10_makes 4 = .ok (.sipush 150, 3) := by decide +kernel
theorem dX10_makes_7 : decode cX10_makes 7 = .ok (.iload_n 1, 1) := by decide +kernel
theorem dX10_makes_8 : decode cX10_makes 8 = .ok (.iadd, 1) := by decide +kernel
theorem dX10_makes_9 : decode cX10_makes 9 = .ok (.dup2, 1) := by decide +kernel
theorem dX10_makes_10 : decode cX10_makes 10 = .ok (.iaload, 1) := by decide +kernel
theorem dX10_makes_11 : decode cX10_makes 11 = .ok (.aload_n 0, 1) := by decide +kernel
theorem dX10_makes_12 : decode cX10_makes 12 = .ok (.getfield 113, 3) := by decide +kernel
theorem dX10_makes_15 : decode cX10_makes 15 = .ok (.iconst (-1), 1) := by decide +kernel
theorem dX10_makes_16 : decode cX10_makes 16 = .ok (.ixor, 1) := by decide +kernel
theorem dX10_makes_17 : decode cX10_makes 17 = .ok (.iand, 1) := by decide +kernel
theorem dX10_makes_18 : decode cX10_makes 18 = .ok (.iastore, 1) := by decide +kernel
theorem dX10_makes_19 : decode cX10_makes 19 = .ok (.aload_n 0, 1) := by decide +kernel
theorem dX10_makes_20 : decode cX10_makes 20 = .ok (.getfield 7, 3) := by decide +kernel
theorem dX10_makes_23 : decode cX10_makes 23 = .ok (.aload_n 0, 1) := by decide +kernel
theorem dX10_makes_24 : decode cX10_makes 24 = .ok (.getfield 119, 3) := by decide +kernel
theorem dX10_makes_27 : decode cX10_makes 27 = .ok (.iconst 3, 1) := by decide +kernel
theorem dX10_makes_28 : decode cX10_makes 28 = .ok (.invokestatic 42, 3) := by decide +kernel
theorem dX10_makes_31 : decode cX10_makes 31 = .ok (.dup2, 1) := by decide +kernel
theorem dX10_makes_32 : decode cX10_makes 32 = .ok (.iaload, 1) := by decide +kernel
theorem dX10_makes_33 : decode cX10_makes 33 = .ok (.aload_n 0, 1) := by decide +kernel
theorem dX10_makes_34 : decode cX10_makes 34 = .ok (.getfield 7, 3) := by decide +kernel
theorem dX10_makes_37 : decode cX10_makes 37 = .ok (.iconst 3, 1) := by decide +kernel
theorem dX10_makes_38 : decode cX10_makes 38 = .ok (.iaload, 1) := by decide +kernel
theorem dX10_makes_39 : decode cX10_makes 39 = .ok (.iadd, 1) := by decide +kernel
theorem dX10_makes_40 : decode cX10_makes 40 = .ok (.iastore, 1) := by decide +kernel
theorem dX10_makes_41 : decode cX10_makes 41 = .ok (.aload_n 0, 1) := by decide +kernel
theorem dX10_makes_42 : decode cX10_makes 42 = .ok (.getfield 7, 3) := by decide +kernel
theorem dX10_makes_45 : decode cX10_makes 45 = .ok (.aload_n 0, 1) := by decide +kernel
theorem dX10_makes_46 : decode cX10_makes 46 = .ok (.getfield 119, 3) := by decide +kernel
theorem dX10_makes_49 : decode cX10_makes 49 = .ok (.bipush 6, 2) := by decide +kernel
theorem dX10_makes_51 : decode cX10_makes 51 = .ok (.invokestatic 42, 3) := by decide +kernel
theorem dX10_makes_54 : decode cX10_makes 54 = .ok (.dup2, 1) := by decide +kernel
theorem dX10_makes_55 : decode cX10_makes 55 = .ok (.iaload, 1) := by decide +kernel
theorem dX10_makes_56 : decode cX10_makes 56 = .ok (.iconst 1, 1) := by decide +kernel
theorem dX10_makes_57 : decode cX10_makes 57 = .ok (.iadd, 1) := by decide +kernel
theorem dX10_makes_58 : decode cX10_makes 58 = .ok (.iastore, 1) := by decide +kernel
theorem dX10_makes_59 : decode cX10_makes 59 = .ok (.iconst 0, 1) := by decide +kernel
theorem dX10_makes_60 : decode cX10_makes 60 = .ok (.istore_n 2, 1) := by decide +kernel
theorem dX10_makes_61 : decode cX10_makes 61 = .ok (.iload_n 2, 1) := by decide +kernel
theorem dX10_makes_62 : decode cX10_makes 62 = .ok (.aload_n 0, 1) := by decide +kernel
theorem dX10_makes_63 : decode cX10_makes 63 = .ok (.getfield 7, 3) := by decide +kernel
theorem dX10_makes_66 : decode cX10_makes 66 = .ok (.iconst 5, 1) := by decide +kernel
theorem dX10_makes_67 : decode cX10_makes 67 = .ok (.iaload, 1) := by decide +kernel
theorem dX10_makes_68 : decode cX10_makes 68 = .ok (.if_icmp .ge 75, 3) := by decide +kernel
theorem dX10_makes_71 : decode cX10_makes 71 = .ok (.aload_n 0, 1) := by decide +kernel
theorem dX10_makes_72 : decode cX10_makes 72 = .ok (.getfield 7, 3) := by decide +kernel
theorem dX10_makes_75 : decode cX10_makes 75 = .ok (.iload_n 2, 1) := by decide +kernel
theorem dX10_makes_76 : decode cX10_makes 76 = .ok (.iconst 3, 1) := by decide +kernel
theorem dX10_makes_77 : decode cX10_makes 77 = .ok (.invokestatic 42, 3) := by decide +kernel
theorem dX10_makes_80 : decode cX10_makes 80 = .ok (.dup2, 1) := by decide +kernel
theorem dX10_makes_81 : decode cX10_makes 81 = .ok (.iaload, 1) := by decide +kernel
theorem dX10_makes_82 : decode cX10_makes 82 = .ok (.aload_n 0, 1) := by decide +kernel
theorem dX10_makes_83 : decode cX10_makes 83 = .ok (.aload_n 0, 1) := by decide +kernel
theorem dX10_makes_84 : decode cX10_makes 84 = .ok (.getfield 116, 3) := by decide +kernel
theorem dX10_makes_87 : decode cX10_makes 87 = .ok (.iload_n 2, 1) := by decide +kernel
theorem dX10_makes_88 : decode cX10_makes 88 = .ok (.invokevirtual 129, 3) := by decide +kernel
theorem dX10_makes_91 : decode cX10_makes 91 = .ok (.ifCond .eq 12, 3) := by decide +kernel
theorem dX10_makes_94 : decode cX10_makes 94 = .ok (.aload_n 0, 1) := by decide +kernel
theorem dX10_makes_95 : decode cX10_makes 95 = .ok (.getfield 7, 3) := by decide +kernel
theorem dX10_makes_98 : decode cX10_makes 98 = .ok (.iconst 4, 1) := by decide +kernel
theorem dX10_makes_99 : decode cX10_makes 99 = .ok (.iaload, 1) := by decide +kernel
theorem dX10_makes_100 : decode cX10_makes 100 = .ok (.goto 4, 3) := by decide +kernel
theorem dX10_makes_103 : decode cX10_makes 103 = .ok (.iconst 0, 1) := by decide +kernel
theorem dX10_makes_104 : decode cX10_makes 104 = .ok (.isub, 1) := by decide +kernel
theorem dX10_makes_105 : decode cX10_makes 105 = .ok (.iastore, 1) := by decide +kernel
theorem dX10_makes_106 : decode cX10_makes 106 = .ok (.aload_n 0, 1) := by decide +kernel
theorem dX10_makes_107 : decode cX10_makes 107 = .ok (.getfield 7, 3) := by decide +kernel
theorem dX10_makes_110 : decode cX10_makes 110 = .ok (.iload_n 2, 1) := by decide +kernel
theorem dX10_makes_111 : decode cX10_makes 111 = .ok (.bipush 7, 2) := by decide +kernel
theorem dX10_makes_113 : decode cX10_makes 113 = .ok (.invokestatic 42, 3) := by decide +kernel
theorem dX10_makes_116 : decode cX10_makes 116 = .ok (.dup2, 1) := by decide +kernel
theorem dX10_makes_117 : decode cX10_makes 117 = .ok (.iaload, 1) := by decide +kernel
theorem dX10_makes_118 : decode cX10_makes 118 = .ok (.aload_n 0, 1) := by decide +kernel
theorem dX10_makes_119 : decode cX10_makes 119 = .ok (.aload_n 0, 1) := by decide +kernel
theorem dX10_makes_120 : decode cX10_makes 120 = .ok (.getfield 116, 3) := by decide +kernel
theorem dX10_makes_123 : decode cX10_makes 123 = .ok (.iload_n 2, 1) := by decide +kernel
theorem dX10_makes_124 : decode cX10_makes 124 = .ok (.invokevirtual 129, 3) := by decide +kernel
theorem dX10_makes_127 : decode cX10_makes 127 = .ok (.ifCond .eq 7, 3) := by decide +kernel
theorem dX10_makes_130 : decode cX10_makes 130 = .ok (.iconst 1, 1) := by decide +kernel
theorem dX10_makes_131 : decode cX10_makes 131 = .ok (.goto 4, 3) := by decide +kernel
theorem dX10_makes_134 : decode cX10_makes 134 = .ok (.iconst 0, 1) := by decide +kernel
theorem dX10_makes_135 : decode cX10_makes 135 = .ok (.iadd, 1) := by decide +kernel
theorem dX10_makes_136 : decode cX10_makes 136 = .ok (.iastore, 1) := by decide +kernel
theorem dX10_makes_137 : decode cX10_makes 137 = .ok (.iinc 2 1, 3) := by decide +kernel
theorem dX10_makes_140 : decode cX10_makes 140 = .ok (.goto (-79), 3) := by decide +kernel
theorem dX10_makes_143 : decode cX10_makes 143 = .ok (.sipush 360, 3) := by decide +kernel
theorem dX10_makes_146 : decode cX10_makes 146 = .ok (.bipush 7, 2) := by decide +kernel
theorem dX10_makes_148 : decode cX10_makes 148 = .ok (.aload_n 0, 1) := by decide +kernel
theorem dX10_makes_149 : decode cX10_makes 149 = .ok (.getfield 7, 3) := by decide +kernel
theorem dX10_makes_152 : decode cX10_makes 152 = .ok (.bipush 7, 2) := by decide +kernel
theorem dX10_makes_154 : decode cX10_makes 154 = .ok (.iaload, 1) := by decide +kernel
theorem dX10_makes_155 : decode cX10_makes 155 = .ok (.bipush 20, 2) := by decide +kernel
theorem dX10_makes_157 : decode cX10_makes 157 = .ok (.irem, 1) := by decide +kernel
theorem dX10_makes_158 : decode cX10_makes 158 = .ok (.imul, 1) := by decide +kernel
theorem dX10_makes_159 : decode cX10_makes 159 = .ok (.iadd, 1) := by decide +kernel
theorem dX10_makes_160 : decode cX10_makes 160 = .ok (.istore_n 2, 1) := by decide +kernel
theorem dX10_makes_161 : decode cX10_makes 161 = .ok (.aload_n 0, 1) := by decide +kernel
theorem dX10_makes_162 : decode cX10_makes 162 = .ok (.getfield 7, 3) := by decide +kernel
theorem dX10_makes_165 : decode cX10_makes 165 = .ok (.iload_n 2, 1) := by decide +kernel
theorem dX10_makes_166 : decode cX10_makes 166 = .ok (.iload_n 1, 1) := by decide +kernel
theorem dX10_makes_167 : decode cX10_makes 167 = .ok (.iastore, 1) := by decide +kernel
theorem dX10_makes_168 : decode cX10_makes 168 = .ok (.aload_n 0, 1) := by decide +kernel
theorem dX10_makes_169 : decode cX10_makes 169 = .ok (.getfield 7, 3) := by decide +kernel
theorem dX10_makes_172 : decode cX10_makes 172 = .ok (.iload_n 2, 1) := by decide +kernel
theorem dX10_makes_173 : decode cX10_makes 173 = .ok (.iconst 1, 1) := by decide +kernel
theorem dX10_makes_174 : decode cX10_makes 174 = .ok (.iadd, 1) := by decide +kernel
theorem dX10_makes_175 : decode cX10_makes 175 = .ok (.aload_n 0, 1) := by decide +kernel
theorem dX10_makes_176 : decode cX10_makes 176 = .ok (.getfield 7, 3) := by decide +kernel
theorem dX10_makes_179 : decode cX10_makes 179 = .ok (.bipush 6, 2) := by decide +kernel
theorem dX10_makes_181 : decode cX10_makes 181 = .ok (.iaload, 1) := by decide +kernel
theorem dX10_makes_182 : decode cX10_makes 182 = .ok (.iastore, 1) := by decide +kernel
theorem dX10_makes_183 : decode cX10_makes 183 = .ok (.aload_n 0, 1) := by decide +kernel
theorem dX10_makes_184 : decode cX10_makes 184 = .ok (.getfield 7, 3) := by decide +kernel
theorem dX10_makes_187 : decode cX10_makes 187 = .ok (.iload_n 2, 1) := by decide +kernel
end
section
theorem dX10_makes_188 : decode cX10_makes 188 = .ok (.iconst 2, 1) := by decide +kernel
theorem dX10_makes_189 : decode cX10_makes 189 = .ok (.iadd, 1) := by decide +kernel
theorem dX10_makes_190 : decode cX10_makes 190 = .ok (.aload_n 0, 1) := by decide +kernel
theorem dX10_makes_191 : decode cX10_makes 191 = .ok (.getfield 119, 3) := by decide +kernel
theorem dX10_makes_194 : decode cX10_makes 194 = .ok (.iastore, 1) := by decide +kernel
theorem dX10_makes_195 : decode cX10_makes 195 = .ok (.aload_n 0, 1) := by decide +kernel
theorem dX10_makes_196 : decode cX10_makes 196 = .ok (.getfield 7, 3) := by decide +kernel
theorem dX10_makes_199 : decode cX10_makes 199 = .ok (.iload_n 2, 1) := by decide +kernel
theorem dX10_makes_200 : decode cX10_makes 200 = .ok (.iconst 3, 1) := by decide +kernel
theorem dX10_makes_201 : decode cX10_makes 201 = .ok (.iadd, 1) := by decide +kernel
theorem dX10_makes_202 : decode cX10_makes 202 = .ok (.aload_n 0, 1) := by decide +kernel
theorem dX10_makes_203 : decode cX10_makes 203 = .ok (.getfield 132, 3) := by decide +kernel
theorem dX10_makes_206 : decode cX10_makes 206 = .ok (.iastore, 1) := by decide +kernel
theorem dX10_makes_207 : decode cX10_makes 207 = .ok (.aload_n 0, 1) := by decide +kernel
theorem dX10_makes_208 : decode cX10_makes 208 = .ok (.getfield 7, 3) := by decide +kernel
theorem dX10_makes_211 : decode cX10_makes 211 = .ok (.iload_n 2, 1) := by decide +kernel
theorem dX10_makes_212 : decode cX10_makes 212 = .ok (.iconst 4, 1) := by decide +kernel
theorem dX10_makes_213 : decode cX10_makes 213 = .ok (.iadd, 1) := by decide +kernel
theorem dX10_makes_214 : decode cX10_makes 214 = .ok (.aload_n 0, 1) := by decide +kernel
theorem dX10_makes_215 : decode cX10_makes 215 = .ok (.getfield 135, 3) := by decide +kernel
theorem dX10_makes_218 : decode cX10_makes 218 = .ok (.iastore, 1) := by decide +kernel
theorem dX10_makes_219 : decode cX10_makes 219 = .ok (.aload_n 0, 1) := by decide +kernel
theorem dX10_makes_220 : decode cX10_makes 220 = .ok (.getfield 7, 3) := by decide +kernel
theorem dX10_makes_223 : decode cX10_makes 223 = .ok (.iload_n 2, 1) := by decide +kernel
theorem dX10_makes_224 : decode cX10_makes 224 = .ok (.iconst 5, 1) := by decide +kernel
theorem dX10_makes_225 : decode cX10_makes 225 = .ok (.iadd, 1) := by decide +kernel
theorem dX10_makes_226 : decode cX10_makes 226 = .ok (.aload_n 0, 1) := by decide +kernel
theorem dX10_makes_227 : decode cX10_makes 227 = .ok (.getfield 116, 3) := by decide +kernel
theorem dX10_makes_230 : decode cX10_makes 230 = .ok (.iastore, 1) := by decide +kernel
theorem dX10_makes_231 : decode cX10_makes 231 = .ok (.aload_n 0, 1) := by decide +kernel
theorem dX10_makes_232 : decode cX10_makes 232 = .ok (.getfield 7, 3) := by decide +kernel
theorem dX10_makes_235 : decode cX10_makes 235 = .ok (.iload_n 2, 1) := by decide +kernel
theorem dX10_makes_236 : decode cX10_makes 236 = .ok (.bipush 6, 2) := by decide +kernel
theorem dX10_makes_238 : decode cX10_makes 238 = .ok (.iadd, 1) := by decide +kernel
theorem dX10_makes_239 : decode cX10_makes 239 = .ok (.aload_n 0, 1) := by decide +kernel
theorem dX10_makes_240 : decode cX10_makes 240 = .ok (.getfield 144, 3) := by decide +kernel
theorem dX10_makes_243 : decode cX10_makes 243 = .ok (.iastore, 1) := by decide +kernel
theorem dX10_makes_244 : decode cX10_makes 244 = .ok (.aload_n 0, 1) := by decide +kernel
theorem dX10_makes_245 : decode cX10_makes 245 = .ok (.getfield 7, 3) := by decide +kernel
theorem dX10_makes_248 : decode cX10_makes 248 = .ok (.bipush 7, 2) := by decide +kernel
theorem dX10_makes_250 : decode cX10_makes 250 = .ok (.dup2, 1) := by decide +kernel
theorem dX10_makes_251 : decode cX10_makes 251 = .ok (.iaload, 1) := by decide +kernel
theorem dX10_makes_252 : decode cX10_makes 252 = .ok (.iconst 1, 1) := by decide +kernel
theorem dX10_makes_253 : decode cX10_makes 253 = .ok (.iadd, 1) := by decide +kernel
theorem dX10_makes_254 : decode cX10_makes 254 = .ok (.iastore, 1) := by decide +kernel
theorem dX10_makes_255 : decode cX10_makes 255 = .ok (.aload_n 0, 1) := by decide +kernel
theorem dX10_makes_256 : decode cX10_makes 256 = .ok (.getfield 7, 3) := by decide +kernel
theorem dX10_makes_259 : decode cX10_makes 259 = .ok (.bipush 8, 2) := by decide +kernel
theorem dX10_makes_261 : decode cX10_makes 261 = .ok (.dup2, 1) := by decide +kernel
theorem dX10_makes_262 : decode cX10_makes 262 = .ok (.iaload, 1) := by decide +kernel
theorem dX10_makes_263 : decode cX10_makes 263 = .ok (.aload_n 0, 1) := by decide +kernel
theorem dX10_makes_264 : decode cX10_makes 264 = .ok (.getfield 132, 3) := by decide +kernel
theorem dX10_makes_267 : decode cX10_makes 267 = .ok (.invokestatic 147, 3) := by decide +kernel
theorem dX10_makes_270 : decode cX10_makes 270 = .ok (.iadd, 1) := by decide +kernel
theorem dX10_makes_271 : decode cX10_makes 271 = .ok (.iastore, 1) := by decide +kernel
theorem dX10_makes_272 : decode cX10_makes 272 = .ok (.aload_n 0, 1) := by decide +kernel
theorem dX10_makes_273 : decode cX10_makes 273 = .ok (.getfield 7, 3) := by decide +kernel
theorem dX10_makes_276 : decode cX10_makes 276 = .ok (.bipush 9, 2) := by decide +kernel
theorem dX10_makes_278 : decode cX10_makes 278 = .ok (.dup2, 1) := by decide +kernel
theorem dX10_makes_279 : decode cX10_makes 279 = .ok (.iaload, 1) := by decide +kernel
theorem dX10_makes_280 : decode cX10_makes 280 = .ok (.aload_n 0, 1) := by decide +kernel
theorem dX10_makes_281 : decode cX10_makes 281 = .ok (.getfield 135, 3) := by decide +kernel
theorem dX10_makes_284 : decode cX10_makes 284 = .ok (.invokestatic 147, 3) := by decide +kernel
theorem dX10_makes_287 : decode cX10_makes 287 = .ok (.iadd, 1) := by decide +kernel
theorem dX10_makes_288 : decode cX10_makes 288 = .ok (.iastore, 1) := by decide +kernel
theorem dX10_makes_289 : decode cX10_makes 289 = .ok (.return_, 1) := by decide +kernel
theorem dX10_repair_0 : decode cX10_repair 0 = .ok (.iload_n 1, 1) := by decide +kernel
theorem dX10_repair_1 : decode cX10_repair 1 = .ok (.invokestatic 87, 3) := by decide +kernel
theorem dX10_repair_4 : decode cX10_repair 4 = .ok (.ifCond .ne 6, 3) := by decide +kernel
theorem dX10_repair_7 : decode cX10_repair 7 = .ok (.ldc 40, 2) := by decide +kernel
theorem dX10_repair_9 : decode cX10_repair 9 = .ok (.ireturn, 1) := by decide +kernel
theorem dX10_repair_10 : decode cX10_repair 10 = .ok (.aload_n 0, 1) := by decide +kernel
theorem dX10_repair_11 : decode cX10_repair 11 = .ok (.iload_n 1, 1) := by decide +kernel
theorem dX10_repair_12 : decode cX10_repair 12 = .ok (.aload_n 0, 1) := by decide +kernel
theorem dX10_repair_13 : decode cX10_repair 13 = .ok (.getfield 7, 3) := by decide +kernel
theorem dX10_repair_16 : decode cX10_repair 16 = .ok (.iconst 0, 1) := by decide +kernel
theorem dX10_repair_17 : decode cX10_repair 17 = .ok (.iaload, 1) := by decide +kernel
theorem dX10_repair_18 : decode cX10_repair 18 = .ok (.invokevirtual 150, 3) := by decide +kernel
theorem dX10_repair_21 : decode cX10_repair 21 = .ok (.ifCond .eq 6, 3) := by decide +kernel
theorem dX10_repair_24 : decode cX10_repair 24 = .ok (.ldc 68, 2) := by decide +kernel
theorem dX10_repair_26 : decode cX10_repair 26 = .ok (.ireturn, 1) := by decide +kernel
theorem dX10_repair_27 : decode cX10_repair 27 = .ok (.aload_n 0, 1) := by decide +kernel
theorem dX10_repair_28 : decode cX10_repair 28 = .ok (.invokevirtual 32, 3) := by decide +kernel
theorem dX10_repair_31 : decode cX10_repair 31 = .ok (.aload_n 0, 1) := by decide +kernel
theorem dX10_repair_32 : decode cX10_repair 32 = .ok (.iload_n 1, 1) := by decide +kernel
theorem dX10_repair_33 : decode cX10_repair 33 = .ok (.invokevirtual 153, 3) := by decide +kernel
theorem dX10_repair_36 : decode cX10_repair 36 = .ok (.aload_n 0, 1) := by decide +kernel
theorem dX10_repair_37 : decode cX10_repair 37 = .ok (.getfield 144, 3) := by decide +kernel
theorem dX10_repair_40 : decode cX10_repair 40 = .ok (.ireturn, 1) := by decide +kernel
theorem dX10_repairAll_0 : decode cX10_repairAll 0 = .ok (.aload_n 0, 1) := by decide +kernel
theorem dX10_repairAll_1 : decode cX10_repairAll 1 = .ok (.invokevirtual 32, 3) := by decide +kernel
theorem dX10_repairAll_4 : decode cX10_repairAll 4 = .ok (.iconst 0, 1) := by decide +kernel
theorem dX10_repairAll_5 : decode cX10_repairAll 5 = .ok (.istore_n 1, 1) := by decide +kernel
theorem dX10_repairAll_6 : decode cX10_repairAll 6 = .ok (.iconst 0, 1) := by decide +kernel
theorem dX10_repairAll_7 : decode cX10_repairAll 7 = .ok (.istore_n 2, 1) := by decide +kernel
theorem dX10_repairAll_8 : decode cX10_repairAll 8 = .ok (.iload_n 2, 1) := by decide +kernel
theorem dX10_repairAll_9 : decode cX10_repairAll 9 = .ok (.sipush 200, 3) := by decide +kernel
theorem dX10_repairAll_12 : decode cX10_repairAll 12 = .ok (.if_icmp .ge 31, 3) := by decide +kernel
theorem dX10_repairAll_15 : decode cX10_repairAll 15 = .ok (.aload_n 0, 1) := by decide +kernel
theorem dX10_repairAll_16 : decode cX10_repairAll 16 = .ok (.iload_n 2, 1) := by decide +kernel
theorem dX10_repairAll_17 : decode cX10_repairAll 17 = .ok (.aload_n 0, 1) := by decide +kernel
theorem dX10_repairAll_18 : decode cX10_repairAll 18 = .ok (.getfield 7, 3) := by decide +kernel
theorem dX10_repairAll_21 : decode cX10_repairAll 21 = .ok (.iconst 0, 1) := by decide +kernel
theorem dX10_repairAll_22 : decode cX10_repairAll 22 = .ok (.iaload, 1) := by decide +kernel
theorem dX10_repairAll_23 : decode cX10_repairAll 23 = .ok (.invokevirtual 150, 3) := by decide +kernel
theorem dX10_repairAll_26 : decode cX10_repairAll 26 = .ok (.ifCond .ne 11, 3) := by decide +kernel
theorem dX10_repairAll_29 : decode cX10_repairAll 29 = .ok (.aload_n 0, 1) := by decide +kernel
theorem dX10_repairAll_30 : decode cX10_repairAll 30 = .ok (.iload_n 2, 1) := by decide +kernel
theorem dX10_repairAll_31 : decode cX10_repairAll 31 = .ok (.invokevirtual 153, 3) := by decide +kernel
theorem dX10_repairAll_34 : decode cX10_repairAll 34 = .ok (.iinc 1 1, 3) := by decide +kernel
theorem dX10_repairAll_37 : decode cX10_repairAll 37 = .ok (.iinc 2 1, 3) := by decide +kernel
theorem dX10_repairAll_40 : decode cX10_repairAll 40 = .ok (.goto (-32), 3) := by decide +kernel
theorem dX10_repairAll_43 : decode cX10_repairAll 43 = .ok (.iload_n 1, 1) := by decide +kernel
theorem dX10_repairAll_44 : decode cX10_repairAll 44 = .ok (.ireturn, 1) := by decide +kernel
theorem dX10_roleOf_0 : decode cX10_roleOf 0 = .ok (.aload_n 0, 1) := by decide +kernel
theorem dX10_roleOf_1 : decode cX10_roleOf 1 = .ok (.aload_n 0, 1) := by decide +kernel
theorem dX10_roleOf_2 : decode cX10_roleOf 2 = .ok (.getfield 113, 3) := by decide +kernel
theorem dX10_roleOf_5 : decode cX10_roleOf 5 = .ok (.iload_n 1, 1) := by decide +kernel
theorem dX10_roleOf_6 : decode cX10_roleOf 6 = .ok (.invokevirtual 129, 3) := by decide +kernel
theorem dX10_roleOf_9 : decode cX10_roleOf 9 = .ok (.ifCond .eq 33, 3) := by decide +kernel
theorem dX10_roleOf_12 : decode cX10_roleOf 12 = .ok (.iload_n 1, 1) := by decide +kernel
theorem dX10_roleOf_13 : decode cX10_roleOf 13 = .ok (.aload_n 0, 1) := by decide +kernel
theorem dX10_roleOf_14 : decode cX10_roleOf 14 = .ok (.getfield 126, 3) := by decide +kernel
theorem dX10_roleOf_17 : decode cX10_roleOf 17 = .ok (.if_icmp .ne 7, 3) := by decide +kernel
theorem dX10_roleOf_20 : decode cX10_roleOf 20 = .ok (.iconst 1, 1) := by decide +kernel
theorem dX10_roleOf_21 : decode cX10_roleOf 21 = .ok (.goto 20, 3) := by decide +kernel
theorem dX10_roleOf_24 : decode cX10_roleOf 24 = .ok (.aload_n 0, 1) := by decide +kernel
theorem dX10_roleOf_25 : decode cX10_roleOf 25 = .ok (.aload_n 0, 1) := by decide +kernel
theorem dX10_roleOf_26 : decode cX10_roleOf 26 = .ok (.getfield 132, 3) := by decide +kernel
theorem dX10_roleOf_29 : decode cX10_roleOf 29 = .ok (.iload_n 1, 1) := by decide +kernel
theorem dX10_roleOf_30 : decode cX10_roleOf 30 = .ok (.invokevirtual 129, 3) := by decide +kernel
theorem dX10_roleOf_33 : decode cX10_roleOf 33 = .ok (.ifCond .eq 7, 3) := by decide +kernel
theorem dX10_roleOf_36 : decode cX10_roleOf 36 = .ok (.iconst 2, 1) := by decide +kernel
theorem dX10_roleOf_37 : decode cX10_roleOf 37 = .ok (.goto 4, 3) := by decide +kernel
theorem dX10_roleOf_40 : decode cX10_roleOf 40 = .ok (.iconst 3, 1) := by decide +kernel
theorem dX10_roleOf_41 : decode cX10_roleOf 41 = .ok (.ireturn, 1) := by decide +kernel
theorem dX10_roleOf_42 : decode cX10_roleOf 42 = .ok (.iload_n 1, 1) := by decide +kernel
theorem dX10_roleOf_43 : decode cX10_roleOf 43 = .ok (.aload_n 0, 1) := by decide +kernel
theorem dX10_roleOf_44 : decode cX10_roleOf 44 = .ok (.getfield 119, 3) := by decide +kernel
theorem dX10_roleOf_47 : decode cX10_roleOf 47 = .ok (.if_icmp .ne 7, 3) := by decide +kernel
theorem dX10_roleOf_50 : decode cX10_roleOf 50 = .ok (.iconst 4, 1) := by decide +kernel
theorem dX10_roleOf_51 : decode cX10_roleOf 51 = .ok (.goto 20, 3) := by decide +kernel
theorem dX10_roleOf_54 : decode cX10_roleOf 54 = .ok (.aload_n 0, 1) := by decide +kernel
theorem dX10_roleOf_55 : decode cX10_roleOf 55 = .ok (.aload_n 0, 1) := by decide +kernel
theorem dX10_roleOf_56 : decode cX10_roleOf 56 = .ok (.getfield 116, 3) := by decide +kernel
theorem dX10_roleOf_59 : decode cX10_roleOf 59 = .ok (.iload_n 1, 1) := by decide +kernel
theorem dX10_roleOf_60 : decode cX10_roleOf 60 = .ok (.invokevirtual 129, 3) := by decide +kernel
theorem dX10_roleOf_63 : decode cX10_roleOf 63 = .ok (.ifCond .eq 7, 3) := by decide +kernel
theorem dX10_roleOf_66 : decode cX10_roleOf 66 = .ok (.iconst 5, 1) := by decide +kernel
theorem dX10_roleOf_67 : decode cX10_roleOf 67 = .ok (.goto 4, 3) := by decide +kernel
theorem dX10_roleOf_70 : decode cX10_roleOf 70 = .ok (.iconst 0, 1) := by decide +kernel
theorem dX10_roleOf_71 : decode cX10_roleOf 71 = .ok (.ireturn, 1) := by decide +kernel
theorem dX10_look_0 : decode cX10_look 0 = .ok (.iload_n 1, 1) := by decide +kernel
theorem dX10_look_1 : decode cX10_look 1 = .ok (.invokestatic 87, 3) := by decide +kernel
theorem dX10_look_4 : decode cX10_look 4 = .ok (.ifCond .eq 20, 3) := by decide +kernel
theorem dX10_look_7 : decode cX10_look 7 = .ok (.aload_n 0, 1) := by decide +kernel
theorem dX10_look_8 : decode cX10_look 8 = .ok (.iload_n 2, 1) := by decide +kernel
theorem dX10_look_9 : decode cX10_look 9 = .ok (.invokevirtual 47, 3) := by decide +kernel
theorem dX10_look_12 : decode cX10_look 12 = .ok (.ifCond .eq 12, 3) := by decide +kernel
theorem dX10_look_15 : decode cX10_look 15 = .ok (.iload_n 3, 1) := by decide +kernel
theorem dX10_look_16 : decode cX10_look 16 = .ok (.iconst 0, 1) := by decide +kernel
theorem dX10_look_17 : decode cX10_look 17 = .ok (.iconst 2, 1) := by decide +kernel
theorem dX10_look_18 : decode cX10_look 18 = .ok (.invokestatic 35, 3) := by decide +kernel
theorem dX10_look_21 : decode cX10_look 21 = .ok (.ifCond .ne 6, 3) := by decide +kernel
theorem dX10_look_24 : decode cX10_look 24 = .ok (.ldc 40, 2) := by decide +kernel
theorem dX10_look_26 : decode cX10_look 26 = .ok (.ireturn, 1) := by decide +kernel
theorem dX10_look_27 : decode cX10_look 27 = .ok (.aload_n 0, 1) := by decide +kernel
theorem dX10_look_28 : decode cX10_look 28 = .ok (.iload_n 1, 1) := by decide +kernel
theorem dX10_look_29 : decode cX10_look 29 = .ok (.aload_n 0, 1) := by decide +kernel
theorem dX10_look_30 : decode cX10_look 30 = .ok (.getfield 7, 3) := by decide +kernel
theorem dX10_look_33 : decode cX10_look 33 = .ok (.iconst 0, 1) := by decide +kernel
theorem dX10_look_34 : decode cX10_look 34 = .ok (.iaload, 1) := by decide +kernel
theorem dX10_look_35 : decode cX10_look 35 = .ok (.invokevirtual 150, 3) := by decide +kernel
theorem dX10_look_38 : decode cX10_look 38 = .ok (.ifCond .eq 6, 3) := by decide +kernel
theorem dX10_look_41 : decode cX10_look 41 = .ok (.ldc 68, 2) := by decide +kernel
theorem dX10_look_43 : decode cX10_look 43 = .ok (.ireturn, 1) := by decide +kernel
theorem dX10_look_44 : decode cX10_look 44 = .ok (.iload_n 3, 1) := by decide +kernel
theorem dX10_look_45 : decode cX10_look 45 = .ok (.ifCond .ne 9, 3) := by decide +kernel
theorem dX10_look_48 : decode cX10_look 48 = .ok (.aload_n 0, 1) := by decide +kernel
theorem dX10_look_49 : decode cX10_look 49 = .ok (.iload_n 2, 1) := by decide +kernel
theorem dX10_look_50 : decode cX10_look 50 = .ok (.invokevirtual 156, 3) := by decide +kernel
theorem dX10_look_53 : decode cX10_look 53 = .ok (.ireturn, 1) := by decide +kernel
theorem dX10_look_54 : decode cX10_look 54 = .ok (.aload_n 0, 1) := by decide +kernel
theorem dX10_look_55 : decode cX10_look 55 = .ok (.aload_n 0, 1) := by decide +kernel
theorem dX10_look_56 : decode cX10_look 56 = .ok (.getfield 113, 3) := by decide +kernel
theorem dX10_look_59 : decode cX10_look 59 = .ok (.iload_n 2, 1) := by decide +kernel
theorem dX10_look_60 : decode cX10_look 60 = .ok (.invokevirtual 129, 3) := by decide +kernel
theorem dX10_look_63 : decode cX10_look 63 = .ok (.ifCond .ne 8, 3) := by decide +kernel
theorem dX10_look_66 : decode cX10_look 66 = .ok (.ldc 46, 2) := by decide +kernel
theorem dX10_look_68 : decode cX10_look 68 = .ok (.goto 31, 3) := by decide +kernel
theorem dX10_look_71 : decode cX10_look 71 = .ok (.iload_n 3, 1) := by decide +kernel
theorem dX10_look_72 : decode cX10_look 72 = .ok (.iconst 1, 1) := by decide +kernel
theorem dX10_look_73 : decode cX10_look 73 = .ok (.if_icmp .ne 12, 3) := by decide +kernel
theorem dX10_look_76 : decode cX10_look 76 = .ok (.aload_n 0, 1) := by decide +kernel
theorem dX10_look_77 : decode cX10_look 77 = .ok (.getfield 25, 3) := by decide +kernel
theorem dX10_look_80 : decode cX10_look 80 = .ok (.iload_n 2, 1) := by decide +kernel
theorem dX10_look_81 : decode cX10_look 81 = .ok (.iaload, 1) := by decide +kernel
theorem dX10_look_82 : decode cX10_look 82 = .ok (.goto 17, 3) := by decide +kernel
theorem dX10_look_85 : decode cX10_look 85 = .ok (.aload_n 0, 1) := by decide +kernel
theorem dX10_look_86 : decode cX10_look 86 = .ok (.getfield 141, 3) := by decide +kernel
theorem dX10_look_89 : decode cX10_look 89 = .ok (.aload_n 0, 1) := by decide +kernel
theorem dX10_look_90 : decode cX10_look 90 = .ok (.aload_n 0, 1) := by decide +kernel
theorem dX10_look_91 : decode cX10_look 91 = .ok (.getfield 119, 3) := by decide +kernel
theorem dX10_look_94 : decode cX10_look 94 = .ok (.iload_n 2, 1) := by decide +kernel
theorem dX10_look_95 : decode cX10_look 95 = .ok (.invokevirtual 138, 3) := by decide +kernel
theorem dX10_look_98 : decode cX10_look 98 = .ok (.iadd, 1) := by decide +kernel
theorem dX10_look_99 : decode cX10_look 99 = .ok (.ireturn, 1) := by decide +kernel
theorem dX10_pastOf_0 : decode cX10_pastOf 0 = .ok (.aload_n 0, 1) := by decide +kernel
theorem dX10_pastOf_1 : decode cX10_pastOf 1 = .ok (.getfield 7, 3) := by decide +kernel
theorem dX10_pastOf_4 : decode cX10_pastOf 4 = .ok (.sipush 360, 3) := by decide +kernel
theorem dX10_pastOf_7 : decode cX10_pastOf 7 = .ok (.bipush 7, 2) := by decide +kernel
theorem dX10_pastOf_9 : decode cX10_pastOf 9 = .ok (.aload_n 0, 1) := by decide +kernel
theorem dX10_pastOf_10 : decode cX10_pastOf 10 = .ok (.getfield 7, 3) := by decide +kernel
theorem dX10_pastOf_13 : decode cX10_pastOf 13 = .ok (.bipush 7, 2) := by decide +kernel
theorem dX10_pastOf_15 : decode cX10_pastOf 15 = .ok (.iaload, 1) := by decide +kernel
theorem dX10_pastOf_16 : decode cX10_pastOf 16 = .ok (.iconst 1, 1) := by decide +kernel
theorem dX10_pastOf_17 : decode cX10_pastOf 17 = .ok (.isub, 1) := by decide +kernel
theorem dX10_pastOf_18 : decode cX10_pastOf 18 = .ok (.iload_n 1, 1) := by decide +kernel
theorem dX10_pastOf_19 : decode cX10_pastOf 19 = .ok (.isub, 1) := by decide +kernel
theorem dX10_pastOf_20 : decode cX10_pastOf 20 = .ok (.bipush 20, 2) := by decide +kernel
theorem dX10_pastOf_22 : decode cX10_pastOf 22 = .ok (.irem, 1) := by decide +kernel
theorem dX10_pastOf_23 : decode cX10_pastOf 23 = .ok (.imul, 1) := by decide +kernel
theorem dX10_pastOf_24 : decode cX10_pastOf 24 = .ok (.iadd, 1) := by decide +kernel
theorem dX10_pastOf_25 : decode cX10_pastOf 25 = .ok (.iload_n 2, 1) := by decide +kernel
theorem dX10_pastOf_26 : decode cX10_pastOf 26 = .ok (.iadd, 1) := by decide +kernel
theorem dX10_pastOf_27 : decode cX10_pastOf 27 = .ok (.iaload, 1) := by decide +kernel
theorem dX10_pastOf_28 : decode cX10_pastOf 28 = .ok (.ireturn, 1) := by decide +kernel
theorem dX10_past_0 : decode cX10_past 0 = .ok (.iload_n 1, 1) := by decide +kernel
theorem dX10_past_1 : decode cX10_past 1 = .ok (.ifCond .lt 13, 3) := by decide +kernel
theorem dX10_past_4 : decode cX10_past 4 = .ok (.iload_n 2, 1) := by decide +kernel
theorem dX10_past_5 : decode cX10_past 5 = .ok (.iconst 0, 1) := by decide +kernel
theorem dX10_past_6 : decode cX10_past 6 = .ok (.bipush 6, 2) := by decide +kernel
theorem dX10_past_8 : decode cX10_past 8 = .ok (.invokestatic 35, 3) := by decide +kernel
theorem dX10_past_11 : decode cX10_past 11 = .ok (.ifCond .ne 6, 3) := by decide +kernel
theorem dX10_past_14 : decode cX10_past 14 = .ok (.ldc 40, 2) := by decide +kernel
theorem dX10_past_16 : decode cX10_past 16 = .ok (.ireturn, 1) := by decide +kernel
theorem dX10_past_17 : decode cX10_past 17 = .ok (.iload_n 1, 1) := by decide +kernel
theorem dX10_past_18 : decode cX10_past 18 = .ok (.bipush 20, 2) := by decide +kernel
theorem dX10_past_20 : decode cX10_past 20 = .ok (.if_icmp .ge 23, 3) := by decide +kernel
theorem dX10_past_23 : decode cX10_past 23 = .ok (.iload_n 1, 1) := by decide +kernel
theorem dX10_past_24 : decode cX10_past 24 = .ok (.aload_n 0, 1) := by decide +kernel
theorem dX10_past_25 : decode cX10_past 25 = .ok (.getfield 7, 3) := by decide +kernel
theorem dX10_past_28 : decode cX10_past 28 = .ok (.bipush 7, 2) := by decide +kernel
theorem dX10_past_30 : decode cX10_past 30 = .ok (.iaload, 1) := by decide +kernel
theorem dX10_past_31 : decode cX10_past 31 = .ok (.if_icmp .ge 12, 3) := by decide +kernel
theorem dX10_past_34 : decode cX10_past 34 = .ok (.aload_n 0, 1) := by decide +kernel
theorem dX10_past_35 : decode cX10_past 35 = .ok (.iload_n 1, 1) := by decide +kernel
theorem dX10_past_36 : decode cX10_past 36 = .ok (.iload_n 2, 1) := by decide +kernel
theorem dX10_past_37 : decode cX10_past 37 = .ok (.invokevirtual 159, 3) := by decide +kernel
theorem dX10_past_40 : decode cX10_past 40 = .ok (.goto 5, 3) := by decide +kernel
theorem dX10_past_43 : decode cX10_past 43 = .ok (.ldc 46, 2) := by decide +kernel
theorem dX10_past_45 : decode cX10_past 45 = .ok (.ireturn, 1) := by decide +kernel
theorem dX10_why_0 : decode cX10_why 0 = .ok (.iload_n 1, 1) := by decide +kernel
theorem dX10_why_1 : decode cX10_why 1 = .ok (.invokestatic 87, 3) := by decide +kernel
theorem dX10_why_4 : decode cX10_why 4 = .ok (.ifCond .eq 17, 3) := by decide +kernel
theorem dX10_why_7 : decode cX10_why 7 = .ok (.aload_n 0, 1) := by decide +kernel
theorem dX10_why_8 : decode cX10_why 8 = .ok (.iload_n 1, 1) := by decide +kernel
theorem dX10_why_9 : decode cX10_why 9 = .ok (.aload_n 0, 1) := by decide +kernel
theorem dX10_why_10 : decode cX10_why 10 = .ok (.getfield 7, 3) := by decide +kernel
theorem dX10_why_13 : decode cX10_why 13 = .ok (.iconst 0, 1) := by decide +kernel
theorem dX10_why_14 : decode cX10_why 14 = .ok (.iaload, 1) := by decide +kernel
theorem dX10_why_15 : decode cX10_why 15 = .ok (.invokevirtual 150, 3) := by decide +kernel
theorem dX10_why_18 : decode cX10_why 18 = .ok (.goto 5, 3) := by decide +kernel
theorem dX10_why_21 : decode cX10_why 21 = .ok (.ldc 40, 2) := by decide +kernel
theorem dX10_why_23 : decode cX10_why 23 = .ok (.ireturn, 1) := by decide +kernel
theorem dX10_silence_0 : decode cX10_silence 0 = .ok (.aload_n 0, 1) := by decide +kernel
theorem dX10_silence_1 : decode cX10_silence 1 = .ok (.getfield 7, 3) := by decide +kernel
theorem dX10_silence_4 : decode cX10_silence 4 = .ok (.bipush 8, 2) := by decide +kernel
theorem dX10_silence_6 : decode cX10_silence 6 = .ok (.iaload, 1) := by decide +kernel
theorem dX10_silence_7 : decode cX10_silence 7 = .ok (.aload_n 0, 1) := by decide +kernel
theorem dX10_silence_8 : decode cX10_silence 8 = .ok (.getfield 7, 3) := by decide +kernel
theorem dX10_silence_11 : decode cX10_silence 11 = .ok (.bipush 9, 2) := by decide +kernel
theorem dX10_silence_13 : decode cX10_silence 13 = .ok (.iaload, 1) := by decide +kernel
theorem dX10_silence_14 : decode cX10_silence 14 = .ok (.iadd, 1) := by decide +kernel
theorem dX10_silence_15 : decode cX10_silence 15 = .ok (.istore_n 1, 1) := by decide +kernel
theorem dX10_silence_16 : decode cX10_silence 16 = .ok (.iload_n 1, 1) := by decide +kernel
theorem dX10_silence_17 : decode cX10_silence 17 = .ok (.ifCond .ne 7, 3) := by decide +kernel
theorem dX10_silence_20 : decode cX10_silence 20 = .ok (.fconst 0, 1) := by decide +kernel
theorem dX10_silence_21 : decode cX10_silence 21 = .ok (.goto 14, 3) := by decide +kernel
theorem dX10_silence_24 : decode cX10_silence 24 = .ok (.aload_n 0, 1) := by decide +kernel
theorem dX10_silence_25 : decode cX10_silence 25 = .ok (.getfield 7, 3) := by decide +kernel
theorem dX10_silence_28 : decode cX10_silence 28 = .ok (.bipush 9, 2) := by decide +kernel
theorem dX10_silence_30 : decode cX10_silence 30 = .ok (.iaload, 1) := by decide +kernel
theorem dX10_silence_31 : decode cX10_silence 31 = .ok (.i2f, 1) := by decide +kernel
theorem dX10_silence_32 : decode cX10_silence 32 = .ok (.iload_n 1, 1) := by decide +kernel
theorem dX10_silence_33 : decode cX10_silence 33 = .ok (.i2f, 1) := by decide +kernel
theorem dX10_silence_34 : decode cX10_silence 34 = .ok (.fdiv, 1) := by decide +kernel
theorem dX10_silence_35 : decode cX10_silence 35 = .ok (.freturn, 1) := by decide +kernel
theorem dX10_waitOf_0 : decode cX10_waitOf 0 = .ok (.iload_n 0, 1) := by decide +kernel
theorem dX10_waitOf_1 : decode cX10_waitOf 1 = .ok (.ifCond .ne 7, 3) := by decide +kernel
theorem dX10_waitOf_4 : decode cX10_waitOf 4 = .ok (.iconst 1, 1) := by decide +kernel
theorem dX10_waitOf_5 : decode cX10_waitOf 5 = .ok (.goto 47, 3) := by decide +kernel
theorem dX10_waitOf_8 : decode cX10_waitOf 8 = .ok (.iload_n 0, 1) := by decide +kernel
theorem dX10_waitOf_9 : decode cX10_waitOf 9 = .ok (.iconst 1, 1) := by decide +kernel
theorem dX10_waitOf_10 : decode cX10_waitOf 10 = .ok (.if_icmp .ne 8, 3) := by decide +kernel
theorem dX10_waitOf_13 : decode cX10_waitOf 13 = .ok (.bipush 10, 2) := by decide +kernel
theorem dX10_waitOf_15 : decode cX10_waitOf 15 = .ok (.goto 37, 3) := by decide +kernel
theorem dX10_waitOf_18 : decode cX10_waitOf 18 = .ok (.iload_n 0, 1) := by decide +kernel
theorem dX10_waitOf_19 : decode cX10_waitOf 19 = .ok (.iconst 2, 1) := by decide +kernel
theorem dX10_waitOf_20 : decode cX10_waitOf 20 = .ok (.if_icmp .ne 8, 3) := by decide +kernel
theorem dX10_waitOf_23 : decode cX10_waitOf 23 = .ok (.bipush 30, 2) := by decide +kernel
theorem dX10_waitOf_25 : decode cX10_waitOf 25 = .ok (.goto 27, 3) := by decide +kernel
theorem dX10_waitOf_28 : decode cX10_waitOf 28 = .ok (.iload_n 0, 1) := by decide +kernel
theorem dX10_waitOf_29 : decode cX10_waitOf 29 = .ok (.iconst 3, 1) := by decide +kernel
theorem dX10_waitOf_30 : decode cX10_waitOf 30 = .ok (.if_icmp .ne 8, 3) := by decide +kernel
theorem dX10_waitOf_33 : decode cX10_waitOf 33 = .ok (.bipush 100, 2) := by decide +kernel
theorem dX10_waitOf_35 : decode cX10_waitOf 35 = .ok (.goto 17, 3) := by decide +kernel
theorem dX10_waitOf_38 : decode cX10_waitOf 38 = .ok (.iload_n 0, 1) := by decide +kernel
theorem dX10_waitOf_39 : decode cX10_waitOf 39 = .ok (.iconst 4, 1) := by decide +kernel
theorem dX10_waitOf_40 : decode cX10_waitOf 40 = .ok (.if_icmp .ne 9, 3) := by decide +kernel
theorem dX10_waitOf_43 : decode cX10_waitOf 43 = .ok (.sipush 300, 3) := by decide +kernel
theorem dX10_waitOf_46 : decode cX10_waitOf 46 = .ok (.goto 6, 3) := by decide +kernel
theorem dX10_waitOf_49 : decode cX10_waitOf 49 = .ok (.sipush 1000, 3) := by decide +kernel
theorem dX10_waitOf_52 : decode cX10_waitOf 52 = .ok (.ireturn, 1) := by decide +kernel
theorem dX10_bestWait_0 : decode cX10_bestWait 0 = .ok (.ldc 46, 2) := by decide +kernel
theorem dX10_bestWait_2 : decode cX10_bestWait 2 = .ok (.istore_n 1, 1) := by decide +kernel
theorem dX10_bestWait_3 : decode cX10_bestWait 3 = .ok (.lconst 0, 1) := by decide +kernel
theorem dX10_bestWait_4 : decode cX10_bestWait 4 = .ok (.lstore_n 2, 1) := by decide +kernel
theorem dX10_bestWait_5 : decode cX10_bestWait 5 = .ok (.iconst 0, 1) := by decide +kernel
theorem dX10_bestWait_6 : decode cX10_bestWait 6 = .ok (.istore 4, 2) := by decide +kernel
theorem dX10_bestWait_8 : decode cX10_bestWait 8 = .ok (.iload 4, 2) := by decide +kernel
theorem dX10_bestWait_10 : decode cX10_bestWait 10 = .ok (.bipush 6, 2) := by decide +kernel
theorem dX10_bestWait_12 : decode cX10_bestWait 12 = .ok (.if_icmp .ge 84, 3) := by decide +kernel
theorem dX10_bestWait_15 : decode cX10_bestWait 15 = .ok (.lconst 0, 1) := by decide +kernel
theorem dX10_bestWait_16 : decode cX10_bestWait 16 = .ok (.lstore 5, 2) := by decide +kernel
theorem dX10_bestWait_18 : decode cX10_bestWait 18 = .ok (.iconst 0, 1) := by decide +kernel
theorem dX10_bestWait_19 : decode cX10_bestWait 19 = .ok (.istore 7, 2) := by decide +kernel
theorem dX10_bestWait_21 : decode cX10_bestWait 21 = .ok (.iconst 0, 1) := by decide +kernel
theorem dX10_bestWait_22 : decode cX10_bestWait 22 = .ok (.istore 8, 2) := by decide +kernel
theorem dX10_bestWait_24 : decode cX10_bestWait 24 = .ok (.iload 8, 2) := by decide +kernel
theorem dX10_bestWait_26 : decode cX10_bestWait 26 = .ok (.sipush 200, 3) := by decide +kernel
theorem dX10_bestWait_29 : decode cX10_bestWait 29 = .ok (.if_icmp .ge 36, 3) := by decide +kernel
theorem dX10_bestWait_32 : decode cX10_bestWait 32 = .ok (.aload_n 0, 1) := by decide +kernel
theorem dX10_bestWait_33 : decode cX10_bestWait 33 = .ok (.iload 8, 2) := by decide +kernel
theorem dX10_bestWait_35 : decode cX10_bestWait 35 = .ok (.iload 4, 2) := by decide +kernel
theorem dX10_bestWait_37 : decode cX10_bestWait 37 = .ok (.invokestatic 162, 3) := by decide +kernel
theorem dX10_bestWait_40 : decode cX10_bestWait 40 = .ok (.invokevirtual 150, 3) := by decide +kernel
theorem dX10_bestWait_43 : decode cX10_bestWait 43 = .ok (.ifCond .ne 16, 3) := by decide +kernel
theorem dX10_bestWait_46 : decode cX10_bestWait 46 = .ok (.lload 5, 2) := by decide +kernel
theorem dX10_bestWait_48 : decode cX10_bestWait 48 = .ok (.aload_n 0, 1) := by decide +kernel
theorem dX10_bestWait_49 : decode cX10_bestWait 49 = .ok (.getfield 144, 3) := by decide +kernel
theorem dX10_bestWait_52 : decode cX10_bestWait 52 = .ok (.i2l, 1) := by decide +kernel
theorem dX10_bestWait_53 : decode cX10_bestWait 53 = .ok (.ladd, 1) := by decide +kernel
theorem dX10_bestWait_54 : decode cX10_bestWait 54 = .ok (.lstore 5, 2) := by decide +kernel
theorem dX10_bestWait_56 : decode cX10_bestWait 56 = .ok (.iinc 7 1, 3) := by decide +kernel
theorem dX10_bestWait_59 : decode cX10_bestWait 59 = .ok (.iinc 8 1, 3) := by decide +kernel
theorem dX10_bestWait_62 : decode cX10_bestWait 62 = .ok (.goto (-38), 3) := by decide +kernel
theorem dX10_bestWait_65 : decode cX10_bestWait 65 = .ok (.iload 7, 2) := by decide +kernel
theorem dX10_bestWait_67 : decode cX10_bestWait 67 = .ok (.ifCond .le 23, 3) := by decide +kernel
theorem dX10_bestWait_70 : decode cX10_bestWait 70 = .ok (.iload_n 1, 1) := by decide +kernel
theorem dX10_bestWait_71 : decode cX10_bestWait 71 = .ok (.ifCond .lt 10, 3) := by decide +kernel
theorem dX10_bestWait_74 : decode cX10_bestWait 74 = .ok (.lload 5, 2) := by decide +kernel
theorem dX10_bestWait_76 : decode cX10_bestWait 76 = .ok (.lload_n 2, 1) := by decide +kernel
theorem dX10_bestWait_77 : decode cX10_bestWait 77 = .ok (.lcmp, 1) := by decide +kernel
theorem dX10_bestWait_78 : decode cX10_bestWait 78 = .ok (.ifCond .ge 12, 3) := by decide +kernel
theorem dX10_bestWait_81 : decode cX10_bestWait 81 = .ok (.iload 4, 2) := by decide +kernel
theorem dX10_bestWait_83 : decode cX10_bestWait 83 = .ok (.invokestatic 162, 3) := by decide +kernel
theorem dX10_bestWait_86 : decode cX10_bestWait 86 = .ok (.istore_n 1, 1) := by decide +kernel
theorem dX10_bestWait_87 : decode cX10_bestWait 87 = .ok (.lload 5, 2) := by decide +kernel
theorem dX10_bestWait_89 : decode cX10_bestWait 89 = .ok (.lstore_n 2, 1) := by decide +kernel
theorem dX10_bestWait_90 : decode cX10_bestWait 90 = .ok (.iinc 4 1, 3) := by decide +kernel
theorem dX10_bestWait_93 : decode cX10_bestWait 93 = .ok (.goto (-85), 3) := by decide +kernel
theorem dX10_bestWait_96 : decode cX10_bestWait 96 = .ok (.iload_n 1, 1) := by decide +kernel
theorem dX10_bestWait_97 : decode cX10_bestWait 97 = .ok (.ireturn, 1) := by decide +kernel
theorem dX10_undo_0 : decode cX10_undo 0 = .ok (.aload_n 0, 1) := by decide +kernel
theorem dX10_undo_1 : decode cX10_undo 1 = .ok (.getfield 28, 3) := by decide +kernel
theorem dX10_undo_4 : decode cX10_undo 4 = .ok (.ifCond .ne 6, 3) := by decide +kernel
theorem dX10_undo_7 : decode cX10_undo 7 = .ok (.ldc 46, 2) := by decide +kernel
theorem dX10_undo_9 : decode cX10_undo 9 = .ok (.ireturn, 1) := by decide +kernel
theorem dX10_undo_10 : decode cX10_undo 10 = .ok (.aload_n 0, 1) := by decide +kernel
theorem dX10_undo_11 : decode cX10_undo 11 = .ok (.dup, 1) := by decide +kernel
theorem dX10_undo_12 : decode cX10_undo 12 = .ok (.getfield 28, 3) := by decide +kernel
theorem dX10_undo_15 : decode cX10_undo 15 = .ok (.iconst 1, 1) := by decide +kernel
theorem dX10_undo_16 : decode cX10_undo 16 = .ok (.isub, 1) := by decide +kernel
theorem dX10_undo_17 : decode cX10_undo 17 = .ok (.putfield 28, 3) := by decide +kernel
theorem dX10_undo_20 : decode cX10_undo 20 = .ok (.iconst 0, 1) := by decide +kernel
theorem dX10_undo_21 : decode cX10_undo 21 = .ok (.istore_n 1, 1) := by decide +kernel
theorem dX10_undo_22 : decode cX10_undo 22 = .ok (.iload_n 1, 1) := by decide +kernel
theorem dX10_undo_23 : decode cX10_undo 23 = .ok (.sipush 520, 3) := by decide +kernel
theorem dX10_undo_26 : decode cX10_undo 26 = .ok (.if_icmp .ge 30, 3) := by decide +kernel
theorem dX10_undo_29 : decode cX10_undo 29 = .ok (.aload_n 0, 1) := by decide +kernel
theorem dX10_undo_30 : decode cX10_undo 30 = .ok (.getfield 7, 3) := by decide +kernel
theorem dX10_undo_33 : decode cX10_undo 33 = .ok (.iload_n 1, 1) := by decide +kernel
theorem dX10_undo_34 : decode cX10_undo 34 = .ok (.aload_n 0, 1) := by decide +kernel
theorem dX10_undo_35 : decode cX10_undo 35 = .ok (.getfield 13, 3) := by decide +kernel
theorem dX10_undo_38 : decode cX10_undo 38 = .ok (.sipush 520, 3) := by decide +kernel
theorem dX10_undo_41 : decode cX10_undo 41 = .ok (.aload_n 0, 1) := by decide +kernel
theorem dX10_undo_42 : decode cX10_undo 42 = .ok (.getfield 28, 3) := by decide +kernel
theorem dX10_undo_45 : decode cX10_undo 45 = .ok (.imul, 1) := by decide +kernel
theorem dX10_undo_46 : decode cX10_undo 46 = .ok (.iload_n 1, 1) := by decide +kernel
theorem dX10_undo_47 : decode cX10_undo 47 = .ok (.iadd, 1) := by decide +kernel
theorem dX10_undo_48 : decode cX10_undo 48 = .ok (.iaload, 1) := by decide +kernel
theorem dX10_undo_49 : decode cX10_undo 49 = .ok (.iastore, 1) := by decide +kernel
theorem dX10_undo_50 : decode cX10_undo 50 = .ok (.iinc 1 1, 3) := by decide +kernel
theorem dX10_undo_53 : decode cX10_undo 53 = .ok (.goto (-31), 3) := by decide +kernel
theorem dX10_undo_56 : decode cX10_undo 56 = .ok (.aload_n 0, 1) := by decide +kernel
theorem dX10_undo_57 : decode cX10_undo 57 = .ok (.getfield 28, 3) := by decide +kernel
theorem dX10_undo_60 : decode cX10_undo 60 = .ok (.ireturn, 1) := by decide +kernel
theorem dX10_fingerprint_0 : decode cX10_fingerprint 0 = .ok (.ldc2_w 165, 3) := by decide +kernel
theorem dX10_fingerprint_3 : decode cX10_fingerprint 3 = .ok (.lstore_n 1, 1) := by decide +kernel
theorem dX10_fingerprint_4 : decode cX10_fingerprint 4 = .ok (.iconst 0, 1) := by decide +kernel
theorem dX10_fingerprint_5 : decode cX10_fingerprint 5 = .ok (.istore_n 3, 1) := by decide +kernel
theorem dX10_fingerprint_6 : decode cX10_fingerprint 6 = .ok (.iload_n 3, 1) := by decide +kernel
theorem dX10_fingerprint_7 : decode cX10_fingerprint 7 = .ok (.bipush 10, 2) := by decide +kernel
theorem dX10_fingerprint_9 : decode cX10_fingerprint 9 = .ok (.if_icmp .ge 23, 3) := by decide +kernel
theorem dX10_fingerprint_12 : decode cX10_fingerprint 12 = .ok (.ldc2_w 167, 3) := by decide +kernel
theorem dX10_fingerprint_15 : decode cX10_fingerprint 15 = .ok (.lload_n 1, 1) := by decide +kernel
theorem dX10_fingerprint_16 : decode cX10_fingerprint 16 = .ok (.lmul, 1) := by decide +kernel
theorem dX10_fingerprint_17 : decode cX10_fingerprint 17 = .ok (.aload_n 0, 1) := by decide +kernel
theorem dX10_fingerprint_18 : decode cX10_fingerprint 18 = .ok (.getfield 7, 3) := by decide +kernel
theorem dX10_fingerprint_21 : decode cX10_fingerprint 21 = .ok (.iload_n 3, 1) := by decide +kernel
theorem dX10_fingerprint_22 : decode cX10_fingerprint 22 = .ok (.iaload, 1) := by decide +kernel
theorem dX10_fingerprint_23 : decode cX10_fingerprint 23 = .ok (.i2l, 1) := by decide +kernel
theorem dX10_fingerprint_24 : decode cX10_fingerprint 24 = .ok (.ladd, 1) := by decide +kernel
theorem dX10_fingerprint_25 : decode cX10_fingerprint 25 = .ok (.lstore_n 1, 1) := by decide +kernel
theorem dX10_fingerprint_26 : decode cX10_fingerprint 26 = .ok (.iinc 3 1, 3) := by decide +kernel
theorem dX10_fingerprint_29 : decode cX10_fingerprint 29 = .ok (.goto (-23), 3) := by decide +kernel
theorem dX10_fingerprint_32 : decode cX10_fingerprint 32 = .ok (.iconst 0, 1) := by decide +kernel
theorem dX10_fingerprint_33 : decode cX10_fingerprint 33 = .ok (.istore_n 3, 1) := by decide +kernel
theorem dX10_fingerprint_34 : decode cX10_fingerprint 34 = .ok (.iload_n 3, 1) := by decide +kernel
theorem dX10_fingerprint_35 : decode cX10_fingerprint 35 = .ok (.aload_n 0, 1) := by decide +kernel
theorem dX10_fingerprint_36 : decode cX10_fingerprint 36 = .ok (.getfield 7, 3) := by decide +kernel
theorem dX10_fingerprint_39 : decode cX10_fingerprint 39 = .ok (.iconst 5, 1) := by decide +kernel
theorem dX10_fingerprint_40 : decode cX10_fingerprint 40 = .ok (.iaload, 1) := by decide +kernel
theorem dX10_fingerprint_41 : decode cX10_fingerprint 41 = .ok (.if_icmp .ge 40, 3) := by decide +kernel
theorem dX10_fingerprint_44 : decode cX10_fingerprint 44 = .ok (.iconst 0, 1) := by decide +kernel
theorem dX10_fingerprint_45 : decode cX10_fingerprint 45 = .ok (.istore 4, 2) := by decide +kernel
theorem dX10_fingerprint_47 : decode cX10_fingerprint 47 = .ok (.iload 4, 2) := by decide +kernel
theorem dX10_fingerprint_49 : decode cX10_fingerprint 49 = .ok (.bipush 9, 2) := by decide +kernel
theorem dX10_fingerprint_51 : decode cX10_fingerprint 51 = .ok (.if_icmp .ge 24, 3) := by decide +kernel
theorem dX10_fingerprint_54 : decode cX10_fingerprint 54 = .ok (.ldc2_w 167, 3) := by decide +kernel
theorem dX10_fingerprint_57 : decode cX10_fingerprint 57 = .ok (.lload_n 1, 1) := by decide +kernel
theorem dX10_fingerprint_58 : decode cX10_fingerprint 58 = .ok (.lmul, 1) := by decide +kernel
theorem dX10_fingerprint_59 : decode cX10_fingerprint 59 = .ok (.aload_n 0, 1) := by decide +kernel
theorem dX10_fingerprint_60 : decode cX10_fingerprint 60 = .ok (.iload_n 3, 1) := by decide +kernel
theorem dX10_fingerprint_61 : decode cX10_fingerprint 61 = .ok (.iload 4, 2) := by decide +kernel
theorem dX10_fingerprint_63 : decode cX10_fingerprint 63 = .ok (.invokevirtual 58, 3) := by decide +kernel
theorem dX10_fingerprint_66 : decode cX10_fingerprint 66 = .ok (.i2l, 1) := by decide +kernel
theorem dX10_fingerprint_67 : decode cX10_fingerprint 67 = .ok (.ladd, 1) := by decide +kernel
theorem dX10_fingerprint_68 : decode cX10_fingerprint 68 = .ok (.lstore_n 1, 1) := by decide +kernel
theorem dX10_fingerprint_69 : decode cX10_fingerprint 69 = .ok (.iinc 4 1, 3) := by decide +kernel
theorem dX10_fingerprint_72 : decode cX10_fingerprint 72 = .ok (.goto (-25), 3) := by decide +kernel
theorem dX10_fingerprint_75 : decode cX10_fingerprint 75 = .ok (.iinc 3 1, 3) := by decide +kernel
theorem dX10_fingerprint_78 : decode cX10_fingerprint 78 = .ok (.goto (-44), 3) := by decide +kernel
theorem dX10_fingerprint_81 : decode cX10_fingerprint 81 = .ok (.ldc2_w 167, 3) := by decide +kernel
theorem dX10_fingerprint_84 : decode cX10_fingerprint 84 = .ok (.lload_n 1, 1) := by decide +kernel
theorem dX10_fingerprint_85 : decode cX10_fingerprint 85 = .ok (.lmul, 1) := by decide +kernel
theorem dX10_fingerprint_86 : decode cX10_fingerprint 86 = .ok (.aload_n 0, 1) := by decide +kernel
theorem dX10_fingerprint_87 : decode cX10_fingerprint 87 = .ok (.getfield 7, 3) := by decide +kernel
theorem dX10_fingerprint_90 : decode cX10_fingerprint 90 = .ok (.bipush 6, 2) := by decide +kernel
theorem dX10_fingerprint_92 : decode cX10_fingerprint 92 = .ok (.iaload, 1) := by decide +kernel
theorem dX10_fingerprint_93 : decode cX10_fingerprint 93 = .ok (.ifCond .ne 9, 3) := by decide +kernel
theorem dX10_fingerprint_96 : decode cX10_fingerprint 96 = .ok (.ldc2_w 85, 3) := by decide +kernel
theorem dX10_fingerprint_99 : decode cX10_fingerprint 99 = .ok (.goto 11, 3) := by decide +kernel
theorem dX10_fingerprint_102 : decode cX10_fingerprint 102 = .ok (.aload_n 0, 1) := by decide +kernel
theorem dX10_fingerprint_103 : decode cX10_fingerprint 103 = .ok (.getfield 7, 3) := by decide +kernel
theorem dX10_fingerprint_106 : decode cX10_fingerprint 106 = .ok (.bipush 10, 2) := by decide +kernel
theorem dX10_fingerprint_108 : decode cX10_fingerprint 108 = .ok (.iaload, 1) := by decide +kernel
theorem dX10_fingerprint_109 : decode cX10_fingerprint 109 = .ok (.i2l, 1) := by decide +kernel
theorem dX10_fingerprint_110 : decode cX10_fingerprint 110 = .ok (.ladd, 1) := by decide +kernel
theorem dX10_fingerprint_111 : decode cX10_fingerprint 111 = .ok (.lstore_n 1, 1) := by decide +kernel
theorem dX10_fingerprint_112 : decode cX10_fingerprint 112 = .ok (.iconst 0, 1) := by decide +kernel
theorem dX10_fingerprint_113 : decode cX10_fingerprint 113 = .ok (.istore_n 3, 1) := by decide +kernel
theorem dX10_fingerprint_114 : decode cX10_fingerprint 114 = .ok (.iload_n 3, 1) := by decide +kernel
theorem dX10_fingerprint_115 : decode cX10_fingerprint 115 = .ok (.aload_n 0, 1) := by decide +kernel
theorem dX10_fingerprint_116 : decode cX10_fingerprint 116 = .ok (.getfield 7, 3) := by decide +kernel
theorem dX10_fingerprint_119 : decode cX10_fingerprint 119 = .ok (.bipush 11, 2) := by decide +kernel
theorem dX10_fingerprint_121 : decode cX10_fingerprint 121 = .ok (.iaload, 1) := by decide +kernel
theorem dX10_fingerprint_122 : decode cX10_fingerprint 122 = .ok (.if_icmp .ge 26, 3) := by decide +kernel
theorem dX10_fingerprint_125 : decode cX10_fingerprint 125 = .ok (.ldc2_w 167, 3) := by decide +kernel
theorem dX10_fingerprint_128 : decode cX10_fingerprint 128 = .ok (.lload_n 1, 1) := by decide +kernel
theorem dX10_fingerprint_129 : decode cX10_fingerprint 129 = .ok (.lmul, 1) := by decide +kernel
theorem dX10_fingerprint_130 : decode cX10_fingerprint 130 = .ok (.aload_n 0, 1) := by decide +kernel
theorem dX10_fingerprint_131 : decode cX10_fingerprint 131 = .ok (.getfield 7, 3) := by decide +kernel
theorem dX10_fingerprint_134 : decode cX10_fingerprint 134 = .ok (.bipush 12, 2) := by decide +kernel
theorem dX10_fingerprint_136 : decode cX10_fingerprint 136 = .ok (.iload_n 3, 1) := by decide +kernel
theorem dX10_fingerprint_137 : decode cX10_fingerprint 137 = .ok (.iadd, 1) := by decide +kernel
theorem dX10_fingerprint_138 : decode cX10_fingerprint 138 = .ok (.iaload, 1) := by decide +kernel
theorem dX10_fingerprint_139 : decode cX10_fingerprint 139 = .ok (.i2l, 1) := by decide +kernel
theorem dX10_fingerprint_140 : decode cX10_fingerprint 140 = .ok (.ladd, 1) := by decide +kernel
theorem dX10_fingerprint_141 : decode cX10_fingerprint 141 = .ok (.lstore_n 1, 1) := by decide +kernel
theorem dX10_fingerprint_142 : decode cX10_fingerprint 142 = .ok (.iinc 3 1, 3) := by decide +kernel
theorem dX10_fingerprint_145 : decode cX10_fingerprint 145 = .ok (.goto (-31), 3) := by decide +kernel
theorem dX10_fingerprint_148 : decode cX10_fingerprint 148 = .ok (.iconst 0, 1) := by decide +kernel
theorem dX10_fingerprint_149 : decode cX10_fingerprint 149 = .ok (.istore_n 3, 1) := by decide +kernel
theorem dX10_fingerprint_150 : decode cX10_fingerprint 150 = .ok (.iload_n 3, 1) := by decide +kernel
theorem dX10_fingerprint_151 : decode cX10_fingerprint 151 = .ok (.sipush 200, 3) := by decide +kernel
theorem dX10_fingerprint_154 : decode cX10_fingerprint 154 = .ok (.if_icmp .ge 47, 3) := by decide +kernel
theorem dX10_fingerprint_157 : decode cX10_fingerprint 157 = .ok (.aload_n 0, 1) := by decide +kernel
theorem dX10_fingerprint_158 : decode cX10_fingerprint 158 = .ok (.getfield 7, 3) := by decide +kernel
theorem dX10_fingerprint_161 : decode cX10_fingerprint 161 = .ok (.sipush 150, 3) := by decide +kernel
theorem dX10_fingerprint_164 : decode cX10_fingerprint 164 = .ok (.iload_n 3, 1) := by decide +kernel
theorem dX10_fingerprint_165 : decode cX10_fingerprint 165 = .ok (.iadd, 1) := by decide +kernel
theorem dX10_fingerprint_166 : decode cX10_fingerprint 166 = .ok (.iaload, 1) := by decide +kernel
theorem dX10_fingerprint_167 : decode cX10_fingerprint 167 = .ok (.ifCond .eq 28, 3) := by decide +kernel
theorem dX10_fingerprint_170 : decode cX10_fingerprint 170 = .ok (.ldc2_w 167, 3) := by decide +kernel
theorem dX10_fingerprint_173 : decode cX10_fingerprint 173 = .ok (.ldc2_w 167, 3) := by decide +kernel
theorem dX10_fingerprint_176 : decode cX10_fingerprint 176 = .ok (.lload_n 1, 1) := by decide +kernel
theorem dX10_fingerprint_177 : decode cX10_fingerprint 177 = .ok (.lmul, 1) := by decide +kernel
theorem dX10_fingerprint_178 : decode cX10_fingerprint 178 = .ok (.iload_n 3, 1) := by decide +kernel
theorem dX10_fingerprint_179 : decode cX10_fingerprint 179 = .ok (.i2l, 1) := by decide +kernel
theorem dX10_fingerprint_180 : decode cX10_fingerprint 180 = .ok (.ladd, 1) := by decide +kernel
theorem dX10_fingerprint_181 : decode cX10_fingerprint 181 = .ok (.lmul, 1) := by decide +kernel
theorem dX10_fingerprint_182 : decode cX10_fingerprint 182 = .ok (.aload_n 0, 1) := by decide +kernel
theorem dX10_fingerprint_183 : decode cX10_fingerprint 183 = .ok (.getfield 7, 3) := by decide +kernel
theorem dX10_fingerprint_186 : decode cX10_fingerprint 186 = .ok (.sipush 150, 3) := by decide +kernel
theorem dX10_fingerprint_189 : decode cX10_fingerprint 189 = .ok (.iload_n 3, 1) := by decide +kernel
theorem dX10_fingerprint_190 : decode cX10_fingerprint 190 = .ok (.iadd, 1) := by decide +kernel
theorem dX10_fingerprint_191 : decode cX10_fingerprint 191 = .ok (.iaload, 1) := by decide +kernel
theorem dX10_fingerprint_192 : decode cX10_fingerprint 192 = .ok (.i2l, 1) := by decide +kernel
theorem dX10_fingerprint_193 : decode cX10_fingerprint 193 = .ok (.ladd, 1) := by decide +kernel
theorem dX10_fingerprint_194 : decode cX10_fingerprint 194 = .ok (.lstore_n 1, 1) := by decide +kernel
theorem dX10_fingerprint_195 : decode cX10_fingerprint 195 = .ok (.iinc 3 1, 3) := by decide +kernel
theorem dX10_fingerprint_198 : decode cX10_fingerprint 198 = .ok (.goto (-48), 3) := by decide +kernel
theorem dX10_fingerprint_201 : decode cX10_fingerprint 201 = .ok (.iconst 0, 1) := by decide +kernel
theorem dX10_fingerprint_202 : decode cX10_fingerprint 202 = .ok (.istore_n 3, 1) := by decide +kernel
theorem dX10_fingerprint_203 : decode cX10_fingerprint 203 = .ok (.iload_n 3, 1) := by decide +kernel
theorem dX10_fingerprint_204 : decode cX10_fingerprint 204 = .ok (.bipush 20, 2) := by decide +kernel
theorem dX10_fingerprint_206 : decode cX10_fingerprint 206 = .ok (.if_icmp .ge 51, 3) := by decide +kernel
theorem dX10_fingerprint_209 : decode cX10_fingerprint 209 = .ok (.iload_n 3, 1) := by decide +kernel
theorem dX10_fingerprint_210 : decode cX10_fingerprint 210 = .ok (.aload_n 0, 1) := by decide +kernel
theorem dX10_fingerprint_211 : decode cX10_fingerprint 211 = .ok (.getfield 7, 3) := by decide +kernel
theorem dX10_fingerprint_214 : decode cX10_fingerprint 214 = .ok (.bipush 7, 2) := by decide +kernel
theorem dX10_fingerprint_216 : decode cX10_fingerprint 216 = .ok (.iaload, 1) := by decide +kernel
theorem dX10_fingerprint_217 : decode cX10_fingerprint 217 = .ok (.if_icmp .ge 40, 3) := by decide +kernel
theorem dX10_fingerprint_220 : decode cX10_fingerprint 220 = .ok (.iconst 0, 1) := by decide +kernel
theorem dX10_fingerprint_221 : decode cX10_fingerprint 221 = .ok (.istore 4, 2) := by decide +kernel
theorem dX10_fingerprint_223 : decode cX10_fingerprint 223 = .ok (.iload 4, 2) := by decide +kernel
theorem dX10_fingerprint_225 : decode cX10_fingerprint 225 = .ok (.bipush 7, 2) := by decide +kernel
theorem dX10_fingerprint_227 : decode cX10_fingerprint 227 = .ok (.if_icmp .ge 24, 3) := by decide +kernel
theorem dX10_fingerprint_230 : decode cX10_fingerprint 230 = .ok (.ldc2_w 167, 3) := by decide +kernel
theorem dX10_fingerprint_233 : decode cX10_fingerprint 233 = .ok (.lload_n 1, 1) := by decide +kernel
theorem dX10_fingerprint_234 : decode cX10_fingerprint 234 = .ok (.lmul, 1) := by decide +kernel
theorem dX10_fingerprint_235 : decode cX10_fingerprint 235 = .ok (.aload_n 0, 1) := by decide +kernel
theorem dX10_fingerprint_236 : decode cX10_fingerprint 236 = .ok (.iload_n 3, 1) := by decide +kernel
theorem dX10_fingerprint_237 : decode cX10_fingerprint 237 = .ok (.iload 4, 2) := by decide +kernel
theorem dX10_fingerprint_239 : decode cX10_fingerprint 239 = .ok (.invokevirtual 159, 3) := by decide +kernel
theorem dX10_fingerprint_242 : decode cX10_fingerprint 242 = .ok (.i2l, 1) := by decide +kernel
theorem dX10_fingerprint_243 : decode cX10_fingerprint 243 = .ok (.ladd, 1) := by decide +kernel
theorem dX10_fingerprint_244 : decode cX10_fingerprint 244 = .ok (.lstore_n 1, 1) := by decide +kernel
theorem dX10_fingerprint_245 : decode cX10_fingerprint 245 = .ok (.iinc 4 1, 3) := by decide +kernel
theorem dX10_fingerprint_248 : decode cX10_fingerprint 248 = .ok (.goto (-25), 3) := by decide +kernel
theorem dX10_fingerprint_251 : decode cX10_fingerprint 251 = .ok (.iinc 3 1, 3) := by decide +kernel
theorem dX10_fingerprint_254 : decode cX10_fingerprint 254 = .ok (.goto (-51), 3) := by decide +kernel
theorem dX10_fingerprint_257 : decode cX10_fingerprint 257 = .ok (.lload_n 1, 1) := by decide +kernel
theorem dX10_fingerprint_258 : decode cX10_fingerprint 258 = .ok (.lreturn, 1) := by decide +kernel
theorem dJ6_bitCount_0f7a4_0 : decode cJ6_bitCount_0f7a4 0 = .ok (.iload_n 0, 1) := by decide +kernel
theorem dJ6_bitCount_0f7a4_1 : decode cJ6_bitCount_0f7a4 1 = .ok (.iload_n 0, 1) := by decide +kernel
theorem dJ6_bitCount_0f7a4_2 : decode cJ6_bitCount_0f7a4 2 = .ok (.iconst 1, 1) := by decide +kernel
theorem dJ6_bitCount_0f7a4_3 : decode cJ6_bitCount_0f7a4 3 = .ok (.iushr, 1) := by decide +kernel
theorem dJ6_bitCount_0f7a4_4 : decode cJ6_bitCount_0f7a4 4 = .ok (.ldc_w 265, 3) := by decide +kernel
theorem dJ6_bitCount_0f7a4_7 : decode cJ6_bitCount_0f7a4 7 = .ok (.iand, 1) := by decide +kernel
theorem dJ6_bitCount_0f7a4_8 : decode cJ6_bitCount_0f7a4 8 = .ok (.isub, 1) := by decide +kernel
theorem dJ6_bitCount_0f7a4_9 : decode cJ6_bitCount_0f7a4 9 = .ok (.istore_n 0, 1) := by decide +kernel
theorem dJ6_bitCount_0f7a4_10 : decode cJ6_bitCount_0f7a4 10 = .ok (.iload_n 0, 1) := by decide +kernel
theorem dJ6_bitCount_0f7a4_11 : decode cJ6_bitCount_0f7a4 11 = .ok (.ldc_w 266, 3) := by decide +kernel
theorem dJ6_bitCount_0f7a4_14 : decode cJ6_bitCount_0f7a4 14 = .ok (.iand, 1) := by decide +kernel
theorem dJ6_bitCount_0f7a4_15 : decode cJ6_bitCount_0f7a4 15 = .ok (.iload_n 0, 1) := by decide +kernel
theorem dJ6_bitCount_0f7a4_16 : decode cJ6_bitCount_0f7a4 16 = .ok (.iconst 2, 1) := by decide +kernel
theorem dJ6_bitCount_0f7a4_17 : decode cJ6_bitCount_0f7a4 17 = .ok (.iushr, 1) := by decide +kernel
theorem dJ6_bitCount_0f7a4_18 : decode cJ6_bitCount_0f7a4 18 = .ok (.ldc_w 266, 3) := by decide +kernel
theorem dJ6_bitCount_0f7a4_21 : decode cJ6_bitCount_0f7a4 21 = .ok (.iand, 1) := by decide +kernel
theorem dJ6_bitCount_0f7a4_22 : decode cJ6_bitCount_0f7a4 22 = .ok (.iadd, 1) := by decide +kernel
theorem dJ6_bitCount_0f7a4_23 : decode cJ6_bitCount_0f7a4 23 = .ok (.istore_n 0, 1) := by decide +kernel
theorem dJ6_bitCount_0f7a4_24 : decode cJ6_bitCount_0f7a4 24 = .ok (.iload_n 0, 1) := by decide +kernel
theorem dJ6_bitCount_0f7a4_25 : decode cJ6_bitCount_0f7a4 25 = .ok (.iload_n 0, 1) := by decide +kernel
theorem dJ6_bitCount_0f7a4_26 : decode cJ6_bitCount_0f7a4 26 = .ok (.iconst 4, 1) := by decide +kernel
theorem dJ6_bitCount_0f7a4_27 : decode cJ6_bitCount_0f7a4 27 = .ok (.iushr, 1) := by decide +kernel
theorem dJ6_bitCount_0f7a4_28 : decode cJ6_bitCount_0f7a4 28 = .ok (.iadd, 1) := by decide +kernel
theorem dJ6_bitCount_0f7a4_29 : decode cJ6_bitCount_0f7a4 29 = .ok (.ldc_w 267, 3) := by decide +kernel
theorem dJ6_bitCount_0f7a4_32 : decode cJ6_bitCount_0f7a4 32 = .ok (.iand, 1) := by decide +kernel
theorem dJ6_bitCount_0f7a4_33 : decode cJ6_bitCount_0f7a4 33 = .ok (.istore_n 0, 1) := by decide +kernel
theorem dJ6_bitCount_0f7a4_34 : decode cJ6_bitCount_0f7a4 34 = .ok (.iload_n 0, 1) := by decide +kernel
theorem dJ6_bitCount_0f7a4_35 : decode cJ6_bitCount_0f7a4 35 = .ok (.iload_n 0, 1) := by decide +kernel
theorem dJ6_bitCount_0f7a4_36 : decode cJ6_bitCount_0f7a4 36 = .ok (.bipush 8, 2) := by decide +kernel
theorem dJ6_bitCount_0f7a4_38 : decode cJ6_bitCount_0f7a4 38 = .ok (.iushr, 1) := by decide +kernel
theorem dJ6_bitCount_0f7a4_39 : decode cJ6_bitCount_0f7a4 39 = .ok (.iadd, 1) := by decide +kernel
theorem dJ6_bitCount_0f7a4_40 : decode cJ6_bitCount_0f7a4 40 = .ok (.istore_n 0, 1) := by decide +kernel
theorem dJ6_bitCount_0f7a4_41 : decode cJ6_bitCount_0f7a4 41 = .ok (.iload_n 0, 1) := by decide +kernel
theorem dJ6_bitCount_0f7a4_42 : decode cJ6_bitCount_0f7a4 42 = .ok (.iload_n 0, 1) := by decide +kernel
theorem dJ6_bitCount_0f7a4_43 : decode cJ6_bitCount_0f7a4 43 = .ok (.bipush 16, 2) := by decide +kernel
theorem dJ6_bitCount_0f7a4_45 : decode cJ6_bitCount_0f7a4 45 = .ok (.iushr, 1) := by decide +kernel
theorem dJ6_bitCount_0f7a4_46 : decode cJ6_bitCount_0f7a4 46 = .ok (.iadd, 1) := by decide +kernel
theorem dJ6_bitCount_0f7a4_47 : decode cJ6_bitCount_0f7a4 47 = .ok (.istore_n 0, 1) := by decide +kernel
theorem dJ6_bitCount_0f7a4_48 : decode cJ6_bitCount_0f7a4 48 = .ok (.iload_n 0, 1) := by decide +kernel
theorem dJ6_bitCount_0f7a4_49 : decode cJ6_bitCount_0f7a4 49 = .ok (.bipush 63, 2) := by decide +kernel
theorem dJ6_bitCount_0f7a4_51 : decode cJ6_bitCount_0f7a4 51 = .ok (.iand, 1) := by decide +kernel
theorem dJ6_bitCount_0f7a4_52 : decode cJ6_bitCount_0f7a4 52 = .ok (.ireturn, 1) := by decide +kernel
theorem dL_law_0 : decode cL_law 0 = .ok (.new 7, 3) := by decide +kernel
theorem dL_law_3 : decode cL_law 3 = .ok (.dup, 1) := by decide +kernel
theorem dL_law_4 : decode cL_law 4 = .ok (.invokespecial 9, 3) := by decide +kernel
theorem dL_law_7 : decode cL_law 7 = .ok (.astore_n 1, 1) := by decide +kernel
theorem dL_law_8 : decode cL_law 8 = .ok (.new 10, 3) := by decide +kernel
theorem dL_law_11 : decode cL_law 11 = .ok (.dup, 1) := by decide +kernel
theorem dL_law_12 : decode cL_law 12 = .ok (.invokespecial 12, 3) := by decide +kernel
theorem dL_law_15 : decode cL_law 15 = .ok (.astore_n 2, 1) := by decide +kernel
theorem dL_law_16 : decode cL_law 16 = .ok (.iconst 0, 1) := by decide +kernel
theorem dL_law_17 : decode cL_law 17 = .ok (.istore_n 3, 1) := by decide +kernel
theorem dL_law_18 : decode cL_law 18 = .ok (.iload_n 3, 1) := by decide +kernel
theorem dL_law_19 : decode cL_law 19 = .ok (.aload_n 0, 1) := by decide +kernel
theorem dL_law_20 : decode cL_law 20 = .ok (.arraylength, 1) := by decide +kernel
theorem dL_law_21 : decode cL_law 21 = .ok (.iconst 4, 1) := by decide +kernel
theorem dL_law_22 : decode cL_law 22 = .ok (.isub, 1) := by decide +kernel
theorem dL_law_23 : decode cL_law 23 = .ok (.if_icmp .gt 858, 3) := by decide +kernel
theorem dL_law_26 : decode cL_law 26 = .ok (.aload_n 0, 1) := by decide +kernel
theorem dL_law_27 : decode cL_law 27 = .ok (.iload_n 3, 1) := by decide +kernel
theorem dL_law_28 : decode cL_law 28 = .ok (.iaload, 1) := by decide +kernel
theorem dL_law_29 : decode cL_law 29 = .ok (.bipush 31, 2) := by decide +kernel
theorem dL_law_31 : decode cL_law 31 = .ok (.iand, 1) := by decide +kernel
theorem dL_law_32 : decode cL_law 32 = .ok (.tableswitch 843 0 26 #[124, 157, 200, 249, 282, 315, 338, 361, 394, 427, 440, 454, 477, 510, 543, 566, 579, 592, 625, 648, 661, 704, 737, 760, 803, 816, 829], 124) := by decide +kernel
theorem dL_law_156 : decode cL_law 156 = .ok (.aload_n 1, 1) := by decide +kernel
theorem dL_law_157 : decode cL_law 157 = .ok (.aload_n 0, 1) := by decide +kernel
theorem dL_law_158 : decode cL_law 158 = .ok (.iload_n 3, 1) := by decide +kernel
theorem dL_law_159 : decode cL_law 159 = .ok (.iconst 1, 1) := by decide +kernel
theorem dL_law_160 : decode cL_law 160 = .ok (.iadd, 1) := by decide +kernel
theorem dL_law_161 : decode cL_law 161 = .ok (.iaload, 1) := by decide +kernel
theorem dL_law_162 : decode cL_law 162 = .ok (.aload_n 0, 1) := by decide +kernel
theorem dL_law_163 : decode cL_law 163 = .ok (.iload_n 3, 1) := by decide +kernel
theorem dL_law_164 : decode cL_law 164 = .ok (.iconst 2, 1) := by decide +kernel
theorem dL_law_165 : decode cL_law 165 = .ok (.iadd, 1) := by decide +kernel
theorem dL_law_166 : decode cL_law 166 = .ok (.iaload, 1) := by decide +kernel
theorem dL_law_167 : decode cL_law 167 = .ok (.invokevirtual 13, 3) := by decide +kernel
theorem dL_law_170 : decode cL_law 170 = .ok (.aload_n 2, 1) := by decide +kernel
theorem dL_law_171 : decode cL_law 171 = .ok (.aload_n 0, 1) := by decide +kernel
theorem dL_law_172 : decode cL_law 172 = .ok (.iload_n 3, 1) := by decide +kernel
theorem dL_law_173 : decode cL_law 173 = .ok (.iconst 1, 1) := by decide +kernel
theorem dL_law_174 : decode cL_law 174 = .ok (.iadd, 1) := by decide +kernel
theorem dL_law_175 : decode cL_law 175 = .ok (.iaload, 1) := by decide +kernel
theorem dL_law_176 : decode cL_law 176 = .ok (.aload_n 0, 1) := by decide +kernel
theorem dL_law_177 : decode cL_law 177 = .ok (.iload_n 3, 1) := by decide +kernel
theorem dL_law_178 : decode cL_law 178 = .ok (.iconst 2, 1) := by decide +kernel
theorem dL_law_179 : decode cL_law 179 = .ok (.iadd, 1) := by decide +kernel
theorem dL_law_180 : decode cL_law 180 = .ok (.iaload, 1) := by decide +kernel
theorem dL_law_181 : decode cL_law 181 = .ok (.invokevirtual 17, 3) := by decide +kernel
theorem dL_law_184 : decode cL_law 184 = .ok (.if_icmp .eq 691, 3) := by decide +kernel
theorem dL_law_187 : decode cL_law 187 = .ok (.iconst 0, 1) := by decide +kernel
theorem dL_law_188 : decode cL_law 188 = .ok (.ireturn, 1) := by decide +kernel
theorem dL_law_189 : decode cL_law 189 = .ok (.aload_n 1, 1) := by decide +kernel
theorem dL_law_190 : decode cL_law 190 = .ok (.aload_n 0, 1) := by decide +kernel
theorem dL_law_191 : decode cL_law 191 = .ok (.iload_n 3, 1) := by decide +kernel
theorem dL_law_192 : decode cL_law 192 = .ok (.iconst 1, 1) := by decide +kernel
theorem dL_law_193 : decode cL_law 193 = .ok (.iadd, 1) := by decide +kernel
theorem dL_law_194 : decode cL_law 194 = .ok (.iaload, 1) := by decide +kernel
theorem dL_law_195 : decode cL_law 195 = .ok (.aload_n 0, 1) := by decide +kernel
theorem dL_law_196 : decode cL_law 196 = .ok (.iload_n 3, 1) := by decide +kernel
theorem dL_law_197 : decode cL_law 197 = .ok (.iconst 2, 1) := by decide +kernel
theorem dL_law_198 : decode cL_law 198 = .ok (.iadd, 1) := by decide +kernel
theorem dL_law_199 : decode cL_law 199 = .ok (.iaload, 1) := by decide +kernel
theorem dL_law_200 : decode cL_law 200 = .ok (.aload_n 0, 1) := by decide +kernel
theorem dL_law_201 : decode cL_law 201 = .ok (.iload_n 3, 1) := by decide +kernel
theorem dL_law_202 : decode cL_law 202 = .ok (.iconst 3, 1) := by decide +kernel
theorem dL_law_203 : decode cL_law 203 = .ok (.iadd, 1) := by decide +kernel
theorem dL_law_204 : decode cL_law 204 = .ok (.iaload, 1) := by decide +kernel
theorem dL_law_205 : decode cL_law 205 = .ok (.invokevirtual 18, 3) := by decide +kernel
theorem dL_law_208 : decode cL_law 208 = .ok (.aload_n 2, 1) := by decide +kernel
theorem dL_law_209 : decode cL_law 209 = .ok (.aload_n 0, 1) := by decide +kernel
theorem dL_law_210 : decode cL_law 210 = .ok (.iload_n 3, 1) := by decide +kernel
theorem dL_law_211 : decode cL_law 211 = .ok (.iconst 1, 1) := by decide +kernel
theorem dL_law_212 : decode cL_law 212 = .ok (.iadd, 1) := by decide +kernel
theorem dL_law_213 : decode cL_law 213 = .ok (.iaload, 1) := by decide +kernel
theorem dL_law_214 : decode cL_law 214 = .ok (.aload_n 0, 1) := by decide +kernel
theorem dL_law_215 : decode cL_law 215 = .ok (.iload_n 3, 1) := by decide +kernel
theorem dL_law_216 : decode cL_law 216 = .ok (.iconst 2, 1) := by decide +kernel
theorem dL_law_217 : decode cL_law 217 = .ok (.iadd, 1) := by decide +kernel
theorem dL_law_218 : decode cL_law 218 = .ok (.iaload, 1) := by decide +kernel
theorem dL_law_219 : decode cL_law 219 = .ok (.aload_n 0, 1) := by decide +kernel
theorem dL_law_220 : decode cL_law 220 = .ok (.iload_n 3, 1) := by decide +kernel
theorem dL_law_221 : decode cL_law 221 = .ok (.iconst 3, 1) := by decide +kernel
theorem dL_law_222 : decode cL_law 222 = .ok (.iadd, 1) := by decide +kernel
theorem dL_law_223 : decode cL_law 223 = .ok (.iaload, 1) := by decide +kernel
theorem dL_law_224 : decode cL_law 224 = .ok (.invokevirtual 22, 3) := by decide +kernel
theorem dL_law_227 : decode cL_law 227 = .ok (.if_icmp .eq 648, 3) := by decide +kernel
theorem dL_law_230 : decode cL_law 230 = .ok (.iconst 0, 1) := by decide +kernel
theorem dL_law_231 : decode cL_law 231 = .ok (.ireturn, 1) := by decide +kernel
theorem dL_law_232 : decode cL_law 232 = .ok (.aload_n 1, 1) := by decide +kernel
theorem dL_law_233 : decode cL_law 233 = .ok (.aload_n 0, 1) := by decide +kernel
theorem dL_law_234 : decode cL_law 234 = .ok (.iload_n 3, 1) := by decide +kernel
theorem dL_law_235 : decode cL_law 235 = .ok (.iconst 1, 1) := by decide +kernel
theorem dL_law_236 : decode cL_law 236 = .ok (.iadd, 1) := by decide +kernel
theorem dL_law_237 : decode cL_law 237 = .ok (.iaload, 1) := by decide +kernel
theorem dL_law_238 : decode cL_law 238 = .ok (.aload_n 0, 1) := by decide +kernel
theorem dL_law_239 : decode cL_law 239 = .ok (.iload_n 3, 1) := by decide +kernel
theorem dL_law_240 : decode cL_law 240 = .ok (.iconst 2, 1) := by decide +kernel
theorem dL_law_241 : decode cL_law 241 = .ok (.iadd, 1) := by decide +kernel
theorem dL_law_242 : decode cL_law 242 = .ok (.iaload, 1) := by decide +kernel
theorem dL_law_243 : decode cL_law 243 = .ok (.ifCond .eq 7, 3) := by decide +kernel
theorem dL_law_246 : decode cL_law 246 = .ok (.iconst 1, 1) := by decide +kernel
theorem dL_law_247 : decode cL_law 247 = .ok (.goto 4, 3) := by decide +kernel
theorem dL_law_250 : decode cL_law 250 = .ok (.iconst 0, 1) := by decide +kernel
theorem dL_law_251 : decode cL_law 251 = .ok (.invokevirtual 23, 3) := by decide +kernel
theorem dL_law_254 : decode cL_law 254 = .ok (.aload_n 2, 1) := by decide +kernel
theorem dL_law_255 : decode cL_law 255 = .ok (.aload_n 0, 1) := by decide +kernel
theorem dL_law_256 : decode cL_law 256 = .ok (.iload_n 3, 1) := by decide +kernel
theorem dL_law_257 : decode cL_law 257 = .ok (.iconst 1, 1) := by decide +kernel
theorem dL_law_258 : decode cL_law 258 = .ok (.iadd, 1) := by decide +kernel
theorem dL_law_259 : decode cL_law 259 = .ok (.iaload, 1) := by decide +kernel
theorem dL_law_260 : decode cL_law 260 = .ok (.aload_n 0, 1) := by decide +kernel
theorem dL_law_261 : decode cL_law 261 = .ok (.iload_n 3, 1) := by decide +kernel
theorem dL_law_262 : decode cL_law 262 = .ok (.iconst 2, 1) := by decide +kernel
theorem dL_law_263 : decode cL_law 263 = .ok (.iadd, 1) := by decide +kernel
theorem dL_law_264 : decode cL_law 264 = .ok (.iaload, 1) := by decide +kernel
theorem dL_law_265 : decode cL_law 265 = .ok (.ifCond .eq 7, 3) := by decide +kernel
theorem dL_law_268 : decode cL_law 268 = .ok (.iconst 1, 1) := by decide +kernel
theorem dL_law_269 : decode cL_law 269 = .ok (.goto 4, 3) := by decide +kernel
theorem dL_law_272 : decode cL_law 272 = .ok (.iconst 0, 1) := by decide +kernel
theorem dL_law_273 : decode cL_law 273 = .ok (.invokevirtual 27, 3) := by decide +kernel
theorem dL_law_276 : decode cL_law 276 = .ok (.if_icmp .eq 599, 3) := by decide +kernel
theorem dL_law_279 : decode cL_law 279 = .ok (.iconst 0, 1) := by decide +kernel
theorem dL_law_280 : decode cL_law 280 = .ok (.ireturn, 1) := by decide +kernel
theorem dL_law_281 : decode cL_law 281 = .ok (.aload_n 1, 1) := by decide +kernel
theorem dL_law_282 : decode cL_law 282 = .ok (.aload_n 0, 1) := by decide +kernel
theorem dL_law_283 : decode cL_law 283 = .ok (.iload_n 3, 1) := by decide +kernel
theorem dL_law_284 : decode cL_law 284 = .ok (.iconst 1, 1) := by decide +kernel
theorem dL_law_285 : decode cL_law 285 = .ok (.iadd, 1) := by decide +kernel
theorem dL_law_286 : decode cL_law 286 = .ok (.iaload, 1) := by decide +kernel
theorem dL_law_287 : decode cL_law 287 = .ok (.aload_n 0, 1) := by decide +kernel
theorem dL_law_288 : decode cL_law 288 = .ok (.iload_n 3, 1) := by decide +kernel
theorem dL_law_289 : decode cL_law 289 = .ok (.iconst 2, 1) := by decide +kernel
theorem dL_law_290 : decode cL_law 290 = .ok (.iadd, 1) := by decide +kernel
theorem dL_law_291 : decode cL_law 291 = .ok (.iaload, 1) := by decide +kernel
theorem dL_law_292 : decode cL_law 292 = .ok (.invokevirtual 28, 3) := by decide +kernel
theorem dL_law_295 : decode cL_law 295 = .ok (.aload_n 2, 1) := by decide +kernel
theorem dL_law_296 : decode cL_law 296 = .ok (.aload_n 0, 1) := by decide +kernel
theorem dL_law_297 : decode cL_law 297 = .ok (.iload_n 3, 1) := by decide +kernel
theorem dL_law_298 : decode cL_law 298 = .ok (.iconst 1, 1) := by decide +kernel
theorem dL_law_299 : decode cL_law 299 = .ok (.iadd, 1) := by decide +kernel
theorem dL_law_300 : decode cL_law 300 = .ok (.iaload, 1) := by decide +kernel
theorem dL_law_301 : decode cL_law 301 = .ok (.aload_n 0, 1) := by decide +kernel
theorem dL_law_302 : decode cL_law 302 = .ok (.iload_n 3, 1) := by decide +kernel
theorem dL_law_303 : decode cL_law 303 = .ok (.iconst 2, 1) := by decide +kernel
theorem dL_law_304 : decode cL_law 304 = .ok (.iadd, 1) := by decide +kernel
theorem dL_law_305 : decode cL_law 305 = .ok (.iaload, 1) := by decide +kernel
theorem dL_law_306 : decode cL_law 306 = .ok (.invokevirtual 31, 3) := by decide +kernel
theorem dL_law_309 : decode cL_law 309 = .ok (.if_icmp .eq 566, 3) := by decide +kernel
theorem dL_law_312 : decode cL_law 312 = .ok (.iconst 0, 1) := by decide +kernel
theorem dL_law_313 : decode cL_law 313 = .ok (.ireturn, 1) := by decide +kernel
theorem dL_law_314 : decode cL_law 314 = .ok (.aload_n 1, 1) := by decide +kernel
theorem dL_law_315 : decode cL_law 315 = .ok (.aload_n 0, 1) := by decide +kernel
theorem dL_law_316 : decode cL_law 316 = .ok (.iload_n 3, 1) := by decide +kernel
theorem dL_law_317 : decode cL_law 317 = .ok (.iconst 1, 1) := by decide +kernel
theorem dL_law_318 : decode cL_law 318 = .ok (.iadd, 1) := by decide +kernel
theorem dL_law_319 : decode cL_law 319 = .ok (.iaload, 1) := by decide +kernel
theorem dL_law_320 : decode cL_law 320 = .ok (.aload_n 0, 1) := by decide +kernel
theorem dL_law_321 : decode cL_law 321 = .ok (.iload_n 3, 1) := by decide +kernel
theorem dL_law_322 : decode cL_law 322 = .ok (.iconst 2, 1) := by decide +kernel
theorem dL_law_323 : decode cL_law 323 = .ok (.iadd, 1) := by decide +kernel
theorem dL_law_324 : decode cL_law 324 = .ok (.iaload, 1) := by decide +kernel
theorem dL_law_325 : decode cL_law 325 = .ok (.invokevirtual 32, 3) := by decide +kernel
theorem dL_law_328 : decode cL_law 328 = .ok (.aload_n 2, 1) := by decide +kernel
theorem dL_law_329 : decode cL_law 329 = .ok (.aload_n 0, 1) := by decide +kernel
theorem dL_law_330 : decode cL_law 330 = .ok (.iload_n 3, 1) := by decide +kernel
theorem dL_law_331 : decode cL_law 331 = .ok (.iconst 1, 1) := by decide +kernel
theorem dL_law_332 : decode cL_law 332 = .ok (.iadd, 1) := by decide +kernel
theorem dL_law_333 : decode cL_law 333 = .ok (.iaload, 1) := by decide +kernel
theorem dL_law_334 : decode cL_law 334 = .ok (.aload_n 0, 1) := by decide +kernel
theorem dL_law_335 : decode cL_law 335 = .ok (.iload_n 3, 1) := by decide +kernel
theorem dL_law_336 : decode cL_law 336 = .ok (.iconst 2, 1) := by decide +kernel
theorem dL_law_337 : decode cL_law 337 = .ok (.iadd, 1) := by decide +kernel
theorem dL_law_338 : decode cL_law 338 = .ok (.iaload, 1) := by decide +kernel
theorem dL_law_339 : decode cL_law 339 = .ok (.invokevirtual 35, 3) := by decide +kernel
theorem dL_law_342 : decode cL_law 342 = .ok (.if_icmp .eq 533, 3) := by decide +kernel
theorem dL_law_345 : decode cL_law 345 = .ok (.iconst 0, 1) := by decide +kernel
theorem dL_law_346 : decode cL_law 346 = .ok (.ireturn, 1) := by decide +kernel
theorem dL_law_347 : decode cL_law 347 = .ok (.aload_n 1, 1) := by decide +kernel
theorem dL_law_348 : decode cL_law 348 = .ok (.aload_n 0, 1) := by decide +kernel
theorem dL_law_349 : decode cL_law 349 = .ok (.iload_n 3, 1) := by decide +kernel
theorem dL_law_350 : decode cL_law 350 = .ok (.iconst 1, 1) := by decide +kernel
theorem dL_law_351 : decode cL_law 351 = .ok (.iadd, 1) := by decide +kernel
theorem dL_law_352 : decode cL_law 352 = .ok (.iaload, 1) := by decide +kernel
theorem dL_law_353 : decode cL_law 353 = .ok (.invokevirtual 36, 3) := by decide +kernel
theorem dL_law_356 : decode cL_law 356 = .ok (.aload_n 2, 1) := by decide +kernel
theorem dL_law_357 : decode cL_law 357 = .ok (.aload_n 0, 1) := by decide +kernel
theorem dL_law_358 : decode cL_law 358 = .ok (.iload_n 3, 1) := by decide +kernel
theorem dL_law_359 : decode cL_law 359 = .ok (.iconst 1, 1) := by decide +kernel
theorem dL_law_360 : decode cL_law 360 = .ok (.iadd, 1) := by decide +kernel
theorem dL_law_361 : decode cL_law 361 = .ok (.iaload, 1) := by decide +kernel
theorem dL_law_362 : decode cL_law 362 = .ok (.invokevirtual 40, 3) := by decide +kernel
theorem dL_law_365 : decode cL_law 365 = .ok (.if_icmp .eq 510, 3) := by decide +kernel
theorem dL_law_368 : decode cL_law 368 = .ok (.iconst 0, 1) := by decide +kernel
theorem dL_law_369 : decode cL_law 369 = .ok (.ireturn, 1) := by decide +kernel
theorem dL_law_370 : decode cL_law 370 = .ok (.aload_n 1, 1) := by decide +kernel
theorem dL_law_371 : decode cL_law 371 = .ok (.aload_n 0, 1) := by decide +kernel
theorem dL_law_372 : decode cL_law 372 = .ok (.iload_n 3, 1) := by decide +kernel
theorem dL_law_373 : decode cL_law 373 = .ok (.iconst 1, 1) := by decide +kernel
theorem dL_law_374 : decode cL_law 374 = .ok (.iadd, 1) := by decide +kernel
theorem dL_law_375 : decode cL_law 375 = .ok (.iaload, 1) := by decide +kernel
theorem dL_law_376 : decode cL_law 376 = .ok (.invokevirtual 41, 3) := by decide +kernel
theorem dL_law_379 : decode cL_law 379 = .ok (.aload_n 2, 1) := by decide +kernel
theorem dL_law_380 : decode cL_law 380 = .ok (.aload_n 0, 1) := by decide +kernel
theorem dL_law_381 : decode cL_law 381 = .ok (.iload_n 3, 1) := by decide +kernel
theorem dL_law_382 : decode cL_law 382 = .ok (.iconst 1, 1) := by decide +kernel
theorem dL_law_383 : decode cL_law 383 = .ok (.iadd, 1) := by decide +kernel
theorem dL_law_384 : decode cL_law 384 = .ok (.iaload, 1) := by decide +kernel
theorem dL_law_385 : decode cL_law 385 = .ok (.invokevirtual 44, 3) := by decide +kernel
theorem dL_law_388 : decode cL_law 388 = .ok (.if_icmp .eq 487, 3) := by decide +kernel
theorem dL_law_391 : decode cL_law 391 = .ok (.iconst 0, 1) := by decide +kernel
theorem dL_law_392 : decode cL_law 392 = .ok (.ireturn, 1) := by decide +kernel
theorem dL_law_393 : decode cL_law 393 = .ok (.aload_n 1, 1) := by decide +kernel
theorem dL_law_394 : decode cL_law 394 = .ok (.aload_n 0, 1) := by decide +kernel
theorem dL_law_395 : decode cL_law 395 = .ok (.iload_n 3, 1) := by decide +kernel
theorem dL_law_396 : decode cL_law 396 = .ok (.iconst 1, 1) := by decide +kernel
theorem dL_law_397 : decode cL_law 397 = .ok (.iadd, 1) := by decide +kernel
theorem dL_law_398 : decode cL_law 398 = .ok (.iaload, 1) := by decide +kernel
theorem dL_law_399 : decode cL_law 399 = .ok (.aload_n 0, 1) := by decide +kernel
theorem dL_law_400 : decode cL_law 400 = .ok (.iload_n 3, 1) := by decide +kernel
theorem dL_law_401 : decode cL_law 401 = .ok (.iconst 2, 1) := by decide +kernel
theorem dL_law_402 : decode cL_law 402 = .ok (.iadd, 1) := by decide +kernel
theorem dL_law_403 : decode cL_law 403 = .ok (.iaload, 1) := by decide +kernel
theorem dL_law_404 : decode cL_law 404 = .ok (.invokevirtual 45, 3) := by decide +kernel
theorem dL_law_407 : decode cL_law 407 = .ok (.aload_n 2, 1) := by decide +kernel
theorem dL_law_408 : decode cL_law 408 = .ok (.aload_n 0, 1) := by decide +kernel
theorem dL_law_409 : decode cL_law 409 = .ok (.iload_n 3, 1) := by decide +kernel
theorem dL_law_410 : decode cL_law 410 = .ok (.iconst 1, 1) := by decide +kernel
theorem dL_law_411 : decode cL_law 411 = .ok (.iadd, 1) := by decide +kernel
theorem dL_law_412 : decode cL_law 412 = .ok (.iaload, 1) := by decide +kernel
theorem dL_law_413 : decode cL_law 413 = .ok (.aload_n 0, 1) := by decide +kernel
theorem dL_law_414 : decode cL_law 414 = .ok (.iload_n 3, 1) := by decide +kernel
theorem dL_law_415 : decode cL_law 415 = .ok (.iconst 2, 1) := by decide +kernel
theorem dL_law_416 : decode cL_law 416 = .ok (.iadd, 1) := by decide +kernel
theorem dL_law_417 : decode cL_law 417 = .ok (.iaload, 1) := by decide +kernel
theorem dL_law_418 : decode cL_law 418 = .ok (.invokevirtual 48, 3) := by decide +kernel
theorem dL_law_421 : decode cL_law 421 = .ok (.if_icmp .eq 454, 3) := by decide +kernel
theorem dL_law_424 : decode cL_law 424 = .ok (.iconst 0, 1) := by decide +kernel
theorem dL_law_425 : decode cL_law 425 = .ok (.ireturn, 1) := by decide +kernel
theorem dL_law_426 : decode cL_law 426 = .ok (.aload_n 1, 1) := by decide +kernel
theorem dL_law_427 : decode cL_law 427 = .ok (.aload_n 0, 1) := by decide +kernel
theorem dL_law_428 : decode cL_law 428 = .ok (.iload_n 3, 1) := by decide +kernel
theorem dL_law_429 : decode cL_law 429 = .ok (.iconst 1, 1) := by decide +kernel
theorem dL_law_430 : decode cL_law 430 = .ok (.iadd, 1) := by decide +kernel
theorem dL_law_431 : decode cL_law 431 = .ok (.iaload, 1) := by decide +kernel
theorem dL_law_432 : decode cL_law 432 = .ok (.aload_n 0, 1) := by decide +kernel
theorem dL_law_433 : decode cL_law 433 = .ok (.iload_n 3, 1) := by decide +kernel
theorem dL_law_434 : decode cL_law 434 = .ok (.iconst 2, 1) := by decide +kernel
theorem dL_law_435 : decode cL_law 435 = .ok (.iadd, 1) := by decide +kernel
theorem dL_law_436 : decode cL_law 436 = .ok (.iaload, 1) := by decide +kernel
theorem dL_law_437 : decode cL_law 437 = .ok (.invokevirtual 49, 3) := by decide +kernel
theorem dL_law_440 : decode cL_law 440 = .ok (.aload_n 2, 1) := by decide +kernel
theorem dL_law_441 : decode cL_law 441 = .ok (.aload_n 0, 1) := by decide +kernel
theorem dL_law_442 : decode cL_law 442 = .ok (.iload_n 3, 1) := by decide +kernel
theorem dL_law_443 : decode cL_law 443 = .ok (.iconst 1, 1) := by decide +kernel
theorem dL_law_444 : decode cL_law 444 = .ok (.iadd, 1) := by decide +kernel
theorem dL_law_445 : decode cL_law 445 = .ok (.iaload, 1) := by decide +kernel
theorem dL_law_446 : decode cL_law 446 = .ok (.aload_n 0, 1) := by decide +kernel
theorem dL_law_447 : decode cL_law 447 = .ok (.iload_n 3, 1) := by decide +kernel
theorem dL_law_448 : decode cL_law 448 = .ok (.iconst 2, 1) := by decide +kernel
theorem dL_law_449 : decode cL_law 449 = .ok (.iadd, 1) := by decide +kernel
theorem dL_law_450 : decode cL_law 450 = .ok (.iaload, 1) := by decide +kernel
theorem dL_law_451 : decode cL_law 451 = .ok (.invokevirtual 52, 3) := by decide +kernel
theorem dL_law_454 : decode cL_law 454 = .ok (.if_icmp .eq 421, 3) := by decide +kernel
theorem dL_law_457 : decode cL_law 457 = .ok (.iconst 0, 1) := by decide +kernel
theorem dL_law_458 : decode cL_law 458 = .ok (.ireturn, 1) := by decide +kernel
theorem dL_law_459 : decode cL_law 459 = .ok (.aload_n 1, 1) := by decide +kernel
theorem dL_law_460 : decode cL_law 460 = .ok (.invokevirtual 53, 3) := by decide +kernel
theorem dL_law_463 : decode cL_law 463 = .ok (.aload_n 2, 1) := by decide +kernel
theorem dL_law_464 : decode cL_law 464 = .ok (.invokevirtual 57, 3) := by decide +kernel
theorem dL_law_467 : decode cL_law 467 = .ok (.if_icmp .eq 408, 3) := by decide +kernel
theorem dL_law_470 : decode cL_law 470 = .ok (.iconst 0, 1) := by decide +kernel
theorem dL_law_471 : decode cL_law 471 = .ok (.ireturn, 1) := by decide +kernel
theorem dL_law_472 : decode cL_law 472 = .ok (.aload_n 1, 1) := by decide +kernel
theorem dL_law_473 : decode cL_law 473 = .ok (.invokevirtual 58, 3) := by decide +kernel
theorem dL_law_476 : decode cL_law 476 = .ok (.aload_n 2, 1) := by decide +kernel
theorem dL_law_477 : decode cL_law 477 = .ok (.invokevirtual 62, 3) := by decide +kernel
theorem dL_law_480 : decode cL_law 480 = .ok (.lcmp, 1) := by decide +kernel
theorem dL_law_481 : decode cL_law 481 = .ok (.ifCond .eq 394, 3) := by decide +kernel
theorem dL_law_484 : decode cL_law 484 = .ok (.iconst 0, 1) := by decide +kernel
theorem dL_law_485 : decode cL_law 485 = .ok (.ireturn, 1) := by decide +kernel
theorem dL_law_486 : decode cL_law 486 = .ok (.aload_n 1, 1) := by decide +kernel
theorem dL_law_487 : decode cL_law 487 = .ok (.aload_n 0, 1) := by decide +kernel
theorem dL_law_488 : decode cL_law 488 = .ok (.iload_n 3, 1) := by decide +kernel
theorem dL_law_489 : decode cL_law 489 = .ok (.iconst 1, 1) := by decide +kernel
theorem dL_law_490 : decode cL_law 490 = .ok (.iadd, 1) := by decide +kernel
theorem dL_law_491 : decode cL_law 491 = .ok (.iaload, 1) := by decide +kernel
theorem dL_law_492 : decode cL_law 492 = .ok (.invokevirtual 63, 3) := by decide +kernel
theorem dL_law_495 : decode cL_law 495 = .ok (.aload_n 2, 1) := by decide +kernel
theorem dL_law_496 : decode cL_law 496 = .ok (.aload_n 0, 1) := by decide +kernel
theorem dL_law_497 : decode cL_law 497 = .ok (.iload_n 3, 1) := by decide +kernel
theorem dL_law_498 : decode cL_law 498 = .ok (.iconst 1, 1) := by decide +kernel
theorem dL_law_499 : decode cL_law 499 = .ok (.iadd, 1) := by decide +kernel
theorem dL_law_500 : decode cL_law 500 = .ok (.iaload, 1) := by decide +kernel
theorem dL_law_501 : decode cL_law 501 = .ok (.invokevirtual 66, 3) := by decide +kernel
theorem dL_law_504 : decode cL_law 504 = .ok (.if_icmp .eq 371, 3) := by decide +kernel
theorem dL_law_507 : decode cL_law 507 = .ok (.iconst 0, 1) := by decide +kernel
theorem dL_law_508 : decode cL_law 508 = .ok (.ireturn, 1) := by decide +kernel
theorem dL_law_509 : decode cL_law 509 = .ok (.aload_n 1, 1) := by decide +kernel
theorem dL_law_510 : decode cL_law 510 = .ok (.aload_n 0, 1) := by decide +kernel
theorem dL_law_511 : decode cL_law 511 = .ok (.iload_n 3, 1) := by decide +kernel
theorem dL_law_512 : decode cL_law 512 = .ok (.iconst 1, 1) := by decide +kernel
theorem dL_law_513 : decode cL_law 513 = .ok (.iadd, 1) := by decide +kernel
theorem dL_law_514 : decode cL_law 514 = .ok (.iaload, 1) := by decide +kernel
theorem dL_law_515 : decode cL_law 515 = .ok (.aload_n 0, 1) := by decide +kernel
theorem dL_law_516 : decode cL_law 516 = .ok (.iload_n 3, 1) := by decide +kernel
theorem dL_law_517 : decode cL_law 517 = .ok (.iconst 2, 1) := by decide +kernel
theorem dL_law_518 : decode cL_law 518 = .ok (.iadd, 1) := by decide +kernel
theorem dL_law_519 : decode cL_law 519 = .ok (.iaload, 1) := by decide +kernel
theorem dL_law_520 : decode cL_law 520 = .ok (.invokevirtual 67, 3) := by decide +kernel
theorem dL_law_523 : decode cL_law 523 = .ok (.aload_n 2, 1) := by decide +kernel
theorem dL_law_524 : decode cL_law 524 = .ok (.aload_n 0, 1) := by decide +kernel
theorem dL_law_525 : decode cL_law 525 = .ok (.iload_n 3, 1) := by decide +kernel
theorem dL_law_526 : decode cL_law 526 = .ok (.iconst 1, 1) := by decide +kernel
theorem dL_law_527 : decode cL_law 527 = .ok (.iadd, 1) := by decide +kernel
theorem dL_law_528 : decode cL_law 528 = .ok (.iaload, 1) := by decide +kernel
theorem dL_law_529 : decode cL_law 529 = .ok (.aload_n 0, 1) := by decide +kernel
theorem dL_law_530 : decode cL_law 530 = .ok (.iload_n 3, 1) := by decide +kernel
theorem dL_law_531 : decode cL_law 531 = .ok (.iconst 2, 1) := by decide +kernel
theorem dL_law_532 : decode cL_law 532 = .ok (.iadd, 1) := by decide +kernel
theorem dL_law_533 : decode cL_law 533 = .ok (.iaload, 1) := by decide +kernel
theorem dL_law_534 : decode cL_law 534 = .ok (.invokevirtual 70, 3) := by decide +kernel
theorem dL_law_537 : decode cL_law 537 = .ok (.if_icmp .eq 338, 3) := by decide +kernel
theorem dL_law_540 : decode cL_law 540 = .ok (.iconst 0, 1) := by decide +kernel
theorem dL_law_541 : decode cL_law 541 = .ok (.ireturn, 1) := by decide +kernel
theorem dL_law_542 : decode cL_law 542 = .ok (.aload_n 1, 1) := by decide +kernel
theorem dL_law_543 : decode cL_law 543 = .ok (.aload_n 0, 1) := by decide +kernel
theorem dL_law_544 : decode cL_law 544 = .ok (.iload_n 3, 1) := by decide +kernel
theorem dL_law_545 : decode cL_law 545 = .ok (.iconst 1, 1) := by decide +kernel
theorem dL_law_546 : decode cL_law 546 = .ok (.iadd, 1) := by decide +kernel
theorem dL_law_547 : decode cL_law 547 = .ok (.iaload, 1) := by decide +kernel
theorem dL_law_548 : decode cL_law 548 = .ok (.aload_n 0, 1) := by decide +kernel
theorem dL_law_549 : decode cL_law 549 = .ok (.iload_n 3, 1) := by decide +kernel
theorem dL_law_550 : decode cL_law 550 = .ok (.iconst 2, 1) := by decide +kernel
theorem dL_law_551 : decode cL_law 551 = .ok (.iadd, 1) := by decide +kernel
theorem dL_law_552 : decode cL_law 552 = .ok (.iaload, 1) := by decide +kernel
theorem dL_law_553 : decode cL_law 553 = .ok (.invokevirtual 71, 3) := by decide +kernel
theorem dL_law_556 : decode cL_law 556 = .ok (.aload_n 2, 1) := by decide +kernel
theorem dL_law_557 : decode cL_law 557 = .ok (.aload_n 0, 1) := by decide +kernel
theorem dL_law_558 : decode cL_law 558 = .ok (.iload_n 3, 1) := by decide +kernel
theorem dL_law_559 : decode cL_law 559 = .ok (.iconst 1, 1) := by decide +kernel
theorem dL_law_560 : decode cL_law 560 = .ok (.iadd, 1) := by decide +kernel
theorem dL_law_561 : decode cL_law 561 = .ok (.iaload, 1) := by decide +kernel
theorem dL_law_562 : decode cL_law 562 = .ok (.aload_n 0, 1) := by decide +kernel
theorem dL_law_563 : decode cL_law 563 = .ok (.iload_n 3, 1) := by decide +kernel
theorem dL_law_564 : decode cL_law 564 = .ok (.iconst 2, 1) := by decide +kernel
theorem dL_law_565 : decode cL_law 565 = .ok (.iadd, 1) := by decide +kernel
theorem dL_law_566 : decode cL_law 566 = .ok (.iaload, 1) := by decide +kernel
theorem dL_law_567 : decode cL_law 567 = .ok (.invokevirtual 74, 3) := by decide +kernel
theorem dL_law_570 : decode cL_law 570 = .ok (.if_icmp .eq 305, 3) := by decide +kernel
theorem dL_law_573 : decode cL_law 573 = .ok (.iconst 0, 1) := by decide +kernel
theorem dL_law_574 : decode cL_law 574 = .ok (.ireturn, 1) := by decide +kernel
theorem dL_law_575 : decode cL_law 575 = .ok (.aload_n 1, 1) := by decide +kernel
theorem dL_law_576 : decode cL_law 576 = .ok (.aload_n 0, 1) := by decide +kernel
theorem dL_law_577 : decode cL_law 577 = .ok (.iload_n 3, 1) := by decide +kernel
theorem dL_law_578 : decode cL_law 578 = .ok (.iconst 1, 1) := by decide +kernel
theorem dL_law_579 : decode cL_law 579 = .ok (.iadd, 1) := by decide +kernel
theorem dL_law_580 : decode cL_law 580 = .ok (.iaload, 1) := by decide +kernel
theorem dL_law_581 : decode cL_law 581 = .ok (.invokevirtual 75, 3) := by decide +kernel
theorem dL_law_584 : decode cL_law 584 = .ok (.aload_n 2, 1) := by decide +kernel
theorem dL_law_585 : decode cL_law 585 = .ok (.aload_n 0, 1) := by decide +kernel
theorem dL_law_586 : decode cL_law 586 = .ok (.iload_n 3, 1) := by decide +kernel
theorem dL_law_587 : decode cL_law 587 = .ok (.iconst 1, 1) := by decide +kernel
theorem dL_law_588 : decode cL_law 588 = .ok (.iadd, 1) := by decide +kernel
theorem dL_law_589 : decode cL_law 589 = .ok (.iaload, 1) := by decide +kernel
theorem dL_law_590 : decode cL_law 590 = .ok (.invokevirtual 78, 3) := by decide +kernel
theorem dL_law_593 : decode cL_law 593 = .ok (.if_icmp .eq 282, 3) := by decide +kernel
theorem dL_law_596 : decode cL_law 596 = .ok (.iconst 0, 1) := by decide +kernel
theorem dL_law_597 : decode cL_law 597 = .ok (.ireturn, 1) := by decide +kernel
theorem dL_law_598 : decode cL_law 598 = .ok (.aload_n 1, 1) := by decide +kernel
theorem dL_law_599 : decode cL_law 599 = .ok (.invokevirtual 79, 3) := by decide +kernel
theorem dL_law_602 : decode cL_law 602 = .ok (.aload_n 2, 1) := by decide +kernel
theorem dL_law_603 : decode cL_law 603 = .ok (.invokevirtual 82, 3) := by decide +kernel
theorem dL_law_606 : decode cL_law 606 = .ok (.if_icmp .eq 269, 3) := by decide +kernel
theorem dL_law_609 : decode cL_law 609 = .ok (.iconst 0, 1) := by decide +kernel
theorem dL_law_610 : decode cL_law 610 = .ok (.ireturn, 1) := by decide +kernel
theorem dL_law_611 : decode cL_law 611 = .ok (.aload_n 1, 1) := by decide +kernel
theorem dL_law_612 : decode cL_law 612 = .ok (.invokevirtual 83, 3) := by decide +kernel
theorem dL_law_615 : decode cL_law 615 = .ok (.aload_n 2, 1) := by decide +kernel
theorem dL_law_616 : decode cL_law 616 = .ok (.invokevirtual 86, 3) := by decide +kernel
theorem dL_law_619 : decode cL_law 619 = .ok (.if_icmp .eq 256, 3) := by decide +kernel
theorem dL_law_622 : decode cL_law 622 = .ok (.iconst 0, 1) := by decide +kernel
theorem dL_law_623 : decode cL_law 623 = .ok (.ireturn, 1) := by decide +kernel
theorem dL_law_624 : decode cL_law 624 = .ok (.aload_n 1, 1) := by decide +kernel
theorem dL_law_625 : decode cL_law 625 = .ok (.aload_n 0, 1) := by decide +kernel
theorem dL_law_626 : decode cL_law 626 = .ok (.iload_n 3, 1) := by decide +kernel
theorem dL_law_627 : decode cL_law 627 = .ok (.iconst 1, 1) := by decide +kernel
theorem dL_law_628 : decode cL_law 628 = .ok (.iadd, 1) := by decide +kernel
theorem dL_law_629 : decode cL_law 629 = .ok (.iaload, 1) := by decide +kernel
theorem dL_law_630 : decode cL_law 630 = .ok (.aload_n 0, 1) := by decide +kernel
theorem dL_law_631 : decode cL_law 631 = .ok (.iload_n 3, 1) := by decide +kernel
theorem dL_law_632 : decode cL_law 632 = .ok (.iconst 2, 1) := by decide +kernel
theorem dL_law_633 : decode cL_law 633 = .ok (.iadd, 1) := by decide +kernel
theorem dL_law_634 : decode cL_law 634 = .ok (.iaload, 1) := by decide +kernel
theorem dL_law_635 : decode cL_law 635 = .ok (.invokevirtual 87, 3) := by decide +kernel
theorem dL_law_638 : decode cL_law 638 = .ok (.aload_n 2, 1) := by decide +kernel
theorem dL_law_639 : decode cL_law 639 = .ok (.aload_n 0, 1) := by decide +kernel
theorem dL_law_640 : decode cL_law 640 = .ok (.iload_n 3, 1) := by decide +kernel
theorem dL_law_641 : decode cL_law 641 = .ok (.iconst 1, 1) := by decide +kernel
theorem dL_law_642 : decode cL_law 642 = .ok (.iadd, 1) := by decide +kernel
theorem dL_law_643 : decode cL_law 643 = .ok (.iaload, 1) := by decide +kernel
theorem dL_law_644 : decode cL_law 644 = .ok (.aload_n 0, 1) := by decide +kernel
theorem dL_law_645 : decode cL_law 645 = .ok (.iload_n 3, 1) := by decide +kernel
theorem dL_law_646 : decode cL_law 646 = .ok (.iconst 2, 1) := by decide +kernel
theorem dL_law_647 : decode cL_law 647 = .ok (.iadd, 1) := by decide +kernel
theorem dL_law_648 : decode cL_law 648 = .ok (.iaload, 1) := by decide +kernel
theorem dL_law_649 : decode cL_law 649 = .ok (.invokevirtual 90, 3) := by decide +kernel
theorem dL_law_652 : decode cL_law 652 = .ok (.if_icmp .eq 223, 3) := by decide +kernel
theorem dL_law_655 : decode cL_law 655 = .ok (.iconst 0, 1) := by decide +kernel
theorem dL_law_656 : decode cL_law 656 = .ok (.ireturn, 1) := by decide +kernel
theorem dL_law_657 : decode cL_law 657 = .ok (.aload_n 1, 1) := by decide +kernel
theorem dL_law_658 : decode cL_law 658 = .ok (.aload_n 0, 1) := by decide +kernel
theorem dL_law_659 : decode cL_law 659 = .ok (.iload_n 3, 1) := by decide +kernel
theorem dL_law_660 : decode cL_law 660 = .ok (.iconst 1, 1) := by decide +kernel
theorem dL_law_661 : decode cL_law 661 = .ok (.iadd, 1) := by decide +kernel
theorem dL_law_662 : decode cL_law 662 = .ok (.iaload, 1) := by decide +kernel
theorem dL_law_663 : decode cL_law 663 = .ok (.invokevirtual 91, 3) := by decide +kernel
theorem dL_law_666 : decode cL_law 666 = .ok (.aload_n 2, 1) := by decide +kernel
theorem dL_law_667 : decode cL_law 667 = .ok (.aload_n 0, 1) := by decide +kernel
theorem dL_law_668 : decode cL_law 668 = .ok (.iload_n 3, 1) := by decide +kernel
theorem dL_law_669 : decode cL_law 669 = .ok (.iconst 1, 1) := by decide +kernel
theorem dL_law_670 : decode cL_law 670 = .ok (.iadd, 1) := by decide +kernel
theorem dL_law_671 : decode cL_law 671 = .ok (.iaload, 1) := by decide +kernel
theorem dL_law_672 : decode cL_law 672 = .ok (.invokevirtual 94, 3) := by decide +kernel
theorem dL_law_675 : decode cL_law 675 = .ok (.if_icmp .eq 200, 3) := by decide +kernel
theorem dL_law_678 : decode cL_law 678 = .ok (.iconst 0, 1) := by decide +kernel
theorem dL_law_679 : decode cL_law 679 = .ok (.ireturn, 1) := by decide +kernel
theorem dL_law_680 : decode cL_law 680 = .ok (.aload_n 1, 1) := by decide +kernel
theorem dL_law_681 : decode cL_law 681 = .ok (.invokevirtual 95, 3) := by decide +kernel
theorem dL_law_684 : decode cL_law 684 = .ok (.aload_n 2, 1) := by decide +kernel
theorem dL_law_685 : decode cL_law 685 = .ok (.invokevirtual 98, 3) := by decide +kernel
theorem dL_law_688 : decode cL_law 688 = .ok (.if_icmp .eq 187, 3) := by decide +kernel
theorem dL_law_691 : decode cL_law 691 = .ok (.iconst 0, 1) := by decide +kernel
theorem dL_law_692 : decode cL_law 692 = .ok (.ireturn, 1) := by decide +kernel
theorem dL_law_693 : decode cL_law 693 = .ok (.aload_n 1, 1) := by decide +kernel
theorem dL_law_694 : decode cL_law 694 = .ok (.aload_n 0, 1) := by decide +kernel
theorem dL_law_695 : decode cL_law 695 = .ok (.iload_n 3, 1) := by decide +kernel
theorem dL_law_696 : decode cL_law 696 = .ok (.iconst 1, 1) := by decide +kernel
theorem dL_law_697 : decode cL_law 697 = .ok (.iadd, 1) := by decide +kernel
theorem dL_law_698 : decode cL_law 698 = .ok (.iaload, 1) := by decide +kernel
theorem dL_law_699 : decode cL_law 699 = .ok (.aload_n 0, 1) := by decide +kernel
theorem dL_law_700 : decode cL_law 700 = .ok (.iload_n 3, 1) := by decide +kernel
theorem dL_law_701 : decode cL_law 701 = .ok (.iconst 2, 1) := by decide +kernel
theorem dL_law_702 : decode cL_law 702 = .ok (.iadd, 1) := by decide +kernel
theorem dL_law_703 : decode cL_law 703 = .ok (.iaload, 1) := by decide +kernel
theorem dL_law_704 : decode cL_law 704 = .ok (.aload_n 0, 1) := by decide +kernel
theorem dL_law_705 : decode cL_law 705 = .ok (.iload_n 3, 1) := by decide +kernel
theorem dL_law_706 : decode cL_law 706 = .ok (.iconst 3, 1) := by decide +kernel
theorem dL_law_707 : decode cL_law 707 = .ok (.iadd, 1) := by decide +kernel
theorem dL_law_708 : decode cL_law 708 = .ok (.iaload, 1) := by decide +kernel
theorem dL_law_709 : decode cL_law 709 = .ok (.invokevirtual 99, 3) := by decide +kernel
theorem dL_law_712 : decode cL_law 712 = .ok (.aload_n 2, 1) := by decide +kernel
theorem dL_law_713 : decode cL_law 713 = .ok (.aload_n 0, 1) := by decide +kernel
theorem dL_law_714 : decode cL_law 714 = .ok (.iload_n 3, 1) := by decide +kernel
theorem dL_law_715 : decode cL_law 715 = .ok (.iconst 1, 1) := by decide +kernel
theorem dL_law_716 : decode cL_law 716 = .ok (.iadd, 1) := by decide +kernel
theorem dL_law_717 : decode cL_law 717 = .ok (.iaload, 1) := by decide +kernel
theorem dL_law_718 : decode cL_law 718 = .ok (.aload_n 0, 1) := by decide +kernel
theorem dL_law_719 : decode cL_law 719 = .ok (.iload_n 3, 1) := by decide +kernel
theorem dL_law_720 : decode cL_law 720 = .ok (.iconst 2, 1) := by decide +kernel
theorem dL_law_721 : decode cL_law 721 = .ok (.iadd, 1) := by decide +kernel
theorem dL_law_722 : decode cL_law 722 = .ok (.iaload, 1) := by decide +kernel
theorem dL_law_723 : decode cL_law 723 = .ok (.aload_n 0, 1) := by decide +kernel
theorem dL_law_724 : decode cL_law 724 = .ok (.iload_n 3, 1) := by decide +kernel
theorem dL_law_725 : decode cL_law 725 = .ok (.iconst 3, 1) := by decide +kernel
theorem dL_law_726 : decode cL_law 726 = .ok (.iadd, 1) := by decide +kernel
theorem dL_law_727 : decode cL_law 727 = .ok (.iaload, 1) := by decide +kernel
theorem dL_law_728 : decode cL_law 728 = .ok (.invokevirtual 102, 3) := by decide +kernel
theorem dL_law_731 : decode cL_law 731 = .ok (.if_icmp .eq 144, 3) := by decide +kernel
theorem dL_law_734 : decode cL_law 734 = .ok (.iconst 0, 1) := by decide +kernel
theorem dL_law_735 : decode cL_law 735 = .ok (.ireturn, 1) := by decide +kernel
theorem dL_law_736 : decode cL_law 736 = .ok (.aload_n 1, 1) := by decide +kernel
theorem dL_law_737 : decode cL_law 737 = .ok (.aload_n 0, 1) := by decide +kernel
theorem dL_law_738 : decode cL_law 738 = .ok (.iload_n 3, 1) := by decide +kernel
theorem dL_law_739 : decode cL_law 739 = .ok (.iconst 1, 1) := by decide +kernel
theorem dL_law_740 : decode cL_law 740 = .ok (.iadd, 1) := by decide +kernel
theorem dL_law_741 : decode cL_law 741 = .ok (.iaload, 1) := by decide +kernel
theorem dL_law_742 : decode cL_law 742 = .ok (.aload_n 0, 1) := by decide +kernel
theorem dL_law_743 : decode cL_law 743 = .ok (.iload_n 3, 1) := by decide +kernel
theorem dL_law_744 : decode cL_law 744 = .ok (.iconst 2, 1) := by decide +kernel
theorem dL_law_745 : decode cL_law 745 = .ok (.iadd, 1) := by decide +kernel
theorem dL_law_746 : decode cL_law 746 = .ok (.iaload, 1) := by decide +kernel
theorem dL_law_747 : decode cL_law 747 = .ok (.invokevirtual 103, 3) := by decide +kernel
theorem dL_law_750 : decode cL_law 750 = .ok (.aload_n 2, 1) := by decide +kernel
theorem dL_law_751 : decode cL_law 751 = .ok (.aload_n 0, 1) := by decide +kernel
theorem dL_law_752 : decode cL_law 752 = .ok (.iload_n 3, 1) := by decide +kernel
theorem dL_law_753 : decode cL_law 753 = .ok (.iconst 1, 1) := by decide +kernel
theorem dL_law_754 : decode cL_law 754 = .ok (.iadd, 1) := by decide +kernel
theorem dL_law_755 : decode cL_law 755 = .ok (.iaload, 1) := by decide +kernel
theorem dL_law_756 : decode cL_law 756 = .ok (.aload_n 0, 1) := by decide +kernel
theorem dL_law_757 : decode cL_law 757 = .ok (.iload_n 3, 1) := by decide +kernel
theorem dL_law_758 : decode cL_law 758 = .ok (.iconst 2, 1) := by decide +kernel
theorem dL_law_759 : decode cL_law 759 = .ok (.iadd, 1) := by decide +kernel
theorem dL_law_760 : decode cL_law 760 = .ok (.iaload, 1) := by decide +kernel
theorem dL_law_761 : decode cL_law 761 = .ok (.invokevirtual 106, 3) := by decide +kernel
theorem dL_law_764 : decode cL_law 764 = .ok (.if_icmp .eq 111, 3) := by decide +kernel
theorem dL_law_767 : decode cL_law 767 = .ok (.iconst 0, 1) := by decide +kernel
theorem dL_law_768 : decode cL_law 768 = .ok (.ireturn, 1) := by decide +kernel
theorem dL_law_769 : decode cL_law 769 = .ok (.aload_n 1, 1) := by decide +kernel
theorem dL_law_770 : decode cL_law 770 = .ok (.aload_n 0, 1) := by decide +kernel
theorem dL_law_771 : decode cL_law 771 = .ok (.iload_n 3, 1) := by decide +kernel
theorem dL_law_772 : decode cL_law 772 = .ok (.iconst 1, 1) := by decide +kernel
theorem dL_law_773 : decode cL_law 773 = .ok (.iadd, 1) := by decide +kernel
theorem dL_law_774 : decode cL_law 774 = .ok (.iaload, 1) := by decide +kernel
theorem dL_law_775 : decode cL_law 775 = .ok (.invokevirtual 107, 3) := by decide +kernel
theorem dL_law_778 : decode cL_law 778 = .ok (.aload_n 2, 1) := by decide +kernel
theorem dL_law_779 : decode cL_law 779 = .ok (.aload_n 0, 1) := by decide +kernel
theorem dL_law_780 : decode cL_law 780 = .ok (.iload_n 3, 1) := by decide +kernel
theorem dL_law_781 : decode cL_law 781 = .ok (.iconst 1, 1) := by decide +kernel
theorem dL_law_782 : decode cL_law 782 = .ok (.iadd, 1) := by decide +kernel
theorem dL_law_783 : decode cL_law 783 = .ok (.iaload, 1) := by decide +kernel
theorem dL_law_784 : decode cL_law 784 = .ok (.invokevirtual 110, 3) := by decide +kernel
theorem dL_law_787 : decode cL_law 787 = .ok (.if_icmp .eq 88, 3) := by decide +kernel
theorem dL_law_790 : decode cL_law 790 = .ok (.iconst 0, 1) := by decide +kernel
theorem dL_law_791 : decode cL_law 791 = .ok (.ireturn, 1) := by decide +kernel
theorem dL_law_792 : decode cL_law 792 = .ok (.aload_n 1, 1) := by decide +kernel
theorem dL_law_793 : decode cL_law 793 = .ok (.invokevirtual 111, 3) := by decide +kernel
theorem dL_law_796 : decode cL_law 796 = .ok (.f2d, 1) := by decide +kernel
theorem dL_law_797 : decode cL_law 797 = .ok (.dstore 4, 2) := by decide +kernel
theorem dL_law_799 : decode cL_law 799 = .ok (.aload_n 2, 1) := by decide +kernel
theorem dL_law_800 : decode cL_law 800 = .ok (.invokevirtual 115, 3) := by decide +kernel
theorem dL_law_803 : decode cL_law 803 = .ok (.f2d, 1) := by decide +kernel
theorem dL_law_804 : decode cL_law 804 = .ok (.dstore 6, 2) := by decide +kernel
theorem dL_law_806 : decode cL_law 806 = .ok (.dload 4, 2) := by decide +kernel
theorem dL_law_808 : decode cL_law 808 = .ok (.dload 6, 2) := by decide +kernel
theorem dL_law_810 : decode cL_law 810 = .ok (.dcmp .l, 1) := by decide +kernel
theorem dL_law_811 : decode cL_law 811 = .ok (.ifCond .eq 21, 3) := by decide +kernel
theorem dL_law_814 : decode cL_law 814 = .ok (.dload 4, 2) := by decide +kernel
theorem dL_law_816 : decode cL_law 816 = .ok (.dload 4, 2) := by decide +kernel
theorem dL_law_818 : decode cL_law 818 = .ok (.dcmp .l, 1) := by decide +kernel
theorem dL_law_819 : decode cL_law 819 = .ok (.ifCond .eq 11, 3) := by decide +kernel
theorem dL_law_822 : decode cL_law 822 = .ok (.dload 6, 2) := by decide +kernel
theorem dL_law_824 : decode cL_law 824 = .ok (.dload 6, 2) := by decide +kernel
theorem dL_law_826 : decode cL_law 826 = .ok (.dcmp .l, 1) := by decide +kernel
theorem dL_law_827 : decode cL_law 827 = .ok (.ifCond .ne 5, 3) := by decide +kernel
theorem dL_law_830 : decode cL_law 830 = .ok (.iconst 0, 1) := by decide +kernel
theorem dL_law_831 : decode cL_law 831 = .ok (.ireturn, 1) := by decide +kernel
theorem dL_law_832 : decode cL_law 832 = .ok (.goto 43, 3) := by decide +kernel
theorem dL_law_835 : decode cL_law 835 = .ok (.aload_n 1, 1) := by decide +kernel
theorem dL_law_836 : decode cL_law 836 = .ok (.invokevirtual 116, 3) := by decide +kernel
theorem dL_law_839 : decode cL_law 839 = .ok (.aload_n 2, 1) := by decide +kernel
theorem dL_law_840 : decode cL_law 840 = .ok (.invokevirtual 119, 3) := by decide +kernel
theorem dL_law_843 : decode cL_law 843 = .ok (.if_icmp .eq 32, 3) := by decide +kernel
theorem dL_law_846 : decode cL_law 846 = .ok (.iconst 0, 1) := by decide +kernel
theorem dL_law_847 : decode cL_law 847 = .ok (.ireturn, 1) := by decide +kernel
theorem dL_law_848 : decode cL_law 848 = .ok (.aload_n 1, 1) := by decide +kernel
theorem dL_law_849 : decode cL_law 849 = .ok (.invokevirtual 120, 3) := by decide +kernel
theorem dL_law_852 : decode cL_law 852 = .ok (.aload_n 2, 1) := by decide +kernel
theorem dL_law_853 : decode cL_law 853 = .ok (.invokevirtual 123, 3) := by decide +kernel
theorem dL_law_856 : decode cL_law 856 = .ok (.if_icmp .eq 19, 3) := by decide +kernel
theorem dL_law_859 : decode cL_law 859 = .ok (.iconst 0, 1) := by decide +kernel
theorem dL_law_860 : decode cL_law 860 = .ok (.ireturn, 1) := by decide +kernel
theorem dL_law_861 : decode cL_law 861 = .ok (.aload_n 1, 1) := by decide +kernel
theorem dL_law_862 : decode cL_law 862 = .ok (.invokevirtual 124, 3) := by decide +kernel
theorem dL_law_865 : decode cL_law 865 = .ok (.aload_n 2, 1) := by decide +kernel
theorem dL_law_866 : decode cL_law 866 = .ok (.invokevirtual 127, 3) := by decide +kernel
theorem dL_law_869 : decode cL_law 869 = .ok (.lcmp, 1) := by decide +kernel
theorem dL_law_870 : decode cL_law 870 = .ok (.ifCond .eq 5, 3) := by decide +kernel
theorem dL_law_873 : decode cL_law 873 = .ok (.iconst 0, 1) := by decide +kernel
theorem dL_law_874 : decode cL_law 874 = .ok (.ireturn, 1) := by decide +kernel
theorem dL_law_875 : decode cL_law 875 = .ok (.iinc 3 4, 3) := by decide +kernel
theorem dL_law_878 : decode cL_law 878 = .ok (.goto (-860), 3) := by decide +kernel
theorem dL_law_881 : decode cL_law 881 = .ok (.iconst 1, 1) := by decide +kernel
theorem dL_law_882 : decode cL_law 882 = .ok (.ireturn, 1) := by decide +kernel
abbrev vwCl : List vw_C := [(RX0, TX0, 4), (RX1, TX1, 3), (RX2, TX2, 4), (RX3, TX3, 10), (RX5, TX5, 12), (RX6, TX6, 1), (RX7, TX7, 5), (RX8, TX8, 2), (RX9, TX9, 5), (RX10, TX10, 21)]
end
section
theorem wd_0 : (Cond.selects RX9 yX9_isMember yX9_isMember : Cond) ∈ wG := wG_of 0 (by decide +kernel) rfl
theorem wd_1 : (Cond.selects RX9 yX9_areEnough yX9_areEnough : Cond) ∈ wG := wG_of 1 (by decide +kernel) rfl
theorem wd_2 : (Cond.selects RX9 yX9_sumOfTimes yX9_sumOfTimes : Cond) ∈ wG := wG_of 2 (by decide +kernel) rfl
theorem wd_3 : (Cond.selects RX10 yX10_act yX10_act : Cond) ∈ wG := wG_of 3 (by decide +kernel) rfl
theorem wd_4 : (Cond.selects RX10 yX10_isMember yX10_isMember : Cond) ∈ wG := wG_of 4 (by decide +kernel) rfl
theorem wd_5 : (Cond.selects RX10 yX10_sets yX10_sets : Cond) ∈ wG := wG_of 5 (by decide +kernel) rfl
theorem wd_6 : (Cond.selects RX10 yX10_told yX10_told : Cond) ∈ wG := wG_of 6 (by decide +kernel) rfl
theorem wd_7 : (Cond.selects RX10 yX10_has yX10_has : Cond) ∈ wG := wG_of 7 (by decide +kernel) rfl
theorem wd_8 : (Cond.selects RX10 yX10_lives yX10_lives : Cond) ∈ wG := wG_of 8 (by decide +kernel) rfl
theorem wd_9 : (Cond.selects RX10 yX10_seeds yX10_seeds : Cond) ∈ wG := wG_of 9 (by decide +kernel) rfl
theorem wd_10 : (Cond.selects RX10 yX10_lists yX10_lists : Cond) ∈ wG := wG_of 10 (by decide +kernel) rfl
theorem wd_11 : (Cond.selects RX10 yX10_lot yX10_lot : Cond) ∈ wG := wG_of 11 (by decide +kernel) rfl
theorem wd_12 : (Cond.selects RX10 yX10_wrongAt yX10_wrongAt : Cond) ∈ wG := wG_of 12 (by decide +kernel) rfl
theorem wd_13 : (Cond.selects RX10 yX10_readsGroup yX10_readsGroup : Cond) ∈ wG := wG_of 13 (by decide +kernel) rfl
theorem wd_14 : (Cond.selects RX10 yX10_sign yX10_sign : Cond) ∈ wG := wG_of 14 (by decide +kernel) rfl
theorem wd_15 : (Cond.selects RX10 yX10_works yX10_works : Cond) ∈ wG := wG_of 15 (by decide +kernel) rfl
theorem wd_16 : (Cond.selects RX10 yX10_asks yX10_asks : Cond) ∈ wG := wG_of 16 (by decide +kernel) rfl
theorem wd_17 : (Cond.selects RX10 yX10_isIn yX10_isIn : Cond) ∈ wG := wG_of 17 (by decide +kernel) rfl
theorem wd_18 : (Cond.selects RX10 yX10_distance yX10_distance : Cond) ∈ wG := wG_of 18 (by decide +kernel) rfl
theorem wd_19 : (Cond.selects RX10 yX10_makes yX10_makes : Cond) ∈ wG := wG_of 19 (by decide +kernel) rfl
theorem wd_20 : (Cond.selects RX10 yX10_roleOf yX10_roleOf : Cond) ∈ wG := wG_of 20 (by decide +kernel) rfl
theorem wd_21 : (Cond.selects RX10 yX10_pastOf yX10_pastOf : Cond) ∈ wG := wG_of 21 (by decide +kernel) rfl
theorem wd_22 : (Cond.initialized RL : Cond) ∈ wG := wG_of 22 (by decide +kernel) rfl
theorem wd_23 : (Cond.initialized RX9 : Cond) ∈ wG := wG_of 23 (by decide +kernel) rfl
theorem wd_24 : (Cond.initialized RX7 : Cond) ∈ wG := wG_of 24 (by decide +kernel) rfl
theorem wd_25 : (Cond.initialized RX6 : Cond) ∈ wG := wG_of 25 (by decide +kernel) rfl
theorem wd_26 : (Cond.initialized RX3 : Cond) ∈ wG := wG_of 26 (by decide +kernel) rfl
theorem wd_27 : (Cond.initialized RX0 : Cond) ∈ wG := wG_of 27 (by decide +kernel) rfl
theorem wd_28 : (Cond.initialized RX2 : Cond) ∈ wG := wG_of 28 (by decide +kernel) rfl
theorem wd_29 : (Cond.initialized RX1 : Cond) ∈ wG := wG_of 29 (by decide +kernel) rfl
theorem wd_30 : (Cond.initialized RX8 : Cond) ∈ wG := wG_of 30 (by decide +kernel) rfl
theorem wd_31 : (Cond.initialized RX5 : Cond) ∈ wG := wG_of 31 (by decide +kernel) rfl
theorem wd_32 : (Cond.initialized RX10 : Cond) ∈ wG := wG_of 32 (by decide +kernel) rfl
theorem wd_33 : (Cond.initialized RJ9 : Cond) ∈ wG := wG_of 33 (by decide +kernel) rfl
theorem wd_34 : (Cond.initialized RJ10 : Cond) ∈ wG := wG_of 34 (by decide +kernel) rfl
theorem wd_35 : (Cond.initialized RX4 : Cond) ∈ wG := wG_of 35 (by decide +kernel) rfl
theorem wd_36 : (Cond.initialized RJ6 : Cond) ∈ wG := wG_of 36 (by decide +kernel) rfl
theorem wd_37 : (Cond.classLink RL 7 RX9 : Cond) ∈ wG := wG_of 37 (by decide +kernel) rfl
theorem wd_38 : (Cond.instantiable RX9 5 : Cond) ∈ wG := wG_of 38 (by decide +kernel) rfl
theorem wd_39 : (Cond.methodLink RL 9 yX9_init : Cond) ∈ wG := wG_of 39 (by decide +kernel) rfl
theorem wd_40 : (Cond.instanceMethod yX9_init : Cond) ∈ wG := wG_of 40 (by decide +kernel) rfl
theorem wd_41 : (Cond.code yX9_init cX9_init 1 none : Cond) ∈ wG := wG_of 41 (by decide +kernel) rfl
theorem wd_42 : (Cond.methodLink RX9 3 objectInit : Cond) ∈ wG := wG_of 42 (by decide +kernel) rfl
theorem wd_43 : (Cond.instanceMethod objectInit : Cond) ∈ wG := wG_of 43 (by decide +kernel) rfl
theorem wd_44 : (Cond.code objectInit ⟨#[0xb1]⟩ 1 none : Cond) ∈ wG := wG_of 44 (by decide +kernel) rfl
theorem wd_45 : (Cond.classLink RX9 9 RX7 : Cond) ∈ wG := wG_of 45 (by decide +kernel) rfl
theorem wd_46 : (Cond.instantiable RX7 5 : Cond) ∈ wG := wG_of 46 (by decide +kernel) rfl
theorem wd_47 : (Cond.methodLink RX9 11 yX7_init : Cond) ∈ wG := wG_of 47 (by decide +kernel) rfl
theorem wd_48 : (Cond.instanceMethod yX7_init : Cond) ∈ wG := wG_of 48 (by decide +kernel) rfl
theorem wd_49 : (Cond.code yX7_init cX7_init 1 none : Cond) ∈ wG := wG_of 49 (by decide +kernel) rfl
theorem wd_50 : (Cond.methodLink RX7 3 objectInit : Cond) ∈ wG := wG_of 50 (by decide +kernel) rfl
theorem wd_51 : (Cond.classLink RX7 9 RX6 : Cond) ∈ wG := wG_of 51 (by decide +kernel) rfl
theorem wd_52 : (Cond.instantiable RX6 1 : Cond) ∈ wG := wG_of 52 (by decide +kernel) rfl
theorem wd_53 : (Cond.methodLink RX7 11 yX6_init : Cond) ∈ wG := wG_of 53 (by decide +kernel) rfl
theorem wd_54 : (Cond.instanceMethod yX6_init : Cond) ∈ wG := wG_of 54 (by decide +kernel) rfl
theorem wd_55 : (Cond.code yX6_init cX6_init 2 none : Cond) ∈ wG := wG_of 55 (by decide +kernel) rfl
theorem wd_56 : (Cond.methodLink RX6 1 objectInit : Cond) ∈ wG := wG_of 56 (by decide +kernel) rfl
theorem wd_57 : (Cond.fieldLink RX6 7 "RepairDuty$Row" "cells" "[I" : Cond) ∈ wG := wG_of 57 (by decide +kernel) rfl
theorem wd_58 : (Cond.laysFinal RX6 "RepairDuty$Row" "cells" "[I" : Cond) ∈ wG := wG_of 58 (by decide +kernel) rfl
theorem wd_61 : (Cond.arrayClass .int : Cond) ∈ wG := wG_of 61 (by decide +kernel) rfl
theorem wd_62 : (Cond.classLink RX7 20 RX3 : Cond) ∈ wG := wG_of 62 (by decide +kernel) rfl
theorem wd_63 : (Cond.instantiable RX3 10 : Cond) ∈ wG := wG_of 63 (by decide +kernel) rfl
theorem wd_65 : (Cond.instanceMethod yX3_init : Cond) ∈ wG := wG_of 65 (by decide +kernel) rfl
theorem wd_66 : (Cond.code yX3_init cX3_init 1 none : Cond) ∈ wG := wG_of 66 (by decide +kernel) rfl
theorem wd_67 : (Cond.methodLink RX3 3 objectInit : Cond) ∈ wG := wG_of 67 (by decide +kernel) rfl
theorem wd_68 : (Cond.classLink RX3 9 RX6 : Cond) ∈ wG := wG_of 68 (by decide +kernel) rfl
theorem wd_69 : (Cond.methodLink RX3 11 yX6_init : Cond) ∈ wG := wG_of 69 (by decide +kernel) rfl
theorem wd_70 : (Cond.fieldLink RX3 41 "RepairDuty$Members" "count" "I" : Cond) ∈ wG := wG_of 70 (by decide +kernel) rfl
theorem wd_71 : (Cond.fieldLink RX0 27 "RepairDuty$Members" "count" "I" : Cond) ∈ wG := wG_of 71 (by decide +kernel) rfl
theorem wd_72 : (Cond.fieldLink RX9 56 "RepairDuty$Members" "count" "I" : Cond) ∈ wG := wG_of 72 (by decide +kernel) rfl
theorem wd_73 : (Cond.fieldLink RX7 79 "RepairDuty$Members" "count" "I" : Cond) ∈ wG := wG_of 73 (by decide +kernel) rfl
theorem wd_74 : (Cond.fieldLink RX5 128 "RepairDuty$Members" "count" "I" : Cond) ∈ wG := wG_of 74 (by decide +kernel) rfl
theorem wd_75 : (Cond.fieldLink RX5 33 "RepairDuty$Members" "living" "I" : Cond) ∈ wG := wG_of 75 (by decide +kernel) rfl
theorem wd_76 : (Cond.fieldLink RX3 49 "RepairDuty$Members" "living" "I" : Cond) ∈ wG := wG_of 76 (by decide +kernel) rfl
theorem wd_77 : (Cond.fieldLink RX9 89 "RepairDuty$Members" "living" "I" : Cond) ∈ wG := wG_of 77 (by decide +kernel) rfl
theorem wd_78 : (Cond.fieldLink RX3 14 "RepairDuty$Members" "weights" "LRepairDuty$Row;" : Cond) ∈ wG := wG_of 78 (by decide +kernel) rfl
theorem wd_79 : (Cond.fieldLink RX9 74 "RepairDuty$Members" "weights" "LRepairDuty$Row;" : Cond) ∈ wG := wG_of 79 (by decide +kernel) rfl
theorem wd_80 : (Cond.fieldLink RX0 71 "RepairDuty$Members" "weights" "LRepairDuty$Row;" : Cond) ∈ wG := wG_of 80 (by decide +kernel) rfl
theorem wd_81 : (Cond.fieldLink RX3 20 "RepairDuty$Members" "positions" "LRepairDuty$Row;" : Cond) ∈ wG := wG_of 81 (by decide +kernel) rfl
theorem wd_82 : (Cond.fieldLink RX9 83 "RepairDuty$Members" "positions" "LRepairDuty$Row;" : Cond) ∈ wG := wG_of 82 (by decide +kernel) rfl
theorem wd_83 : (Cond.fieldLink RX3 23 "RepairDuty$Members" "credits" "LRepairDuty$Row;" : Cond) ∈ wG := wG_of 83 (by decide +kernel) rfl
theorem wd_84 : (Cond.fieldLink RX7 67 "RepairDuty$Members" "credits" "LRepairDuty$Row;" : Cond) ∈ wG := wG_of 84 (by decide +kernel) rfl
theorem wd_85 : (Cond.fieldLink RX9 96 "RepairDuty$Members" "credits" "LRepairDuty$Row;" : Cond) ∈ wG := wG_of 85 (by decide +kernel) rfl
theorem wd_86 : (Cond.fieldLink RX3 26 "RepairDuty$Members" "repaired" "LRepairDuty$Row;" : Cond) ∈ wG := wG_of 86 (by decide +kernel) rfl
theorem wd_87 : (Cond.fieldLink RX7 76 "RepairDuty$Members" "repaired" "LRepairDuty$Row;" : Cond) ∈ wG := wG_of 87 (by decide +kernel) rfl
theorem wd_88 : (Cond.fieldLink RX9 108 "RepairDuty$Members" "repaired" "LRepairDuty$Row;" : Cond) ∈ wG := wG_of 88 (by decide +kernel) rfl
theorem wd_89 : (Cond.fieldLink RX3 29 "RepairDuty$Members" "missed" "LRepairDuty$Row;" : Cond) ∈ wG := wG_of 89 (by decide +kernel) rfl
theorem wd_90 : (Cond.fieldLink RX7 85 "RepairDuty$Members" "missed" "LRepairDuty$Row;" : Cond) ∈ wG := wG_of 90 (by decide +kernel) rfl
theorem wd_91 : (Cond.fieldLink RX9 111 "RepairDuty$Members" "missed" "LRepairDuty$Row;" : Cond) ∈ wG := wG_of 91 (by decide +kernel) rfl
theorem wd_92 : (Cond.fieldLink RX3 32 "RepairDuty$Members" "stages" "LRepairDuty$Row;" : Cond) ∈ wG := wG_of 92 (by decide +kernel) rfl
theorem wd_93 : (Cond.fieldLink RX9 114 "RepairDuty$Members" "stages" "LRepairDuty$Row;" : Cond) ∈ wG := wG_of 93 (by decide +kernel) rfl
theorem wd_94 : (Cond.fieldLink RX3 35 "RepairDuty$Members" "told" "LRepairDuty$Row;" : Cond) ∈ wG := wG_of 94 (by decide +kernel) rfl
theorem wd_95 : (Cond.fieldLink RX9 148 "RepairDuty$Members" "told" "LRepairDuty$Row;" : Cond) ∈ wG := wG_of 95 (by decide +kernel) rfl
theorem wd_96 : (Cond.fieldLink RX3 38 "RepairDuty$Members" "secrets" "LRepairDuty$Row;" : Cond) ∈ wG := wG_of 96 (by decide +kernel) rfl
theorem wd_97 : (Cond.fieldLink RX0 38 "RepairDuty$Members" "secrets" "LRepairDuty$Row;" : Cond) ∈ wG := wG_of 97 (by decide +kernel) rfl
theorem wd_98 : (Cond.fieldLink RX9 155 "RepairDuty$Members" "secrets" "LRepairDuty$Row;" : Cond) ∈ wG := wG_of 98 (by decide +kernel) rfl
theorem wd_99 : (Cond.lays RX3 "RepairDuty$Members" "count" "I" : Cond) ∈ wG := wG_of 99 (by decide +kernel) rfl
theorem wd_101 : (Cond.lays RX3 "RepairDuty$Members" "living" "I" : Cond) ∈ wG := wG_of 101 (by decide +kernel) rfl
theorem wd_103 : (Cond.laysFinal RX3 "RepairDuty$Members" "weights" "LRepairDuty$Row;" : Cond) ∈ wG := wG_of 103 (by decide +kernel) rfl
theorem wd_105 : (Cond.laysFinal RX3 "RepairDuty$Members" "positions" "LRepairDuty$Row;" : Cond) ∈ wG := wG_of 105 (by decide +kernel) rfl
theorem wd_107 : (Cond.laysFinal RX3 "RepairDuty$Members" "credits" "LRepairDuty$Row;" : Cond) ∈ wG := wG_of 107 (by decide +kernel) rfl
theorem wd_109 : (Cond.laysFinal RX3 "RepairDuty$Members" "repaired" "LRepairDuty$Row;" : Cond) ∈ wG := wG_of 109 (by decide +kernel) rfl
theorem wd_111 : (Cond.laysFinal RX3 "RepairDuty$Members" "missed" "LRepairDuty$Row;" : Cond) ∈ wG := wG_of 111 (by decide +kernel) rfl
theorem wd_113 : (Cond.laysFinal RX3 "RepairDuty$Members" "stages" "LRepairDuty$Row;" : Cond) ∈ wG := wG_of 113 (by decide +kernel) rfl
theorem wd_115 : (Cond.laysFinal RX3 "RepairDuty$Members" "told" "LRepairDuty$Row;" : Cond) ∈ wG := wG_of 115 (by decide +kernel) rfl
theorem wd_117 : (Cond.laysFinal RX3 "RepairDuty$Members" "secrets" "LRepairDuty$Row;" : Cond) ∈ wG := wG_of 117 (by decide +kernel) rfl
theorem wd_120 : (Cond.classLink RX7 27 RX0 : Cond) ∈ wG := wG_of 120 (by decide +kernel) rfl
theorem wd_121 : (Cond.instantiable RX0 4 : Cond) ∈ wG := wG_of 121 (by decide +kernel) rfl
theorem wd_123 : (Cond.instanceMethod yX0_init : Cond) ∈ wG := wG_of 123 (by decide +kernel) rfl
theorem wd_124 : (Cond.code yX0_init cX0_init 1 none : Cond) ∈ wG := wG_of 124 (by decide +kernel) rfl
theorem wd_125 : (Cond.methodLink RX0 3 objectInit : Cond) ∈ wG := wG_of 125 (by decide +kernel) rfl
theorem wd_126 : (Cond.classLink RX0 9 RX6 : Cond) ∈ wG := wG_of 126 (by decide +kernel) rfl
theorem wd_127 : (Cond.methodLink RX0 11 yX6_init : Cond) ∈ wG := wG_of 127 (by decide +kernel) rfl
theorem wd_128 : (Cond.fieldLink RX0 20 "RepairDuty$Duties" "round" "I" : Cond) ∈ wG := wG_of 128 (by decide +kernel) rfl
theorem wd_129 : (Cond.fieldLink RX5 79 "RepairDuty$Duties" "round" "I" : Cond) ∈ wG := wG_of 129 (by decide +kernel) rfl
theorem wd_130 : (Cond.fieldLink RX7 88 "RepairDuty$Duties" "round" "I" : Cond) ∈ wG := wG_of 130 (by decide +kernel) rfl
theorem wd_131 : (Cond.fieldLink RX9 124 "RepairDuty$Duties" "round" "I" : Cond) ∈ wG := wG_of 131 (by decide +kernel) rfl
theorem wd_132 : (Cond.fieldLink RX0 24 "RepairDuty$Duties" "seed" "I" : Cond) ∈ wG := wG_of 132 (by decide +kernel) rfl
theorem wd_133 : (Cond.fieldLink RX5 59 "RepairDuty$Duties" "seed" "I" : Cond) ∈ wG := wG_of 133 (by decide +kernel) rfl
theorem wd_134 : (Cond.fieldLink RX9 175 "RepairDuty$Duties" "seed" "I" : Cond) ∈ wG := wG_of 134 (by decide +kernel) rfl
theorem wd_135 : (Cond.fieldLink RX0 68 "RepairDuty$Duties" "size" "I" : Cond) ∈ wG := wG_of 135 (by decide +kernel) rfl
theorem wd_136 : (Cond.fieldLink RX5 93 "RepairDuty$Duties" "size" "I" : Cond) ∈ wG := wG_of 136 (by decide +kernel) rfl
theorem wd_137 : (Cond.fieldLink RX9 265 "RepairDuty$Duties" "size" "I" : Cond) ∈ wG := wG_of 137 (by decide +kernel) rfl
theorem wd_138 : (Cond.fieldLink RX0 14 "RepairDuty$Duties" "list" "LRepairDuty$Row;" : Cond) ∈ wG := wG_of 138 (by decide +kernel) rfl
theorem wd_139 : (Cond.lays RX0 "RepairDuty$Duties" "round" "I" : Cond) ∈ wG := wG_of 139 (by decide +kernel) rfl
theorem wd_141 : (Cond.lays RX0 "RepairDuty$Duties" "seed" "I" : Cond) ∈ wG := wG_of 141 (by decide +kernel) rfl
theorem wd_143 : (Cond.lays RX0 "RepairDuty$Duties" "size" "I" : Cond) ∈ wG := wG_of 143 (by decide +kernel) rfl
theorem wd_145 : (Cond.laysFinal RX0 "RepairDuty$Duties" "list" "LRepairDuty$Row;" : Cond) ∈ wG := wG_of 145 (by decide +kernel) rfl
theorem wd_148 : (Cond.classLink RX7 37 RX2 : Cond) ∈ wG := wG_of 148 (by decide +kernel) rfl
theorem wd_149 : (Cond.instantiable RX2 4 : Cond) ∈ wG := wG_of 149 (by decide +kernel) rfl
theorem wd_151 : (Cond.instanceMethod yX2_init : Cond) ∈ wG := wG_of 151 (by decide +kernel) rfl
theorem wd_152 : (Cond.code yX2_init cX2_init 1 none : Cond) ∈ wG := wG_of 152 (by decide +kernel) rfl
theorem wd_153 : (Cond.methodLink RX2 3 objectInit : Cond) ∈ wG := wG_of 153 (by decide +kernel) rfl
theorem wd_154 : (Cond.classLink RX2 9 RX6 : Cond) ∈ wG := wG_of 154 (by decide +kernel) rfl
theorem wd_155 : (Cond.methodLink RX2 11 yX6_init : Cond) ∈ wG := wG_of 155 (by decide +kernel) rfl
theorem wd_156 : (Cond.fieldLink RX2 20 "RepairDuty$Log" "made" "I" : Cond) ∈ wG := wG_of 156 (by decide +kernel) rfl
theorem wd_157 : (Cond.fieldLink RX9 131 "RepairDuty$Log" "made" "I" : Cond) ∈ wG := wG_of 157 (by decide +kernel) rfl
theorem wd_158 : (Cond.fieldLink RX2 48 "RepairDuty$Log" "asked" "I" : Cond) ∈ wG := wG_of 158 (by decide +kernel) rfl
theorem wd_159 : (Cond.fieldLink RX9 136 "RepairDuty$Log" "asked" "I" : Cond) ∈ wG := wG_of 159 (by decide +kernel) rfl
theorem wd_160 : (Cond.fieldLink RX2 57 "RepairDuty$Log" "silent" "I" : Cond) ∈ wG := wG_of 160 (by decide +kernel) rfl
theorem wd_161 : (Cond.fieldLink RX9 139 "RepairDuty$Log" "silent" "I" : Cond) ∈ wG := wG_of 161 (by decide +kernel) rfl
theorem wd_162 : (Cond.fieldLink RX2 14 "RepairDuty$Log" "numbers" "LRepairDuty$Row;" : Cond) ∈ wG := wG_of 162 (by decide +kernel) rfl
theorem wd_163 : (Cond.lays RX2 "RepairDuty$Log" "made" "I" : Cond) ∈ wG := wG_of 163 (by decide +kernel) rfl
theorem wd_165 : (Cond.lays RX2 "RepairDuty$Log" "asked" "I" : Cond) ∈ wG := wG_of 165 (by decide +kernel) rfl
theorem wd_167 : (Cond.lays RX2 "RepairDuty$Log" "silent" "I" : Cond) ∈ wG := wG_of 167 (by decide +kernel) rfl
theorem wd_169 : (Cond.laysFinal RX2 "RepairDuty$Log" "numbers" "LRepairDuty$Row;" : Cond) ∈ wG := wG_of 169 (by decide +kernel) rfl
theorem wd_172 : (Cond.methodLink RX7 44 yX6_put : Cond) ∈ wG := wG_of 172 (by decide +kernel) rfl
theorem wd_173 : (Cond.instanceMethod yX6_put : Cond) ∈ wG := wG_of 173 (by decide +kernel) rfl
theorem wd_174 : (Cond.selects RX6 yX6_put yX6_put : Cond) ∈ wG := wG_of 174 (by decide +kernel) rfl
theorem wd_175 : (Cond.code yX6_put cX6_put 3 none : Cond) ∈ wG := wG_of 175 (by decide +kernel) rfl
theorem wd_176 : (Cond.fieldLink RX7 14 "RepairDuty$State" "settings" "LRepairDuty$Row;" : Cond) ∈ wG := wG_of 176 (by decide +kernel) rfl
theorem wd_177 : (Cond.fieldLink RX5 72 "RepairDuty$State" "settings" "LRepairDuty$Row;" : Cond) ∈ wG := wG_of 177 (by decide +kernel) rfl
theorem wd_178 : (Cond.fieldLink RX9 121 "RepairDuty$State" "settings" "LRepairDuty$Row;" : Cond) ∈ wG := wG_of 178 (by decide +kernel) rfl
theorem wd_179 : (Cond.fieldLink RX7 23 "RepairDuty$State" "members" "LRepairDuty$Members;" : Cond) ∈ wG := wG_of 179 (by decide +kernel) rfl
theorem wd_180 : (Cond.fieldLink RX5 27 "RepairDuty$State" "members" "LRepairDuty$Members;" : Cond) ∈ wG := wG_of 180 (by decide +kernel) rfl
theorem wd_181 : (Cond.fieldLink RX9 52 "RepairDuty$State" "members" "LRepairDuty$Members;" : Cond) ∈ wG := wG_of 181 (by decide +kernel) rfl
theorem wd_182 : (Cond.fieldLink RX7 30 "RepairDuty$State" "duties" "LRepairDuty$Duties;" : Cond) ∈ wG := wG_of 182 (by decide +kernel) rfl
theorem wd_183 : (Cond.fieldLink RX5 55 "RepairDuty$State" "duties" "LRepairDuty$Duties;" : Cond) ∈ wG := wG_of 183 (by decide +kernel) rfl
theorem wd_184 : (Cond.fieldLink RX9 99 "RepairDuty$State" "duties" "LRepairDuty$Duties;" : Cond) ∈ wG := wG_of 184 (by decide +kernel) rfl
theorem wd_185 : (Cond.fieldLink RX7 34 "RepairDuty$State" "lost" "LRepairDuty$Row;" : Cond) ∈ wG := wG_of 185 (by decide +kernel) rfl
theorem wd_186 : (Cond.fieldLink RX5 38 "RepairDuty$State" "lost" "LRepairDuty$Row;" : Cond) ∈ wG := wG_of 186 (by decide +kernel) rfl
theorem wd_187 : (Cond.fieldLink RX9 184 "RepairDuty$State" "lost" "LRepairDuty$Row;" : Cond) ∈ wG := wG_of 187 (by decide +kernel) rfl
theorem wd_188 : (Cond.fieldLink RX7 40 "RepairDuty$State" "log" "LRepairDuty$Log;" : Cond) ∈ wG := wG_of 188 (by decide +kernel) rfl
theorem wd_189 : (Cond.fieldLink RX9 127 "RepairDuty$State" "log" "LRepairDuty$Log;" : Cond) ∈ wG := wG_of 189 (by decide +kernel) rfl
theorem wd_190 : (Cond.laysFinal RX7 "RepairDuty$State" "settings" "LRepairDuty$Row;" : Cond) ∈ wG := wG_of 190 (by decide +kernel) rfl
theorem wd_192 : (Cond.laysFinal RX7 "RepairDuty$State" "members" "LRepairDuty$Members;" : Cond) ∈ wG := wG_of 192 (by decide +kernel) rfl
theorem wd_194 : (Cond.laysFinal RX7 "RepairDuty$State" "duties" "LRepairDuty$Duties;" : Cond) ∈ wG := wG_of 194 (by decide +kernel) rfl
theorem wd_196 : (Cond.laysFinal RX7 "RepairDuty$State" "lost" "LRepairDuty$Row;" : Cond) ∈ wG := wG_of 196 (by decide +kernel) rfl
theorem wd_198 : (Cond.laysFinal RX7 "RepairDuty$State" "log" "LRepairDuty$Log;" : Cond) ∈ wG := wG_of 198 (by decide +kernel) rfl
theorem wd_201 : (Cond.classLink RX9 16 RX1 : Cond) ∈ wG := wG_of 201 (by decide +kernel) rfl
theorem wd_202 : (Cond.instantiable RX1 3 : Cond) ∈ wG := wG_of 202 (by decide +kernel) rfl
theorem wd_203 : (Cond.methodLink RX9 18 yX1_init : Cond) ∈ wG := wG_of 203 (by decide +kernel) rfl
theorem wd_204 : (Cond.instanceMethod yX1_init : Cond) ∈ wG := wG_of 204 (by decide +kernel) rfl
theorem wd_205 : (Cond.code yX1_init cX1_init 2 none : Cond) ∈ wG := wG_of 205 (by decide +kernel) rfl
theorem wd_206 : (Cond.methodLink RX1 3 objectInit : Cond) ∈ wG := wG_of 206 (by decide +kernel) rfl
theorem wd_207 : (Cond.classLink RX1 9 RX7 : Cond) ∈ wG := wG_of 207 (by decide +kernel) rfl
theorem wd_209 : (Cond.methodLink RX1 17 yX7_init : Cond) ∈ wG := wG_of 209 (by decide +kernel) rfl
theorem wd_210 : (Cond.fieldLink RX1 18 "RepairDuty$History" "count" "I" : Cond) ∈ wG := wG_of 210 (by decide +kernel) rfl
theorem wd_211 : (Cond.fieldLink RX9 248 "RepairDuty$History" "count" "I" : Cond) ∈ wG := wG_of 211 (by decide +kernel) rfl
theorem wd_212 : (Cond.fieldLink RX1 30 "RepairDuty$History" "oldest" "I" : Cond) ∈ wG := wG_of 212 (by decide +kernel) rfl
theorem wd_213 : (Cond.fieldLink RX1 11 "RepairDuty$History" "states" "[LRepairDuty$State;" : Cond) ∈ wG := wG_of 213 (by decide +kernel) rfl
theorem wd_214 : (Cond.lays RX1 "RepairDuty$History" "count" "I" : Cond) ∈ wG := wG_of 214 (by decide +kernel) rfl
theorem wd_216 : (Cond.lays RX1 "RepairDuty$History" "oldest" "I" : Cond) ∈ wG := wG_of 216 (by decide +kernel) rfl
theorem wd_218 : (Cond.laysFinal RX1 "RepairDuty$History" "states" "[LRepairDuty$State;" : Cond) ∈ wG := wG_of 218 (by decide +kernel) rfl
theorem wd_221 : (Cond.classLink RX9 23 RX8 : Cond) ∈ wG := wG_of 221 (by decide +kernel) rfl
theorem wd_222 : (Cond.instantiable RX8 2 : Cond) ∈ wG := wG_of 222 (by decide +kernel) rfl
theorem wd_224 : (Cond.instanceMethod yX8_init : Cond) ∈ wG := wG_of 224 (by decide +kernel) rfl
theorem wd_225 : (Cond.code yX8_init cX8_init 1 none : Cond) ∈ wG := wG_of 225 (by decide +kernel) rfl
theorem wd_226 : (Cond.methodLink RX8 3 objectInit : Cond) ∈ wG := wG_of 226 (by decide +kernel) rfl
theorem wd_227 : (Cond.classLink RX8 9 RX6 : Cond) ∈ wG := wG_of 227 (by decide +kernel) rfl
theorem wd_228 : (Cond.methodLink RX8 11 yX6_init : Cond) ∈ wG := wG_of 228 (by decide +kernel) rfl
theorem wd_229 : (Cond.fieldLink RX8 20 "RepairDuty$Text" "length" "I" : Cond) ∈ wG := wG_of 229 (by decide +kernel) rfl
theorem wd_230 : (Cond.fieldLink RX9 195 "RepairDuty$Text" "length" "I" : Cond) ∈ wG := wG_of 230 (by decide +kernel) rfl
theorem wd_231 : (Cond.fieldLink RX8 14 "RepairDuty$Text" "signs" "LRepairDuty$Row;" : Cond) ∈ wG := wG_of 231 (by decide +kernel) rfl
theorem wd_232 : (Cond.lays RX8 "RepairDuty$Text" "length" "I" : Cond) ∈ wG := wG_of 232 (by decide +kernel) rfl
theorem wd_234 : (Cond.laysFinal RX8 "RepairDuty$Text" "signs" "LRepairDuty$Row;" : Cond) ∈ wG := wG_of 234 (by decide +kernel) rfl
theorem wd_237 : (Cond.classLink RX9 30 RX5 : Cond) ∈ wG := wG_of 237 (by decide +kernel) rfl
theorem wd_238 : (Cond.instantiable RX5 12 : Cond) ∈ wG := wG_of 238 (by decide +kernel) rfl
theorem wd_240 : (Cond.instanceMethod yX5_init : Cond) ∈ wG := wG_of 240 (by decide +kernel) rfl
theorem wd_241 : (Cond.code yX5_init cX5_init 1 none : Cond) ∈ wG := wG_of 241 (by decide +kernel) rfl
theorem wd_242 : (Cond.methodLink RX5 3 objectInit : Cond) ∈ wG := wG_of 242 (by decide +kernel) rfl
theorem wd_243 : (Cond.classLink RX5 9 RX6 : Cond) ∈ wG := wG_of 243 (by decide +kernel) rfl
theorem wd_244 : (Cond.methodLink RX5 11 yX6_init : Cond) ∈ wG := wG_of 244 (by decide +kernel) rfl
theorem wd_245 : (Cond.fieldLink RX5 23 "RepairDuty$Plan" "block" "I" : Cond) ∈ wG := wG_of 245 (by decide +kernel) rfl
theorem wd_246 : (Cond.fieldLink RX2 24 "RepairDuty$Plan" "block" "I" : Cond) ∈ wG := wG_of 246 (by decide +kernel) rfl
theorem wd_247 : (Cond.fieldLink RX7 58 "RepairDuty$Plan" "block" "I" : Cond) ∈ wG := wG_of 247 (by decide +kernel) rfl
theorem wd_248 : (Cond.fieldLink RX5 52 "RepairDuty$Plan" "hindrance" "I" : Cond) ∈ wG := wG_of 248 (by decide +kernel) rfl
theorem wd_249 : (Cond.fieldLink RX9 215 "RepairDuty$Plan" "hindrance" "I" : Cond) ∈ wG := wG_of 249 (by decide +kernel) rfl
theorem wd_250 : (Cond.fieldLink RX5 45 "RepairDuty$Plan" "losers" "I" : Cond) ∈ wG := wG_of 250 (by decide +kernel) rfl
theorem wd_251 : (Cond.fieldLink RX7 64 "RepairDuty$Plan" "losers" "I" : Cond) ∈ wG := wG_of 251 (by decide +kernel) rfl
theorem wd_252 : (Cond.fieldLink RX9 228 "RepairDuty$Plan" "losers" "I" : Cond) ∈ wG := wG_of 252 (by decide +kernel) rfl
theorem wd_253 : (Cond.fieldLink RX2 36 "RepairDuty$Plan" "asking" "I" : Cond) ∈ wG := wG_of 253 (by decide +kernel) rfl
theorem wd_254 : (Cond.fieldLink RX5 125 "RepairDuty$Plan" "asking" "I" : Cond) ∈ wG := wG_of 254 (by decide +kernel) rfl
theorem wd_255 : (Cond.fieldLink RX2 39 "RepairDuty$Plan" "silent" "I" : Cond) ∈ wG := wG_of 255 (by decide +kernel) rfl
theorem wd_256 : (Cond.fieldLink RX5 134 "RepairDuty$Plan" "silent" "I" : Cond) ∈ wG := wG_of 256 (by decide +kernel) rfl
theorem wd_257 : (Cond.fieldLink RX2 42 "RepairDuty$Plan" "missing" "I" : Cond) ∈ wG := wG_of 257 (by decide +kernel) rfl
theorem wd_258 : (Cond.fieldLink RX7 82 "RepairDuty$Plan" "missing" "I" : Cond) ∈ wG := wG_of 258 (by decide +kernel) rfl
theorem wd_259 : (Cond.fieldLink RX5 90 "RepairDuty$Plan" "missing" "I" : Cond) ∈ wG := wG_of 259 (by decide +kernel) rfl
theorem wd_260 : (Cond.fieldLink RX5 112 "RepairDuty$Plan" "first" "I" : Cond) ∈ wG := wG_of 260 (by decide +kernel) rfl
theorem wd_261 : (Cond.fieldLink RX2 33 "RepairDuty$Plan" "repairer" "I" : Cond) ∈ wG := wG_of 261 (by decide +kernel) rfl
theorem wd_262 : (Cond.fieldLink RX5 86 "RepairDuty$Plan" "repairer" "I" : Cond) ∈ wG := wG_of 262 (by decide +kernel) rfl
theorem wd_263 : (Cond.fieldLink RX7 70 "RepairDuty$Plan" "repairer" "I" : Cond) ∈ wG := wG_of 263 (by decide +kernel) rfl
theorem wd_264 : (Cond.fieldLink RX5 109 "RepairDuty$Plan" "repairerRank" "I" : Cond) ∈ wG := wG_of 264 (by decide +kernel) rfl
theorem wd_265 : (Cond.fieldLink RX2 45 "RepairDuty$Plan" "time" "I" : Cond) ∈ wG := wG_of 265 (by decide +kernel) rfl
theorem wd_266 : (Cond.fieldLink RX5 141 "RepairDuty$Plan" "time" "I" : Cond) ∈ wG := wG_of 266 (by decide +kernel) rfl
theorem wd_267 : (Cond.fieldLink RX9 222 "RepairDuty$Plan" "time" "I" : Cond) ∈ wG := wG_of 267 (by decide +kernel) rfl
theorem wd_268 : (Cond.fieldLink RX5 14 "RepairDuty$Plan" "waits" "LRepairDuty$Row;" : Cond) ∈ wG := wG_of 268 (by decide +kernel) rfl
theorem wd_269 : (Cond.fieldLink RX9 232 "RepairDuty$Plan" "waits" "LRepairDuty$Row;" : Cond) ∈ wG := wG_of 269 (by decide +kernel) rfl
theorem wd_270 : (Cond.fieldLink RX5 20 "RepairDuty$Plan" "arrivals" "LRepairDuty$Row;" : Cond) ∈ wG := wG_of 270 (by decide +kernel) rfl
theorem wd_271 : (Cond.fieldLink RX9 235 "RepairDuty$Plan" "arrivals" "LRepairDuty$Row;" : Cond) ∈ wG := wG_of 271 (by decide +kernel) rfl
theorem wd_272 : (Cond.lays RX5 "RepairDuty$Plan" "block" "I" : Cond) ∈ wG := wG_of 272 (by decide +kernel) rfl
theorem wd_274 : (Cond.lays RX5 "RepairDuty$Plan" "hindrance" "I" : Cond) ∈ wG := wG_of 274 (by decide +kernel) rfl
theorem wd_276 : (Cond.lays RX5 "RepairDuty$Plan" "losers" "I" : Cond) ∈ wG := wG_of 276 (by decide +kernel) rfl
theorem wd_278 : (Cond.lays RX5 "RepairDuty$Plan" "asking" "I" : Cond) ∈ wG := wG_of 278 (by decide +kernel) rfl
theorem wd_280 : (Cond.lays RX5 "RepairDuty$Plan" "silent" "I" : Cond) ∈ wG := wG_of 280 (by decide +kernel) rfl
theorem wd_282 : (Cond.lays RX5 "RepairDuty$Plan" "missing" "I" : Cond) ∈ wG := wG_of 282 (by decide +kernel) rfl
theorem wd_284 : (Cond.lays RX5 "RepairDuty$Plan" "first" "I" : Cond) ∈ wG := wG_of 284 (by decide +kernel) rfl
theorem wd_286 : (Cond.lays RX5 "RepairDuty$Plan" "repairer" "I" : Cond) ∈ wG := wG_of 286 (by decide +kernel) rfl
theorem wd_288 : (Cond.lays RX5 "RepairDuty$Plan" "repairerRank" "I" : Cond) ∈ wG := wG_of 288 (by decide +kernel) rfl
theorem wd_290 : (Cond.lays RX5 "RepairDuty$Plan" "time" "I" : Cond) ∈ wG := wG_of 290 (by decide +kernel) rfl
theorem wd_292 : (Cond.laysFinal RX5 "RepairDuty$Plan" "waits" "LRepairDuty$Row;" : Cond) ∈ wG := wG_of 292 (by decide +kernel) rfl
theorem wd_294 : (Cond.laysFinal RX5 "RepairDuty$Plan" "arrivals" "LRepairDuty$Row;" : Cond) ∈ wG := wG_of 294 (by decide +kernel) rfl
theorem wd_297 : (Cond.classLink RX9 37 RX0 : Cond) ∈ wG := wG_of 297 (by decide +kernel) rfl
theorem wd_299 : (Cond.fieldLink RX9 12 "RepairDuty" "now" "LRepairDuty$State;" : Cond) ∈ wG := wG_of 299 (by decide +kernel) rfl
theorem wd_300 : (Cond.fieldLink RX9 19 "RepairDuty" "history" "LRepairDuty$History;" : Cond) ∈ wG := wG_of 300 (by decide +kernel) rfl
theorem wd_301 : (Cond.fieldLink RX9 26 "RepairDuty" "text" "LRepairDuty$Text;" : Cond) ∈ wG := wG_of 301 (by decide +kernel) rfl
theorem wd_302 : (Cond.fieldLink RX9 33 "RepairDuty" "plan" "LRepairDuty$Plan;" : Cond) ∈ wG := wG_of 302 (by decide +kernel) rfl
theorem wd_303 : (Cond.fieldLink RX9 40 "RepairDuty" "guess" "LRepairDuty$Duties;" : Cond) ∈ wG := wG_of 303 (by decide +kernel) rfl
theorem wd_304 : (Cond.laysFinal RX9 "RepairDuty" "now" "LRepairDuty$State;" : Cond) ∈ wG := wG_of 304 (by decide +kernel) rfl
theorem wd_306 : (Cond.laysFinal RX9 "RepairDuty" "history" "LRepairDuty$History;" : Cond) ∈ wG := wG_of 306 (by decide +kernel) rfl
theorem wd_308 : (Cond.laysFinal RX9 "RepairDuty" "text" "LRepairDuty$Text;" : Cond) ∈ wG := wG_of 308 (by decide +kernel) rfl
theorem wd_310 : (Cond.laysFinal RX9 "RepairDuty" "plan" "LRepairDuty$Plan;" : Cond) ∈ wG := wG_of 310 (by decide +kernel) rfl
theorem wd_312 : (Cond.laysFinal RX9 "RepairDuty" "guess" "LRepairDuty$Duties;" : Cond) ∈ wG := wG_of 312 (by decide +kernel) rfl
theorem wd_315 : (Cond.methodLink RL 13 yX9_join : Cond) ∈ wG := wG_of 315 (by decide +kernel) rfl
theorem wd_316 : (Cond.instanceMethod yX9_join : Cond) ∈ wG := wG_of 316 (by decide +kernel) rfl
theorem wd_317 : (Cond.selects RX9 yX9_join yX9_join : Cond) ∈ wG := wG_of 317 (by decide +kernel) rfl
theorem wd_318 : (Cond.code yX9_join cX9_join 3 (some .int) : Cond) ∈ wG := wG_of 318 (by decide +kernel) rfl
theorem wd_319 : (Cond.methodLink RX9 44 yX9_isWeight : Cond) ∈ wG := wG_of 319 (by decide +kernel) rfl
theorem wd_320 : (Cond.static yX9_isWeight : Cond) ∈ wG := wG_of 320 (by decide +kernel) rfl
theorem wd_321 : (Cond.code yX9_isWeight cX9_isWeight 1 (some .boolean) : Cond) ∈ wG := wG_of 321 (by decide +kernel) rfl
theorem wd_322 : (Cond.methodLink RX9 48 yX9_isPosition : Cond) ∈ wG := wG_of 322 (by decide +kernel) rfl
theorem wd_323 : (Cond.static yX9_isPosition : Cond) ∈ wG := wG_of 323 (by decide +kernel) rfl
theorem wd_324 : (Cond.code yX9_isPosition cX9_isPosition 1 (some .boolean) : Cond) ∈ wG := wG_of 324 (by decide +kernel) rfl
theorem wd_325 : (Cond.constant RX9 51 (-1000001) : Cond) ∈ wG := wG_of 325 (by decide +kernel) rfl
theorem wd_326 : (Cond.constant RX9 62 (-1000003) : Cond) ∈ wG := wG_of 326 (by decide +kernel) rfl
theorem wd_327 : (Cond.methodLink RX9 63 yX1_keep : Cond) ∈ wG := wG_of 327 (by decide +kernel) rfl
theorem wd_328 : (Cond.instanceMethod yX1_keep : Cond) ∈ wG := wG_of 328 (by decide +kernel) rfl
theorem wd_329 : (Cond.selects RX1 yX1_keep yX1_keep : Cond) ∈ wG := wG_of 329 (by decide +kernel) rfl
theorem wd_330 : (Cond.code yX1_keep cX1_keep 3 none : Cond) ∈ wG := wG_of 330 (by decide +kernel) rfl
theorem wd_331 : (Cond.methodLink RX1 22 yX1_stateAt : Cond) ∈ wG := wG_of 331 (by decide +kernel) rfl
theorem wd_332 : (Cond.instanceMethod yX1_stateAt : Cond) ∈ wG := wG_of 332 (by decide +kernel) rfl
theorem wd_333 : (Cond.selects RX1 yX1_stateAt yX1_stateAt : Cond) ∈ wG := wG_of 333 (by decide +kernel) rfl
theorem wd_334 : (Cond.code yX1_stateAt cX1_stateAt 3 (some (.object "RepairDuty$State")) : Cond) ∈ wG := wG_of 334 (by decide +kernel) rfl
theorem wd_335 : (Cond.methodLink RX1 26 yX7_copy : Cond) ∈ wG := wG_of 335 (by decide +kernel) rfl
theorem wd_336 : (Cond.instanceMethod yX7_copy : Cond) ∈ wG := wG_of 336 (by decide +kernel) rfl
theorem wd_337 : (Cond.selects RX7 yX7_copy yX7_copy : Cond) ∈ wG := wG_of 337 (by decide +kernel) rfl
theorem wd_338 : (Cond.code yX7_copy cX7_copy 2 none : Cond) ∈ wG := wG_of 338 (by decide +kernel) rfl
theorem wd_339 : (Cond.methodLink RX7 94 yX6_copy : Cond) ∈ wG := wG_of 339 (by decide +kernel) rfl
theorem wd_340 : (Cond.instanceMethod yX6_copy : Cond) ∈ wG := wG_of 340 (by decide +kernel) rfl
theorem wd_341 : (Cond.selects RX6 yX6_copy yX6_copy : Cond) ∈ wG := wG_of 341 (by decide +kernel) rfl
theorem wd_342 : (Cond.code yX6_copy cX6_copy 3 none : Cond) ∈ wG := wG_of 342 (by decide +kernel) rfl
theorem wd_343 : (Cond.methodLink RX6 21 Lib.Math.min.name : Cond) ∈ wG := wG_of 343 (by decide +kernel) rfl
theorem wd_344 : (Cond.static Lib.Math.min.name : Cond) ∈ wG := wG_of 344 (by decide +kernel) rfl
theorem wd_345 : (Cond.code Lib.Math.min.name Lib.Math.min.code 2 (some .int) : Cond) ∈ wG := wG_of 345 (by decide +kernel) rfl
theorem wd_346 : (Cond.methodLink RX6 27 arraycopyName : Cond) ∈ wG := wG_of 346 (by decide +kernel) rfl
theorem wd_347 : (Cond.static arraycopyName : Cond) ∈ wG := wG_of 347 (by decide +kernel) rfl
theorem wd_348 : (Cond.native arraycopyName : Cond) ∈ wG := wG_of 348 (by decide +kernel) rfl
theorem wd_349 : (Cond.methodLink RX7 98 yX3_copy : Cond) ∈ wG := wG_of 349 (by decide +kernel) rfl
theorem wd_350 : (Cond.instanceMethod yX3_copy : Cond) ∈ wG := wG_of 350 (by decide +kernel) rfl
theorem wd_351 : (Cond.selects RX3 yX3_copy yX3_copy : Cond) ∈ wG := wG_of 351 (by decide +kernel) rfl
theorem wd_352 : (Cond.code yX3_copy cX3_copy 2 none : Cond) ∈ wG := wG_of 352 (by decide +kernel) rfl
theorem wd_353 : (Cond.methodLink RX3 74 yX6_copy : Cond) ∈ wG := wG_of 353 (by decide +kernel) rfl
theorem wd_354 : (Cond.methodLink RX7 101 yX0_copy : Cond) ∈ wG := wG_of 354 (by decide +kernel) rfl
theorem wd_355 : (Cond.instanceMethod yX0_copy : Cond) ∈ wG := wG_of 355 (by decide +kernel) rfl
theorem wd_356 : (Cond.selects RX0 yX0_copy yX0_copy : Cond) ∈ wG := wG_of 356 (by decide +kernel) rfl
theorem wd_357 : (Cond.code yX0_copy cX0_copy 2 none : Cond) ∈ wG := wG_of 357 (by decide +kernel) rfl
theorem wd_358 : (Cond.methodLink RX0 75 yX6_copy : Cond) ∈ wG := wG_of 358 (by decide +kernel) rfl
theorem wd_359 : (Cond.methodLink RX7 104 yX2_copy : Cond) ∈ wG := wG_of 359 (by decide +kernel) rfl
theorem wd_360 : (Cond.instanceMethod yX2_copy : Cond) ∈ wG := wG_of 360 (by decide +kernel) rfl
theorem wd_361 : (Cond.selects RX2 yX2_copy yX2_copy : Cond) ∈ wG := wG_of 361 (by decide +kernel) rfl
theorem wd_362 : (Cond.code yX2_copy cX2_copy 2 none : Cond) ∈ wG := wG_of 362 (by decide +kernel) rfl
theorem wd_363 : (Cond.methodLink RX2 72 yX6_copy : Cond) ∈ wG := wG_of 363 (by decide +kernel) rfl
theorem wd_364 : (Cond.methodLink RX9 67 yX3_enter : Cond) ∈ wG := wG_of 364 (by decide +kernel) rfl
theorem wd_365 : (Cond.instanceMethod yX3_enter : Cond) ∈ wG := wG_of 365 (by decide +kernel) rfl
theorem wd_366 : (Cond.selects RX3 yX3_enter yX3_enter : Cond) ∈ wG := wG_of 366 (by decide +kernel) rfl
theorem wd_367 : (Cond.code yX3_enter cX3_enter 4 (some .int) : Cond) ∈ wG := wG_of 367 (by decide +kernel) rfl
theorem wd_368 : (Cond.methodLink RX3 45 yX6_put : Cond) ∈ wG := wG_of 368 (by decide +kernel) rfl
theorem wd_369 : (Cond.methodLink RL 18 yX9_change : Cond) ∈ wG := wG_of 369 (by decide +kernel) rfl
theorem wd_370 : (Cond.instanceMethod yX9_change : Cond) ∈ wG := wG_of 370 (by decide +kernel) rfl
theorem wd_371 : (Cond.selects RX9 yX9_change yX9_change : Cond) ∈ wG := wG_of 371 (by decide +kernel) rfl
theorem wd_372 : (Cond.code yX9_change cX9_change 4 (some .int) : Cond) ∈ wG := wG_of 372 (by decide +kernel) rfl
theorem wd_373 : (Cond.methodLink RX9 71 yX9_isMember : Cond) ∈ wG := wG_of 373 (by decide +kernel) rfl
theorem wd_375 : (Cond.instanceMethod yX9_isMember : Cond) ∈ wG := wG_of 375 (by decide +kernel) rfl
theorem wd_376 : (Cond.code yX9_isMember cX9_isMember 2 (some .boolean) : Cond) ∈ wG := wG_of 376 (by decide +kernel) rfl
theorem wd_377 : (Cond.methodLink RX9 78 yX6_swap : Cond) ∈ wG := wG_of 377 (by decide +kernel) rfl
theorem wd_378 : (Cond.instanceMethod yX6_swap : Cond) ∈ wG := wG_of 378 (by decide +kernel) rfl
theorem wd_379 : (Cond.selects RX6 yX6_swap yX6_swap : Cond) ∈ wG := wG_of 379 (by decide +kernel) rfl
theorem wd_380 : (Cond.code yX6_swap cX6_swap 4 (some .int) : Cond) ∈ wG := wG_of 380 (by decide +kernel) rfl
theorem wd_381 : (Cond.methodLink RX6 13 yX6_at : Cond) ∈ wG := wG_of 381 (by decide +kernel) rfl
theorem wd_382 : (Cond.instanceMethod yX6_at : Cond) ∈ wG := wG_of 382 (by decide +kernel) rfl
theorem wd_383 : (Cond.selects RX6 yX6_at yX6_at : Cond) ∈ wG := wG_of 383 (by decide +kernel) rfl
theorem wd_384 : (Cond.code yX6_at cX6_at 2 (some .int) : Cond) ∈ wG := wG_of 384 (by decide +kernel) rfl
theorem wd_385 : (Cond.methodLink RX6 17 yX6_put : Cond) ∈ wG := wG_of 385 (by decide +kernel) rfl
theorem wd_386 : (Cond.methodLink RL 23 yX9_live : Cond) ∈ wG := wG_of 386 (by decide +kernel) rfl
theorem wd_387 : (Cond.instanceMethod yX9_live : Cond) ∈ wG := wG_of 387 (by decide +kernel) rfl
theorem wd_388 : (Cond.selects RX9 yX9_live yX9_live : Cond) ∈ wG := wG_of 388 (by decide +kernel) rfl
theorem wd_389 : (Cond.code yX9_live cX9_live 5 (some .int) : Cond) ∈ wG := wG_of 389 (by decide +kernel) rfl
theorem wd_390 : (Cond.methodLink RX9 86 yX3_lives : Cond) ∈ wG := wG_of 390 (by decide +kernel) rfl
theorem wd_391 : (Cond.instanceMethod yX3_lives : Cond) ∈ wG := wG_of 391 (by decide +kernel) rfl
theorem wd_392 : (Cond.selects RX3 yX3_lives yX3_lives : Cond) ∈ wG := wG_of 392 (by decide +kernel) rfl
theorem wd_393 : (Cond.code yX3_lives cX3_lives 2 (some .boolean) : Cond) ∈ wG := wG_of 393 (by decide +kernel) rfl
theorem wd_394 : (Cond.methodLink RX3 52 yX4_has : Cond) ∈ wG := wG_of 394 (by decide +kernel) rfl
theorem wd_395 : (Cond.static yX4_has : Cond) ∈ wG := wG_of 395 (by decide +kernel) rfl
theorem wd_396 : (Cond.code yX4_has cX4_has 2 (some .boolean) : Cond) ∈ wG := wG_of 396 (by decide +kernel) rfl
theorem wd_397 : (Cond.methodLink RL 28 yX9_member : Cond) ∈ wG := wG_of 397 (by decide +kernel) rfl
theorem wd_398 : (Cond.instanceMethod yX9_member : Cond) ∈ wG := wG_of 398 (by decide +kernel) rfl
theorem wd_399 : (Cond.selects RX9 yX9_member yX9_member : Cond) ∈ wG := wG_of 399 (by decide +kernel) rfl
theorem wd_400 : (Cond.code yX9_member cX9_member 3 (some .int) : Cond) ∈ wG := wG_of 400 (by decide +kernel) rfl
theorem wd_401 : (Cond.methodLink RX9 92 yX6_at : Cond) ∈ wG := wG_of 401 (by decide +kernel) rfl
theorem wd_402 : (Cond.methodLink RX9 102 yX0_rankOf : Cond) ∈ wG := wG_of 402 (by decide +kernel) rfl
theorem wd_403 : (Cond.instanceMethod yX0_rankOf : Cond) ∈ wG := wG_of 403 (by decide +kernel) rfl
theorem wd_404 : (Cond.selects RX0 yX0_rankOf yX0_rankOf : Cond) ∈ wG := wG_of 404 (by decide +kernel) rfl
theorem wd_405 : (Cond.code yX0_rankOf cX0_rankOf 3 (some .int) : Cond) ∈ wG := wG_of 405 (by decide +kernel) rfl
theorem wd_406 : (Cond.methodLink RX0 41 yX6_at : Cond) ∈ wG := wG_of 406 (by decide +kernel) rfl
theorem wd_407 : (Cond.constant RX0 74 (-1000009) : Cond) ∈ wG := wG_of 407 (by decide +kernel) rfl
theorem wd_408 : (Cond.methodLink RX9 105 yX7_blocksLostBy : Cond) ∈ wG := wG_of 408 (by decide +kernel) rfl
theorem wd_409 : (Cond.instanceMethod yX7_blocksLostBy : Cond) ∈ wG := wG_of 409 (by decide +kernel) rfl
theorem wd_410 : (Cond.selects RX7 yX7_blocksLostBy yX7_blocksLostBy : Cond) ∈ wG := wG_of 410 (by decide +kernel) rfl
theorem wd_411 : (Cond.code yX7_blocksLostBy cX7_blocksLostBy 4 (some .int) : Cond) ∈ wG := wG_of 411 (by decide +kernel) rfl
theorem wd_412 : (Cond.methodLink RX7 48 yX6_at : Cond) ∈ wG := wG_of 412 (by decide +kernel) rfl
theorem wd_413 : (Cond.methodLink RX7 52 yX4_has : Cond) ∈ wG := wG_of 413 (by decide +kernel) rfl
theorem wd_414 : (Cond.methodLink RL 32 yX9_set : Cond) ∈ wG := wG_of 414 (by decide +kernel) rfl
theorem wd_415 : (Cond.instanceMethod yX9_set : Cond) ∈ wG := wG_of 415 (by decide +kernel) rfl
theorem wd_416 : (Cond.selects RX9 yX9_set yX9_set : Cond) ∈ wG := wG_of 416 (by decide +kernel) rfl
theorem wd_417 : (Cond.code yX9_set cX9_set 3 (some .int) : Cond) ∈ wG := wG_of 417 (by decide +kernel) rfl
theorem wd_418 : (Cond.methodLink RX9 117 yX9_isSettingValue : Cond) ∈ wG := wG_of 418 (by decide +kernel) rfl
theorem wd_419 : (Cond.static yX9_isSettingValue : Cond) ∈ wG := wG_of 419 (by decide +kernel) rfl
theorem wd_420 : (Cond.code yX9_isSettingValue cX9_isSettingValue 2 (some .boolean) : Cond) ∈ wG := wG_of 420 (by decide +kernel) rfl
theorem wd_421 : (Cond.fieldLink RX9 277 "RepairDuty" "LOWEST" "[I" : Cond) ∈ wG := wG_of 421 (by decide +kernel) rfl
theorem wd_423 : (Cond.fieldLink RX9 280 "RepairDuty" "HIGHEST" "[I" : Cond) ∈ wG := wG_of 423 (by decide +kernel) rfl
theorem wd_425 : (Cond.methodLink RL 36 yX9_about : Cond) ∈ wG := wG_of 425 (by decide +kernel) rfl
theorem wd_426 : (Cond.instanceMethod yX9_about : Cond) ∈ wG := wG_of 426 (by decide +kernel) rfl
theorem wd_427 : (Cond.selects RX9 yX9_about yX9_about : Cond) ∈ wG := wG_of 427 (by decide +kernel) rfl
theorem wd_428 : (Cond.code yX9_about cX9_about 2 (some .int) : Cond) ∈ wG := wG_of 428 (by decide +kernel) rfl
theorem wd_429 : (Cond.methodLink RL 41 yX9_mix : Cond) ∈ wG := wG_of 429 (by decide +kernel) rfl
theorem wd_430 : (Cond.instanceMethod yX9_mix : Cond) ∈ wG := wG_of 430 (by decide +kernel) rfl
theorem wd_431 : (Cond.selects RX9 yX9_mix yX9_mix : Cond) ∈ wG := wG_of 431 (by decide +kernel) rfl
theorem wd_432 : (Cond.code yX9_mix cX9_mix 2 (some .int) : Cond) ∈ wG := wG_of 432 (by decide +kernel) rfl
theorem wd_433 : (Cond.methodLink RX9 142 yX4_mixed : Cond) ∈ wG := wG_of 433 (by decide +kernel) rfl
theorem wd_434 : (Cond.static yX4_mixed : Cond) ∈ wG := wG_of 434 (by decide +kernel) rfl
theorem wd_435 : (Cond.code yX4_mixed cX4_mixed 2 (some .int) : Cond) ∈ wG := wG_of 435 (by decide +kernel) rfl
theorem wd_436 : (Cond.constant RX4 7 (1103515245) : Cond) ∈ wG := wG_of 436 (by decide +kernel) rfl
theorem wd_437 : (Cond.methodLink RL 45 yX9_commit : Cond) ∈ wG := wG_of 437 (by decide +kernel) rfl
theorem wd_438 : (Cond.instanceMethod yX9_commit : Cond) ∈ wG := wG_of 438 (by decide +kernel) rfl
theorem wd_439 : (Cond.selects RX9 yX9_commit yX9_commit : Cond) ∈ wG := wG_of 439 (by decide +kernel) rfl
theorem wd_440 : (Cond.code yX9_commit cX9_commit 4 (some .int) : Cond) ∈ wG := wG_of 440 (by decide +kernel) rfl
theorem wd_441 : (Cond.constant RX9 147 (-1000002) : Cond) ∈ wG := wG_of 441 (by decide +kernel) rfl
theorem wd_442 : (Cond.methodLink RX9 151 yX6_put : Cond) ∈ wG := wG_of 442 (by decide +kernel) rfl
theorem wd_443 : (Cond.methodLink RL 49 yX9_reveal : Cond) ∈ wG := wG_of 443 (by decide +kernel) rfl
theorem wd_444 : (Cond.instanceMethod yX9_reveal : Cond) ∈ wG := wG_of 444 (by decide +kernel) rfl
theorem wd_445 : (Cond.selects RX9 yX9_reveal yX9_reveal : Cond) ∈ wG := wG_of 445 (by decide +kernel) rfl
theorem wd_446 : (Cond.code yX9_reveal cX9_reveal 4 (some .int) : Cond) ∈ wG := wG_of 446 (by decide +kernel) rfl
theorem wd_447 : (Cond.methodLink RL 53 yX9_draw : Cond) ∈ wG := wG_of 447 (by decide +kernel) rfl
theorem wd_448 : (Cond.instanceMethod yX9_draw : Cond) ∈ wG := wG_of 448 (by decide +kernel) rfl
theorem wd_449 : (Cond.selects RX9 yX9_draw yX9_draw : Cond) ∈ wG := wG_of 449 (by decide +kernel) rfl
theorem wd_450 : (Cond.code yX9_draw cX9_draw 2 (some .int) : Cond) ∈ wG := wG_of 450 (by decide +kernel) rfl
theorem wd_451 : (Cond.methodLink RX9 158 yX3_rightReveals : Cond) ∈ wG := wG_of 451 (by decide +kernel) rfl
theorem wd_452 : (Cond.instanceMethod yX3_rightReveals : Cond) ∈ wG := wG_of 452 (by decide +kernel) rfl
theorem wd_453 : (Cond.selects RX3 yX3_rightReveals yX3_rightReveals : Cond) ∈ wG := wG_of 453 (by decide +kernel) rfl
theorem wd_454 : (Cond.code yX3_rightReveals cX3_rightReveals 3 (some .int) : Cond) ∈ wG := wG_of 454 (by decide +kernel) rfl
theorem wd_455 : (Cond.methodLink RX3 58 yX6_at : Cond) ∈ wG := wG_of 455 (by decide +kernel) rfl
theorem wd_456 : (Cond.methodLink RX9 162 yX9_areEnough : Cond) ∈ wG := wG_of 456 (by decide +kernel) rfl
theorem wd_458 : (Cond.instanceMethod yX9_areEnough : Cond) ∈ wG := wG_of 458 (by decide +kernel) rfl
theorem wd_459 : (Cond.code yX9_areEnough cX9_areEnough 2 (some .boolean) : Cond) ∈ wG := wG_of 459 (by decide +kernel) rfl
theorem wd_460 : (Cond.methodLink RX9 187 yJ6_bitCount_0f7a4 : Cond) ∈ wG := wG_of 460 (by decide +kernel) rfl
theorem wd_461 : (Cond.static yJ6_bitCount_0f7a4 : Cond) ∈ wG := wG_of 461 (by decide +kernel) rfl
theorem wd_462 : (Cond.code yJ6_bitCount_0f7a4 cJ6_bitCount_0f7a4 1 (some .int) : Cond) ∈ wG := wG_of 462 (by decide +kernel) rfl
theorem wd_463 : (Cond.constant RJ6 265 (1431655765) : Cond) ∈ wG := wG_of 463 (by decide +kernel) rfl
theorem wd_464 : (Cond.constant RJ6 266 (858993459) : Cond) ∈ wG := wG_of 464 (by decide +kernel) rfl
theorem wd_465 : (Cond.constant RJ6 267 (252645135) : Cond) ∈ wG := wG_of 465 (by decide +kernel) rfl
theorem wd_466 : (Cond.methodLink RX9 165 yX0_drawNext : Cond) ∈ wG := wG_of 466 (by decide +kernel) rfl
theorem wd_467 : (Cond.instanceMethod yX0_drawNext : Cond) ∈ wG := wG_of 467 (by decide +kernel) rfl
theorem wd_468 : (Cond.selects RX0 yX0_drawNext yX0_drawNext : Cond) ∈ wG := wG_of 468 (by decide +kernel) rfl
theorem wd_469 : (Cond.code yX0_drawNext cX0_drawNext 5 none : Cond) ∈ wG := wG_of 469 (by decide +kernel) rfl
theorem wd_470 : (Cond.methodLink RX0 32 yX4_has : Cond) ∈ wG := wG_of 470 (by decide +kernel) rfl
theorem wd_471 : (Cond.methodLink RX0 45 yX4_mixed : Cond) ∈ wG := wG_of 471 (by decide +kernel) rfl
theorem wd_472 : (Cond.methodLink RX0 48 yX0_drawList : Cond) ∈ wG := wG_of 472 (by decide +kernel) rfl
theorem wd_473 : (Cond.instanceMethod yX0_drawList : Cond) ∈ wG := wG_of 473 (by decide +kernel) rfl
theorem wd_474 : (Cond.selects RX0 yX0_drawList yX0_drawList : Cond) ∈ wG := wG_of 474 (by decide +kernel) rfl
theorem wd_475 : (Cond.code yX0_drawList cX0_drawList 7 none : Cond) ∈ wG := wG_of 475 (by decide +kernel) rfl
theorem wd_476 : (Cond.methodLink RX0 52 yX0_weightOfOthers : Cond) ∈ wG := wG_of 476 (by decide +kernel) rfl
theorem wd_477 : (Cond.static yX0_weightOfOthers : Cond) ∈ wG := wG_of 477 (by decide +kernel) rfl
theorem wd_478 : (Cond.code yX0_weightOfOthers cX0_weightOfOthers 4 (some .int) : Cond) ∈ wG := wG_of 478 (by decide +kernel) rfl
theorem wd_479 : (Cond.methodLink RX0 56 yX4_lot : Cond) ∈ wG := wG_of 479 (by decide +kernel) rfl
theorem wd_480 : (Cond.static yX4_lot : Cond) ∈ wG := wG_of 480 (by decide +kernel) rfl
theorem wd_481 : (Cond.code yX4_lot cX4_lot 2 (some .int) : Cond) ∈ wG := wG_of 481 (by decide +kernel) rfl
theorem wd_482 : (Cond.methodLink RX0 60 yX0_memberOfLot : Cond) ∈ wG := wG_of 482 (by decide +kernel) rfl
theorem wd_483 : (Cond.static yX0_memberOfLot : Cond) ∈ wG := wG_of 483 (by decide +kernel) rfl
theorem wd_484 : (Cond.code yX0_memberOfLot cX0_memberOfLot 5 (some .int) : Cond) ∈ wG := wG_of 484 (by decide +kernel) rfl
theorem wd_485 : (Cond.methodLink RX0 64 yX6_put : Cond) ∈ wG := wG_of 485 (by decide +kernel) rfl
theorem wd_486 : (Cond.methodLink RX9 169 yX3_endLottery : Cond) ∈ wG := wG_of 486 (by decide +kernel) rfl
theorem wd_487 : (Cond.instanceMethod yX3_endLottery : Cond) ∈ wG := wG_of 487 (by decide +kernel) rfl
theorem wd_488 : (Cond.selects RX3 yX3_endLottery yX3_endLottery : Cond) ∈ wG := wG_of 488 (by decide +kernel) rfl
theorem wd_489 : (Cond.code yX3_endLottery cX3_endLottery 4 none : Cond) ∈ wG := wG_of 489 (by decide +kernel) rfl
theorem wd_490 : (Cond.methodLink RX3 67 yX6_swap : Cond) ∈ wG := wG_of 490 (by decide +kernel) rfl
theorem wd_491 : (Cond.methodLink RX3 71 yX6_add : Cond) ∈ wG := wG_of 491 (by decide +kernel) rfl
theorem wd_492 : (Cond.instanceMethod yX6_add : Cond) ∈ wG := wG_of 492 (by decide +kernel) rfl
theorem wd_493 : (Cond.selects RX6 yX6_add yX6_add : Cond) ∈ wG := wG_of 493 (by decide +kernel) rfl
theorem wd_494 : (Cond.code yX6_add cX6_add 3 none : Cond) ∈ wG := wG_of 494 (by decide +kernel) rfl
theorem wd_495 : (Cond.methodLink RL 58 yX9_seed : Cond) ∈ wG := wG_of 495 (by decide +kernel) rfl
theorem wd_496 : (Cond.instanceMethod yX9_seed : Cond) ∈ wG := wG_of 496 (by decide +kernel) rfl
theorem wd_497 : (Cond.selects RX9 yX9_seed yX9_seed : Cond) ∈ wG := wG_of 497 (by decide +kernel) rfl
theorem wd_498 : (Cond.code yX9_seed cX9_seed 1 (some .long) : Cond) ∈ wG := wG_of 498 (by decide +kernel) rfl
theorem wd_499 : (Cond.constantLong RX9 173 (-4611686018427387905) : Cond) ∈ wG := wG_of 499 (by decide +kernel) rfl
theorem wd_500 : (Cond.methodLink RL 63 yX9_duty : Cond) ∈ wG := wG_of 500 (by decide +kernel) rfl
theorem wd_501 : (Cond.instanceMethod yX9_duty : Cond) ∈ wG := wG_of 501 (by decide +kernel) rfl
theorem wd_502 : (Cond.selects RX9 yX9_duty yX9_duty : Cond) ∈ wG := wG_of 502 (by decide +kernel) rfl
theorem wd_503 : (Cond.code yX9_duty cX9_duty 2 (some .int) : Cond) ∈ wG := wG_of 503 (by decide +kernel) rfl
theorem wd_504 : (Cond.methodLink RX9 178 yX0_memberAt : Cond) ∈ wG := wG_of 504 (by decide +kernel) rfl
theorem wd_505 : (Cond.instanceMethod yX0_memberAt : Cond) ∈ wG := wG_of 505 (by decide +kernel) rfl
theorem wd_506 : (Cond.selects RX0 yX0_memberAt yX0_memberAt : Cond) ∈ wG := wG_of 506 (by decide +kernel) rfl
theorem wd_507 : (Cond.code yX0_memberAt cX0_memberAt 2 (some .int) : Cond) ∈ wG := wG_of 507 (by decide +kernel) rfl
theorem wd_508 : (Cond.methodLink RL 67 yX9_ifLeft : Cond) ∈ wG := wG_of 508 (by decide +kernel) rfl
theorem wd_509 : (Cond.instanceMethod yX9_ifLeft : Cond) ∈ wG := wG_of 509 (by decide +kernel) rfl
theorem wd_510 : (Cond.selects RX9 yX9_ifLeft yX9_ifLeft : Cond) ∈ wG := wG_of 510 (by decide +kernel) rfl
theorem wd_511 : (Cond.code yX9_ifLeft cX9_ifLeft 4 (some .int) : Cond) ∈ wG := wG_of 511 (by decide +kernel) rfl
theorem wd_512 : (Cond.methodLink RL 71 yX9_lose : Cond) ∈ wG := wG_of 512 (by decide +kernel) rfl
theorem wd_513 : (Cond.instanceMethod yX9_lose : Cond) ∈ wG := wG_of 513 (by decide +kernel) rfl
theorem wd_514 : (Cond.selects RX9 yX9_lose yX9_lose : Cond) ∈ wG := wG_of 514 (by decide +kernel) rfl
theorem wd_515 : (Cond.code yX9_lose cX9_lose 3 (some .int) : Cond) ∈ wG := wG_of 515 (by decide +kernel) rfl
theorem wd_516 : (Cond.methodLink RX9 181 yX9_isBlock : Cond) ∈ wG := wG_of 516 (by decide +kernel) rfl
theorem wd_517 : (Cond.static yX9_isBlock : Cond) ∈ wG := wG_of 517 (by decide +kernel) rfl
theorem wd_518 : (Cond.code yX9_isBlock cX9_isBlock 1 (some .boolean) : Cond) ∈ wG := wG_of 518 (by decide +kernel) rfl
theorem wd_519 : (Cond.methodLink RL 75 yX9_type : Cond) ∈ wG := wG_of 519 (by decide +kernel) rfl
theorem wd_520 : (Cond.instanceMethod yX9_type : Cond) ∈ wG := wG_of 520 (by decide +kernel) rfl
theorem wd_521 : (Cond.selects RX9 yX9_type yX9_type : Cond) ∈ wG := wG_of 521 (by decide +kernel) rfl
theorem wd_522 : (Cond.code yX9_type cX9_type 2 (some .int) : Cond) ∈ wG := wG_of 522 (by decide +kernel) rfl
theorem wd_523 : (Cond.methodLink RX9 192 yX8_append : Cond) ∈ wG := wG_of 523 (by decide +kernel) rfl
theorem wd_524 : (Cond.instanceMethod yX8_append : Cond) ∈ wG := wG_of 524 (by decide +kernel) rfl
theorem wd_525 : (Cond.selects RX8 yX8_append yX8_append : Cond) ∈ wG := wG_of 525 (by decide +kernel) rfl
theorem wd_526 : (Cond.code yX8_append cX8_append 2 (some .boolean) : Cond) ∈ wG := wG_of 526 (by decide +kernel) rfl
theorem wd_527 : (Cond.methodLink RX8 24 yX6_put : Cond) ∈ wG := wG_of 527 (by decide +kernel) rfl
theorem wd_528 : (Cond.methodLink RL 79 yX9_clear : Cond) ∈ wG := wG_of 528 (by decide +kernel) rfl
theorem wd_529 : (Cond.instanceMethod yX9_clear : Cond) ∈ wG := wG_of 529 (by decide +kernel) rfl
theorem wd_530 : (Cond.selects RX9 yX9_clear yX9_clear : Cond) ∈ wG := wG_of 530 (by decide +kernel) rfl
theorem wd_531 : (Cond.code yX9_clear cX9_clear 1 (some .int) : Cond) ∈ wG := wG_of 531 (by decide +kernel) rfl
theorem wd_532 : (Cond.methodLink RX9 198 yX8_empty : Cond) ∈ wG := wG_of 532 (by decide +kernel) rfl
theorem wd_533 : (Cond.instanceMethod yX8_empty : Cond) ∈ wG := wG_of 533 (by decide +kernel) rfl
theorem wd_534 : (Cond.selects RX8 yX8_empty yX8_empty : Cond) ∈ wG := wG_of 534 (by decide +kernel) rfl
theorem wd_535 : (Cond.code yX8_empty cX8_empty 2 (some .int) : Cond) ∈ wG := wG_of 535 (by decide +kernel) rfl
theorem wd_536 : (Cond.methodLink RL 83 yX9_read : Cond) ∈ wG := wG_of 536 (by decide +kernel) rfl
theorem wd_537 : (Cond.instanceMethod yX9_read : Cond) ∈ wG := wG_of 537 (by decide +kernel) rfl
theorem wd_538 : (Cond.selects RX9 yX9_read yX9_read : Cond) ∈ wG := wG_of 538 (by decide +kernel) rfl
theorem wd_539 : (Cond.code yX9_read cX9_read 3 (some .int) : Cond) ∈ wG := wG_of 539 (by decide +kernel) rfl
theorem wd_540 : (Cond.methodLink RX9 201 yX8_errorPlace : Cond) ∈ wG := wG_of 540 (by decide +kernel) rfl
theorem wd_541 : (Cond.instanceMethod yX8_errorPlace : Cond) ∈ wG := wG_of 541 (by decide +kernel) rfl
theorem wd_542 : (Cond.selects RX8 yX8_errorPlace yX8_errorPlace : Cond) ∈ wG := wG_of 542 (by decide +kernel) rfl
theorem wd_543 : (Cond.code yX8_errorPlace cX8_errorPlace 3 (some .int) : Cond) ∈ wG := wG_of 543 (by decide +kernel) rfl
theorem wd_544 : (Cond.methodLink RX8 28 yX8_wrongSignPlace : Cond) ∈ wG := wG_of 544 (by decide +kernel) rfl
theorem wd_545 : (Cond.instanceMethod yX8_wrongSignPlace : Cond) ∈ wG := wG_of 545 (by decide +kernel) rfl
theorem wd_546 : (Cond.selects RX8 yX8_wrongSignPlace yX8_wrongSignPlace : Cond) ∈ wG := wG_of 546 (by decide +kernel) rfl
theorem wd_547 : (Cond.code yX8_wrongSignPlace cX8_wrongSignPlace 6 (some .int) : Cond) ∈ wG := wG_of 547 (by decide +kernel) rfl
theorem wd_548 : (Cond.methodLink RX8 36 yX6_at : Cond) ∈ wG := wG_of 548 (by decide +kernel) rfl
theorem wd_549 : (Cond.methodLink RX8 39 yX8_isDigit : Cond) ∈ wG := wG_of 549 (by decide +kernel) rfl
theorem wd_550 : (Cond.static yX8_isDigit : Cond) ∈ wG := wG_of 550 (by decide +kernel) rfl
theorem wd_551 : (Cond.code yX8_isDigit cX8_isDigit 1 (some .boolean) : Cond) ∈ wG := wG_of 551 (by decide +kernel) rfl
theorem wd_552 : (Cond.methodLink RX8 32 yX8_greatBlockPlace : Cond) ∈ wG := wG_of 552 (by decide +kernel) rfl
theorem wd_553 : (Cond.instanceMethod yX8_greatBlockPlace : Cond) ∈ wG := wG_of 553 (by decide +kernel) rfl
theorem wd_554 : (Cond.selects RX8 yX8_greatBlockPlace yX8_greatBlockPlace : Cond) ∈ wG := wG_of 554 (by decide +kernel) rfl
theorem wd_555 : (Cond.code yX8_greatBlockPlace cX8_greatBlockPlace 4 (some .int) : Cond) ∈ wG := wG_of 555 (by decide +kernel) rfl
theorem wd_556 : (Cond.methodLink RX8 43 yX8_numberFrom : Cond) ∈ wG := wG_of 556 (by decide +kernel) rfl
theorem wd_557 : (Cond.instanceMethod yX8_numberFrom : Cond) ∈ wG := wG_of 557 (by decide +kernel) rfl
theorem wd_558 : (Cond.selects RX8 yX8_numberFrom yX8_numberFrom : Cond) ∈ wG := wG_of 558 (by decide +kernel) rfl
theorem wd_559 : (Cond.code yX8_numberFrom cX8_numberFrom 4 (some .int) : Cond) ∈ wG := wG_of 559 (by decide +kernel) rfl
theorem wd_560 : (Cond.methodLink RX9 204 yX8_enterLosses : Cond) ∈ wG := wG_of 560 (by decide +kernel) rfl
theorem wd_561 : (Cond.instanceMethod yX8_enterLosses : Cond) ∈ wG := wG_of 561 (by decide +kernel) rfl
theorem wd_562 : (Cond.selects RX8 yX8_enterLosses yX8_enterLosses : Cond) ∈ wG := wG_of 562 (by decide +kernel) rfl
theorem wd_563 : (Cond.code yX8_enterLosses cX8_enterLosses 8 (some .int) : Cond) ∈ wG := wG_of 563 (by decide +kernel) rfl
theorem wd_564 : (Cond.methodLink RL 87 yX9_lost : Cond) ∈ wG := wG_of 564 (by decide +kernel) rfl
theorem wd_565 : (Cond.instanceMethod yX9_lost : Cond) ∈ wG := wG_of 565 (by decide +kernel) rfl
theorem wd_566 : (Cond.selects RX9 yX9_lost yX9_lost : Cond) ∈ wG := wG_of 566 (by decide +kernel) rfl
theorem wd_567 : (Cond.code yX9_lost cX9_lost 3 (some .int) : Cond) ∈ wG := wG_of 567 (by decide +kernel) rfl
theorem wd_568 : (Cond.methodLink RX9 208 yX4_has : Cond) ∈ wG := wG_of 568 (by decide +kernel) rfl
theorem wd_569 : (Cond.methodLink RL 91 yX9_repair : Cond) ∈ wG := wG_of 569 (by decide +kernel) rfl
theorem wd_570 : (Cond.instanceMethod yX9_repair : Cond) ∈ wG := wG_of 570 (by decide +kernel) rfl
theorem wd_571 : (Cond.selects RX9 yX9_repair yX9_repair : Cond) ∈ wG := wG_of 571 (by decide +kernel) rfl
theorem wd_572 : (Cond.code yX9_repair cX9_repair 2 (some .int) : Cond) ∈ wG := wG_of 572 (by decide +kernel) rfl
theorem wd_573 : (Cond.methodLink RX9 211 yX5_reckon : Cond) ∈ wG := wG_of 573 (by decide +kernel) rfl
theorem wd_574 : (Cond.instanceMethod yX5_reckon : Cond) ∈ wG := wG_of 574 (by decide +kernel) rfl
theorem wd_575 : (Cond.selects RX5 yX5_reckon yX5_reckon : Cond) ∈ wG := wG_of 575 (by decide +kernel) rfl
theorem wd_576 : (Cond.code yX5_reckon cX5_reckon 4 none : Cond) ∈ wG := wG_of 576 (by decide +kernel) rfl
theorem wd_577 : (Cond.methodLink RX5 41 yX6_at : Cond) ∈ wG := wG_of 577 (by decide +kernel) rfl
theorem wd_578 : (Cond.methodLink RX5 48 yX5_hindranceIn : Cond) ∈ wG := wG_of 578 (by decide +kernel) rfl
theorem wd_579 : (Cond.instanceMethod yX5_hindranceIn : Cond) ∈ wG := wG_of 579 (by decide +kernel) rfl
theorem wd_580 : (Cond.selects RX5 yX5_hindranceIn yX5_hindranceIn : Cond) ∈ wG := wG_of 580 (by decide +kernel) rfl
theorem wd_581 : (Cond.code yX5_hindranceIn cX5_hindranceIn 2 (some .int) : Cond) ∈ wG := wG_of 581 (by decide +kernel) rfl
theorem wd_582 : (Cond.methodLink RX5 82 yX5_findRepairer : Cond) ∈ wG := wG_of 582 (by decide +kernel) rfl
theorem wd_583 : (Cond.instanceMethod yX5_findRepairer : Cond) ∈ wG := wG_of 583 (by decide +kernel) rfl
theorem wd_584 : (Cond.selects RX5 yX5_findRepairer yX5_findRepairer : Cond) ∈ wG := wG_of 584 (by decide +kernel) rfl
theorem wd_585 : (Cond.code yX5_findRepairer cX5_findRepairer 5 none : Cond) ∈ wG := wG_of 585 (by decide +kernel) rfl
theorem wd_586 : (Cond.methodLink RX5 96 yX0_memberAt : Cond) ∈ wG := wG_of 586 (by decide +kernel) rfl
theorem wd_587 : (Cond.methodLink RX5 99 yX3_lives : Cond) ∈ wG := wG_of 587 (by decide +kernel) rfl
theorem wd_588 : (Cond.methodLink RX5 103 yX4_has : Cond) ∈ wG := wG_of 588 (by decide +kernel) rfl
theorem wd_589 : (Cond.constant RX5 89 (-1000009) : Cond) ∈ wG := wG_of 589 (by decide +kernel) rfl
theorem wd_590 : (Cond.methodLink RX5 64 yX5_drawWaits : Cond) ∈ wG := wG_of 590 (by decide +kernel) rfl
theorem wd_591 : (Cond.instanceMethod yX5_drawWaits : Cond) ∈ wG := wG_of 591 (by decide +kernel) rfl
theorem wd_592 : (Cond.selects RX5 yX5_drawWaits yX5_drawWaits : Cond) ∈ wG := wG_of 592 (by decide +kernel) rfl
theorem wd_593 : (Cond.code yX5_drawWaits cX5_drawWaits 5 none : Cond) ∈ wG := wG_of 593 (by decide +kernel) rfl
theorem wd_594 : (Cond.methodLink RX5 115 yX4_mixed : Cond) ∈ wG := wG_of 594 (by decide +kernel) rfl
theorem wd_595 : (Cond.methodLink RX5 118 yX4_lot : Cond) ∈ wG := wG_of 595 (by decide +kernel) rfl
theorem wd_596 : (Cond.methodLink RX5 122 yX6_put : Cond) ∈ wG := wG_of 596 (by decide +kernel) rfl
theorem wd_597 : (Cond.methodLink RX5 68 yX5_findWhoAsks : Cond) ∈ wG := wG_of 597 (by decide +kernel) rfl
theorem wd_598 : (Cond.instanceMethod yX5_findWhoAsks : Cond) ∈ wG := wG_of 598 (by decide +kernel) rfl
theorem wd_599 : (Cond.selects RX5 yX5_findWhoAsks yX5_findWhoAsks : Cond) ∈ wG := wG_of 599 (by decide +kernel) rfl
theorem wd_600 : (Cond.code yX5_findWhoAsks cX5_findWhoAsks 4 none : Cond) ∈ wG := wG_of 600 (by decide +kernel) rfl
theorem wd_601 : (Cond.methodLink RX5 131 yX3_distance : Cond) ∈ wG := wG_of 601 (by decide +kernel) rfl
theorem wd_602 : (Cond.instanceMethod yX3_distance : Cond) ∈ wG := wG_of 602 (by decide +kernel) rfl
theorem wd_603 : (Cond.selects RX3 yX3_distance yX3_distance : Cond) ∈ wG := wG_of 603 (by decide +kernel) rfl
theorem wd_604 : (Cond.code yX3_distance cX3_distance 3 (some .int) : Cond) ∈ wG := wG_of 604 (by decide +kernel) rfl
theorem wd_605 : (Cond.methodLink RX3 62 Lib.Math.abs.name : Cond) ∈ wG := wG_of 605 (by decide +kernel) rfl
theorem wd_606 : (Cond.static Lib.Math.abs.name : Cond) ∈ wG := wG_of 606 (by decide +kernel) rfl
theorem wd_607 : (Cond.code Lib.Math.abs.name Lib.Math.abs.code 1 (some .int) : Cond) ∈ wG := wG_of 607 (by decide +kernel) rfl
theorem wd_608 : (Cond.methodLink RX5 75 yX5_reckonTimes : Cond) ∈ wG := wG_of 608 (by decide +kernel) rfl
theorem wd_609 : (Cond.instanceMethod yX5_reckonTimes : Cond) ∈ wG := wG_of 609 (by decide +kernel) rfl
theorem wd_610 : (Cond.selects RX5 yX5_reckonTimes yX5_reckonTimes : Cond) ∈ wG := wG_of 610 (by decide +kernel) rfl
theorem wd_611 : (Cond.code yX5_reckonTimes cX5_reckonTimes 6 none : Cond) ∈ wG := wG_of 611 (by decide +kernel) rfl
theorem wd_612 : (Cond.methodLink RX5 137 yX5_timeOfHearing : Cond) ∈ wG := wG_of 612 (by decide +kernel) rfl
theorem wd_613 : (Cond.instanceMethod yX5_timeOfHearing : Cond) ∈ wG := wG_of 613 (by decide +kernel) rfl
theorem wd_614 : (Cond.selects RX5 yX5_timeOfHearing yX5_timeOfHearing : Cond) ∈ wG := wG_of 614 (by decide +kernel) rfl
theorem wd_615 : (Cond.code yX5_timeOfHearing cX5_timeOfHearing 4 (some .int) : Cond) ∈ wG := wG_of 615 (by decide +kernel) rfl
theorem wd_616 : (Cond.methodLink RX5 149 Lib.Math.min.name : Cond) ∈ wG := wG_of 616 (by decide +kernel) rfl
theorem wd_617 : (Cond.methodLink RX5 144 Lib.Math.max.name : Cond) ∈ wG := wG_of 617 (by decide +kernel) rfl
theorem wd_618 : (Cond.static Lib.Math.max.name : Cond) ∈ wG := wG_of 618 (by decide +kernel) rfl
theorem wd_619 : (Cond.code Lib.Math.max.name Lib.Math.max.code 2 (some .int) : Cond) ∈ wG := wG_of 619 (by decide +kernel) rfl
theorem wd_620 : (Cond.methodLink RX9 218 yX7_carryOut : Cond) ∈ wG := wG_of 620 (by decide +kernel) rfl
theorem wd_621 : (Cond.instanceMethod yX7_carryOut : Cond) ∈ wG := wG_of 621 (by decide +kernel) rfl
theorem wd_622 : (Cond.selects RX7 yX7_carryOut yX7_carryOut : Cond) ∈ wG := wG_of 622 (by decide +kernel) rfl
theorem wd_623 : (Cond.code yX7_carryOut cX7_carryOut 3 none : Cond) ∈ wG := wG_of 623 (by decide +kernel) rfl
theorem wd_624 : (Cond.methodLink RX7 73 yX6_add : Cond) ∈ wG := wG_of 624 (by decide +kernel) rfl
theorem wd_625 : (Cond.methodLink RX7 91 yX2_add : Cond) ∈ wG := wG_of 625 (by decide +kernel) rfl
theorem wd_626 : (Cond.instanceMethod yX2_add : Cond) ∈ wG := wG_of 626 (by decide +kernel) rfl
theorem wd_627 : (Cond.selects RX2 yX2_add yX2_add : Cond) ∈ wG := wG_of 627 (by decide +kernel) rfl
theorem wd_628 : (Cond.code yX2_add cX2_add 4 none : Cond) ∈ wG := wG_of 628 (by decide +kernel) rfl
theorem wd_629 : (Cond.methodLink RX2 29 yX6_put : Cond) ∈ wG := wG_of 629 (by decide +kernel) rfl
theorem wd_630 : (Cond.methodLink RX2 51 yJ6_bitCount_0f7a4 : Cond) ∈ wG := wG_of 630 (by decide +kernel) rfl
theorem wd_631 : (Cond.methodLink RL 95 yX9_repairAll : Cond) ∈ wG := wG_of 631 (by decide +kernel) rfl
theorem wd_632 : (Cond.instanceMethod yX9_repairAll : Cond) ∈ wG := wG_of 632 (by decide +kernel) rfl
theorem wd_633 : (Cond.selects RX9 yX9_repairAll yX9_repairAll : Cond) ∈ wG := wG_of 633 (by decide +kernel) rfl
theorem wd_634 : (Cond.code yX9_repairAll cX9_repairAll 3 (some .int) : Cond) ∈ wG := wG_of 634 (by decide +kernel) rfl
theorem wd_635 : (Cond.methodLink RL 99 yX9_look : Cond) ∈ wG := wG_of 635 (by decide +kernel) rfl
theorem wd_636 : (Cond.instanceMethod yX9_look : Cond) ∈ wG := wG_of 636 (by decide +kernel) rfl
theorem wd_637 : (Cond.selects RX9 yX9_look yX9_look : Cond) ∈ wG := wG_of 637 (by decide +kernel) rfl
theorem wd_638 : (Cond.code yX9_look cX9_look 4 (some .int) : Cond) ∈ wG := wG_of 638 (by decide +kernel) rfl
theorem wd_639 : (Cond.methodLink RX9 225 yX5_partOf : Cond) ∈ wG := wG_of 639 (by decide +kernel) rfl
theorem wd_640 : (Cond.instanceMethod yX5_partOf : Cond) ∈ wG := wG_of 640 (by decide +kernel) rfl
theorem wd_641 : (Cond.selects RX5 yX5_partOf yX5_partOf : Cond) ∈ wG := wG_of 641 (by decide +kernel) rfl
theorem wd_642 : (Cond.code yX5_partOf cX5_partOf 2 (some .int) : Cond) ∈ wG := wG_of 642 (by decide +kernel) rfl
theorem wd_643 : (Cond.constant RX9 231 (-1000009) : Cond) ∈ wG := wG_of 643 (by decide +kernel) rfl
theorem wd_644 : (Cond.methodLink RL 103 yX9_past : Cond) ∈ wG := wG_of 644 (by decide +kernel) rfl
theorem wd_645 : (Cond.instanceMethod yX9_past : Cond) ∈ wG := wG_of 645 (by decide +kernel) rfl
theorem wd_646 : (Cond.selects RX9 yX9_past yX9_past : Cond) ∈ wG := wG_of 646 (by decide +kernel) rfl
theorem wd_647 : (Cond.code yX9_past cX9_past 3 (some .int) : Cond) ∈ wG := wG_of 647 (by decide +kernel) rfl
theorem wd_648 : (Cond.methodLink RX9 238 yX2_number : Cond) ∈ wG := wG_of 648 (by decide +kernel) rfl
theorem wd_649 : (Cond.instanceMethod yX2_number : Cond) ∈ wG := wG_of 649 (by decide +kernel) rfl
theorem wd_650 : (Cond.selects RX2 yX2_number yX2_number : Cond) ∈ wG := wG_of 650 (by decide +kernel) rfl
theorem wd_651 : (Cond.code yX2_number cX2_number 3 (some .int) : Cond) ∈ wG := wG_of 651 (by decide +kernel) rfl
theorem wd_652 : (Cond.methodLink RX2 64 yX2_kept : Cond) ∈ wG := wG_of 652 (by decide +kernel) rfl
theorem wd_653 : (Cond.instanceMethod yX2_kept : Cond) ∈ wG := wG_of 653 (by decide +kernel) rfl
theorem wd_654 : (Cond.selects RX2 yX2_kept yX2_kept : Cond) ∈ wG := wG_of 654 (by decide +kernel) rfl
theorem wd_655 : (Cond.code yX2_kept cX2_kept 1 (some .int) : Cond) ∈ wG := wG_of 655 (by decide +kernel) rfl
theorem wd_656 : (Cond.methodLink RX2 58 Lib.Math.min.name : Cond) ∈ wG := wG_of 656 (by decide +kernel) rfl
theorem wd_657 : (Cond.constant RX2 68 (-1000009) : Cond) ∈ wG := wG_of 657 (by decide +kernel) rfl
theorem wd_658 : (Cond.methodLink RX2 69 yX6_at : Cond) ∈ wG := wG_of 658 (by decide +kernel) rfl
theorem wd_659 : (Cond.methodLink RL 107 yX9_why : Cond) ∈ wG := wG_of 659 (by decide +kernel) rfl
theorem wd_660 : (Cond.instanceMethod yX9_why : Cond) ∈ wG := wG_of 660 (by decide +kernel) rfl
theorem wd_661 : (Cond.selects RX9 yX9_why yX9_why : Cond) ∈ wG := wG_of 661 (by decide +kernel) rfl
theorem wd_662 : (Cond.code yX9_why cX9_why 2 (some .int) : Cond) ∈ wG := wG_of 662 (by decide +kernel) rfl
theorem wd_663 : (Cond.methodLink RL 111 yX9_silence : Cond) ∈ wG := wG_of 663 (by decide +kernel) rfl
theorem wd_664 : (Cond.instanceMethod yX9_silence : Cond) ∈ wG := wG_of 664 (by decide +kernel) rfl
theorem wd_665 : (Cond.selects RX9 yX9_silence yX9_silence : Cond) ∈ wG := wG_of 665 (by decide +kernel) rfl
theorem wd_666 : (Cond.code yX9_silence cX9_silence 3 (some .float) : Cond) ∈ wG := wG_of 666 (by decide +kernel) rfl
theorem wd_667 : (Cond.methodLink RL 116 yX9_bestWait : Cond) ∈ wG := wG_of 667 (by decide +kernel) rfl
theorem wd_668 : (Cond.instanceMethod yX9_bestWait : Cond) ∈ wG := wG_of 668 (by decide +kernel) rfl
theorem wd_669 : (Cond.selects RX9 yX9_bestWait yX9_bestWait : Cond) ∈ wG := wG_of 669 (by decide +kernel) rfl
theorem wd_670 : (Cond.code yX9_bestWait cX9_bestWait 8 (some .int) : Cond) ∈ wG := wG_of 670 (by decide +kernel) rfl
theorem wd_671 : (Cond.fieldLink RX9 241 "RepairDuty" "WAITS_TO_TRY" "[I" : Cond) ∈ wG := wG_of 671 (by decide +kernel) rfl
theorem wd_673 : (Cond.methodLink RX9 245 yX9_sumOfTimes : Cond) ∈ wG := wG_of 673 (by decide +kernel) rfl
theorem wd_675 : (Cond.instanceMethod yX9_sumOfTimes : Cond) ∈ wG := wG_of 675 (by decide +kernel) rfl
theorem wd_676 : (Cond.code yX9_sumOfTimes cX9_sumOfTimes 4 (some .int) : Cond) ∈ wG := wG_of 676 (by decide +kernel) rfl
theorem wd_677 : (Cond.methodLink RL 120 yX9_undo : Cond) ∈ wG := wG_of 677 (by decide +kernel) rfl
theorem wd_678 : (Cond.instanceMethod yX9_undo : Cond) ∈ wG := wG_of 678 (by decide +kernel) rfl
theorem wd_679 : (Cond.selects RX9 yX9_undo yX9_undo : Cond) ∈ wG := wG_of 679 (by decide +kernel) rfl
theorem wd_680 : (Cond.code yX9_undo cX9_undo 1 (some .int) : Cond) ∈ wG := wG_of 680 (by decide +kernel) rfl
theorem wd_681 : (Cond.methodLink RX9 249 yX1_giveBack : Cond) ∈ wG := wG_of 681 (by decide +kernel) rfl
theorem wd_682 : (Cond.instanceMethod yX1_giveBack : Cond) ∈ wG := wG_of 682 (by decide +kernel) rfl
theorem wd_683 : (Cond.selects RX1 yX1_giveBack yX1_giveBack : Cond) ∈ wG := wG_of 683 (by decide +kernel) rfl
theorem wd_684 : (Cond.code yX1_giveBack cX1_giveBack 3 none : Cond) ∈ wG := wG_of 684 (by decide +kernel) rfl
theorem wd_685 : (Cond.methodLink RL 124 yX9_fingerprint : Cond) ∈ wG := wG_of 685 (by decide +kernel) rfl
theorem wd_686 : (Cond.instanceMethod yX9_fingerprint : Cond) ∈ wG := wG_of 686 (by decide +kernel) rfl
theorem wd_687 : (Cond.selects RX9 yX9_fingerprint yX9_fingerprint : Cond) ∈ wG := wG_of 687 (by decide +kernel) rfl
theorem wd_688 : (Cond.code yX9_fingerprint cX9_fingerprint 5 (some .long) : Cond) ∈ wG := wG_of 688 (by decide +kernel) rfl
theorem wd_689 : (Cond.constantLong RX9 252 (197) : Cond) ∈ wG := wG_of 689 (by decide +kernel) rfl
theorem wd_690 : (Cond.constantLong RX9 254 (31) : Cond) ∈ wG := wG_of 690 (by decide +kernel) rfl
theorem wd_691 : (Cond.methodLink RX9 256 yX9_about : Cond) ∈ wG := wG_of 691 (by decide +kernel) rfl
theorem wd_692 : (Cond.methodLink RX9 259 yX9_member : Cond) ∈ wG := wG_of 692 (by decide +kernel) rfl
theorem wd_693 : (Cond.methodLink RX9 262 yX9_seed : Cond) ∈ wG := wG_of 693 (by decide +kernel) rfl
theorem wd_694 : (Cond.methodLink RX9 268 yX9_duty : Cond) ∈ wG := wG_of 694 (by decide +kernel) rfl
theorem wd_695 : (Cond.methodLink RX9 271 yX2_kept : Cond) ∈ wG := wG_of 695 (by decide +kernel) rfl
theorem wd_696 : (Cond.methodLink RX9 274 yX9_past : Cond) ∈ wG := wG_of 696 (by decide +kernel) rfl
theorem wd_697 : (Cond.classLink RL 10 RX10 : Cond) ∈ wG := wG_of 697 (by decide +kernel) rfl
theorem wd_698 : (Cond.instantiable RX10 21 : Cond) ∈ wG := wG_of 698 (by decide +kernel) rfl
theorem wd_699 : (Cond.methodLink RL 12 yX10_init : Cond) ∈ wG := wG_of 699 (by decide +kernel) rfl
theorem wd_700 : (Cond.instanceMethod yX10_init : Cond) ∈ wG := wG_of 700 (by decide +kernel) rfl
theorem wd_701 : (Cond.code yX10_init cX10_init 1 none : Cond) ∈ wG := wG_of 701 (by decide +kernel) rfl
theorem wd_702 : (Cond.methodLink RX10 1 objectInit : Cond) ∈ wG := wG_of 702 (by decide +kernel) rfl
theorem wd_703 : (Cond.fieldLink RX10 7 "RepairDutyModel" "v" "[I" : Cond) ∈ wG := wG_of 703 (by decide +kernel) rfl
theorem wd_704 : (Cond.fieldLink RX10 13 "RepairDutyModel" "past" "[I" : Cond) ∈ wG := wG_of 704 (by decide +kernel) rfl
theorem wd_705 : (Cond.fieldLink RX10 28 "RepairDutyModel" "pastMany" "I" : Cond) ∈ wG := wG_of 705 (by decide +kernel) rfl
theorem wd_706 : (Cond.fieldLink RX10 69 "RepairDutyModel" "seeded" "I" : Cond) ∈ wG := wG_of 706 (by decide +kernel) rfl
theorem wd_707 : (Cond.fieldLink RX10 16 "RepairDutyModel" "list" "[I" : Cond) ∈ wG := wG_of 707 (by decide +kernel) rfl
theorem wd_708 : (Cond.fieldLink RX10 72 "RepairDutyModel" "lotted" "I" : Cond) ∈ wG := wG_of 708 (by decide +kernel) rfl
theorem wd_709 : (Cond.fieldLink RX10 19 "RepairDutyModel" "text" "[I" : Cond) ∈ wG := wG_of 709 (by decide +kernel) rfl
theorem wd_710 : (Cond.fieldLink RX10 90 "RepairDutyModel" "typed" "I" : Cond) ∈ wG := wG_of 710 (by decide +kernel) rfl
theorem wd_711 : (Cond.fieldLink RX10 93 "RepairDutyModel" "placed" "I" : Cond) ∈ wG := wG_of 711 (by decide +kernel) rfl
theorem wd_712 : (Cond.fieldLink RX10 100 "RepairDutyModel" "wrong" "I" : Cond) ∈ wG := wG_of 712 (by decide +kernel) rfl
theorem wd_713 : (Cond.fieldLink RX10 22 "RepairDutyModel" "losses" "[I" : Cond) ∈ wG := wG_of 713 (by decide +kernel) rfl
theorem wd_714 : (Cond.fieldLink RX10 103 "RepairDutyModel" "readMany" "I" : Cond) ∈ wG := wG_of 714 (by decide +kernel) rfl
theorem wd_715 : (Cond.fieldLink RX10 113 "RepairDutyModel" "losers" "I" : Cond) ∈ wG := wG_of 715 (by decide +kernel) rfl
theorem wd_716 : (Cond.fieldLink RX10 25 "RepairDutyModel" "waits" "[I" : Cond) ∈ wG := wG_of 716 (by decide +kernel) rfl
theorem wd_717 : (Cond.fieldLink RX10 126 "RepairDutyModel" "first" "I" : Cond) ∈ wG := wG_of 717 (by decide +kernel) rfl
theorem wd_718 : (Cond.fieldLink RX10 132 "RepairDutyModel" "asking" "I" : Cond) ∈ wG := wG_of 718 (by decide +kernel) rfl
theorem wd_719 : (Cond.fieldLink RX10 135 "RepairDutyModel" "silent" "I" : Cond) ∈ wG := wG_of 719 (by decide +kernel) rfl
theorem wd_720 : (Cond.fieldLink RX10 116 "RepairDutyModel" "missing" "I" : Cond) ∈ wG := wG_of 720 (by decide +kernel) rfl
theorem wd_721 : (Cond.fieldLink RX10 119 "RepairDutyModel" "repairer" "I" : Cond) ∈ wG := wG_of 721 (by decide +kernel) rfl
theorem wd_722 : (Cond.fieldLink RX10 141 "RepairDutyModel" "sends" "I" : Cond) ∈ wG := wG_of 722 (by decide +kernel) rfl
theorem wd_723 : (Cond.fieldLink RX10 144 "RepairDutyModel" "time" "I" : Cond) ∈ wG := wG_of 723 (by decide +kernel) rfl
theorem wd_724 : (Cond.laysFinal RX10 "RepairDutyModel" "v" "[I" : Cond) ∈ wG := wG_of 724 (by decide +kernel) rfl
theorem wd_726 : (Cond.laysFinal RX10 "RepairDutyModel" "past" "[I" : Cond) ∈ wG := wG_of 726 (by decide +kernel) rfl
theorem wd_728 : (Cond.lays RX10 "RepairDutyModel" "pastMany" "I" : Cond) ∈ wG := wG_of 728 (by decide +kernel) rfl
theorem wd_730 : (Cond.lays RX10 "RepairDutyModel" "seeded" "I" : Cond) ∈ wG := wG_of 730 (by decide +kernel) rfl
theorem wd_732 : (Cond.laysFinal RX10 "RepairDutyModel" "list" "[I" : Cond) ∈ wG := wG_of 732 (by decide +kernel) rfl
theorem wd_734 : (Cond.lays RX10 "RepairDutyModel" "lotted" "I" : Cond) ∈ wG := wG_of 734 (by decide +kernel) rfl
theorem wd_736 : (Cond.laysFinal RX10 "RepairDutyModel" "text" "[I" : Cond) ∈ wG := wG_of 736 (by decide +kernel) rfl
theorem wd_738 : (Cond.lays RX10 "RepairDutyModel" "typed" "I" : Cond) ∈ wG := wG_of 738 (by decide +kernel) rfl
theorem wd_740 : (Cond.lays RX10 "RepairDutyModel" "placed" "I" : Cond) ∈ wG := wG_of 740 (by decide +kernel) rfl
theorem wd_742 : (Cond.lays RX10 "RepairDutyModel" "wrong" "I" : Cond) ∈ wG := wG_of 742 (by decide +kernel) rfl
theorem wd_744 : (Cond.laysFinal RX10 "RepairDutyModel" "losses" "[I" : Cond) ∈ wG := wG_of 744 (by decide +kernel) rfl
theorem wd_746 : (Cond.lays RX10 "RepairDutyModel" "readMany" "I" : Cond) ∈ wG := wG_of 746 (by decide +kernel) rfl
theorem wd_748 : (Cond.lays RX10 "RepairDutyModel" "losers" "I" : Cond) ∈ wG := wG_of 748 (by decide +kernel) rfl
theorem wd_750 : (Cond.laysFinal RX10 "RepairDutyModel" "waits" "[I" : Cond) ∈ wG := wG_of 750 (by decide +kernel) rfl
theorem wd_752 : (Cond.lays RX10 "RepairDutyModel" "first" "I" : Cond) ∈ wG := wG_of 752 (by decide +kernel) rfl
theorem wd_754 : (Cond.lays RX10 "RepairDutyModel" "asking" "I" : Cond) ∈ wG := wG_of 754 (by decide +kernel) rfl
theorem wd_756 : (Cond.lays RX10 "RepairDutyModel" "silent" "I" : Cond) ∈ wG := wG_of 756 (by decide +kernel) rfl
theorem wd_758 : (Cond.lays RX10 "RepairDutyModel" "missing" "I" : Cond) ∈ wG := wG_of 758 (by decide +kernel) rfl
theorem wd_760 : (Cond.lays RX10 "RepairDutyModel" "repairer" "I" : Cond) ∈ wG := wG_of 760 (by decide +kernel) rfl
theorem wd_762 : (Cond.lays RX10 "RepairDutyModel" "sends" "I" : Cond) ∈ wG := wG_of 762 (by decide +kernel) rfl
theorem wd_764 : (Cond.lays RX10 "RepairDutyModel" "time" "I" : Cond) ∈ wG := wG_of 764 (by decide +kernel) rfl
theorem wd_767 : (Cond.methodLink RL 17 yX10_join : Cond) ∈ wG := wG_of 767 (by decide +kernel) rfl
theorem wd_768 : (Cond.instanceMethod yX10_join : Cond) ∈ wG := wG_of 768 (by decide +kernel) rfl
theorem wd_769 : (Cond.selects RX10 yX10_join yX10_join : Cond) ∈ wG := wG_of 769 (by decide +kernel) rfl
theorem wd_770 : (Cond.code yX10_join cX10_join 5 (some .int) : Cond) ∈ wG := wG_of 770 (by decide +kernel) rfl
theorem wd_771 : (Cond.methodLink RX10 35 yX10_in : Cond) ∈ wG := wG_of 771 (by decide +kernel) rfl
theorem wd_772 : (Cond.static yX10_in : Cond) ∈ wG := wG_of 772 (by decide +kernel) rfl
theorem wd_773 : (Cond.code yX10_in cX10_in 3 (some .boolean) : Cond) ∈ wG := wG_of 773 (by decide +kernel) rfl
theorem wd_774 : (Cond.constant RX10 40 (-1000001) : Cond) ∈ wG := wG_of 774 (by decide +kernel) rfl
theorem wd_775 : (Cond.constant RX10 41 (-1000003) : Cond) ∈ wG := wG_of 775 (by decide +kernel) rfl
theorem wd_776 : (Cond.methodLink RX10 32 yX10_act : Cond) ∈ wG := wG_of 776 (by decide +kernel) rfl
theorem wd_778 : (Cond.instanceMethod yX10_act : Cond) ∈ wG := wG_of 778 (by decide +kernel) rfl
theorem wd_779 : (Cond.code yX10_act cX10_act 2 none : Cond) ∈ wG := wG_of 779 (by decide +kernel) rfl
theorem wd_780 : (Cond.methodLink RX10 42 yX10_at : Cond) ∈ wG := wG_of 780 (by decide +kernel) rfl
theorem wd_781 : (Cond.static yX10_at : Cond) ∈ wG := wG_of 781 (by decide +kernel) rfl
theorem wd_782 : (Cond.code yX10_at cX10_at 2 (some .int) : Cond) ∈ wG := wG_of 782 (by decide +kernel) rfl
theorem wd_783 : (Cond.constant RX10 46 (-1000009) : Cond) ∈ wG := wG_of 783 (by decide +kernel) rfl
theorem wd_784 : (Cond.methodLink RL 22 yX10_change : Cond) ∈ wG := wG_of 784 (by decide +kernel) rfl
theorem wd_785 : (Cond.instanceMethod yX10_change : Cond) ∈ wG := wG_of 785 (by decide +kernel) rfl
theorem wd_786 : (Cond.selects RX10 yX10_change yX10_change : Cond) ∈ wG := wG_of 786 (by decide +kernel) rfl
theorem wd_787 : (Cond.code yX10_change cX10_change 5 (some .int) : Cond) ∈ wG := wG_of 787 (by decide +kernel) rfl
theorem wd_788 : (Cond.methodLink RX10 47 yX10_isMember : Cond) ∈ wG := wG_of 788 (by decide +kernel) rfl
theorem wd_790 : (Cond.instanceMethod yX10_isMember : Cond) ∈ wG := wG_of 790 (by decide +kernel) rfl
theorem wd_791 : (Cond.code yX10_isMember cX10_isMember 2 (some .boolean) : Cond) ∈ wG := wG_of 791 (by decide +kernel) rfl
theorem wd_792 : (Cond.methodLink RX10 51 yX10_sets : Cond) ∈ wG := wG_of 792 (by decide +kernel) rfl
theorem wd_794 : (Cond.instanceMethod yX10_sets : Cond) ∈ wG := wG_of 794 (by decide +kernel) rfl
theorem wd_795 : (Cond.code yX10_sets cX10_sets 4 (some .int) : Cond) ∈ wG := wG_of 795 (by decide +kernel) rfl
theorem wd_796 : (Cond.methodLink RL 27 yX10_live : Cond) ∈ wG := wG_of 796 (by decide +kernel) rfl
theorem wd_797 : (Cond.instanceMethod yX10_live : Cond) ∈ wG := wG_of 797 (by decide +kernel) rfl
theorem wd_798 : (Cond.selects RX10 yX10_live yX10_live : Cond) ∈ wG := wG_of 798 (by decide +kernel) rfl
theorem wd_799 : (Cond.code yX10_live cX10_live 3 (some .int) : Cond) ∈ wG := wG_of 799 (by decide +kernel) rfl
theorem wd_800 : (Cond.methodLink RL 31 yX10_member : Cond) ∈ wG := wG_of 800 (by decide +kernel) rfl
theorem wd_801 : (Cond.instanceMethod yX10_member : Cond) ∈ wG := wG_of 801 (by decide +kernel) rfl
theorem wd_802 : (Cond.selects RX10 yX10_member yX10_member : Cond) ∈ wG := wG_of 802 (by decide +kernel) rfl
theorem wd_803 : (Cond.code yX10_member cX10_member 3 (some .int) : Cond) ∈ wG := wG_of 803 (by decide +kernel) rfl
theorem wd_804 : (Cond.methodLink RX10 58 yX10_told : Cond) ∈ wG := wG_of 804 (by decide +kernel) rfl
theorem wd_806 : (Cond.instanceMethod yX10_told : Cond) ∈ wG := wG_of 806 (by decide +kernel) rfl
theorem wd_807 : (Cond.code yX10_told cX10_told 5 (some .int) : Cond) ∈ wG := wG_of 807 (by decide +kernel) rfl
theorem wd_808 : (Cond.methodLink RX10 54 yX10_has : Cond) ∈ wG := wG_of 808 (by decide +kernel) rfl
theorem wd_810 : (Cond.instanceMethod yX10_has : Cond) ∈ wG := wG_of 810 (by decide +kernel) rfl
theorem wd_811 : (Cond.code yX10_has cX10_has 3 (some .boolean) : Cond) ∈ wG := wG_of 811 (by decide +kernel) rfl
theorem wd_812 : (Cond.methodLink RL 35 yX10_set : Cond) ∈ wG := wG_of 812 (by decide +kernel) rfl
theorem wd_813 : (Cond.instanceMethod yX10_set : Cond) ∈ wG := wG_of 813 (by decide +kernel) rfl
theorem wd_814 : (Cond.selects RX10 yX10_set yX10_set : Cond) ∈ wG := wG_of 814 (by decide +kernel) rfl
theorem wd_815 : (Cond.code yX10_set cX10_set 4 (some .int) : Cond) ∈ wG := wG_of 815 (by decide +kernel) rfl
theorem wd_816 : (Cond.methodLink RL 40 yX10_about : Cond) ∈ wG := wG_of 816 (by decide +kernel) rfl
theorem wd_817 : (Cond.instanceMethod yX10_about : Cond) ∈ wG := wG_of 817 (by decide +kernel) rfl
theorem wd_818 : (Cond.selects RX10 yX10_about yX10_about : Cond) ∈ wG := wG_of 818 (by decide +kernel) rfl
theorem wd_819 : (Cond.code yX10_about cX10_about 2 (some .int) : Cond) ∈ wG := wG_of 819 (by decide +kernel) rfl
theorem wd_820 : (Cond.methodLink RL 44 yX10_mix : Cond) ∈ wG := wG_of 820 (by decide +kernel) rfl
theorem wd_821 : (Cond.instanceMethod yX10_mix : Cond) ∈ wG := wG_of 821 (by decide +kernel) rfl
theorem wd_822 : (Cond.selects RX10 yX10_mix yX10_mix : Cond) ∈ wG := wG_of 822 (by decide +kernel) rfl
theorem wd_823 : (Cond.code yX10_mix cX10_mix 2 (some .int) : Cond) ∈ wG := wG_of 823 (by decide +kernel) rfl
theorem wd_824 : (Cond.methodLink RX10 61 yX10_mixed : Cond) ∈ wG := wG_of 824 (by decide +kernel) rfl
theorem wd_825 : (Cond.static yX10_mixed : Cond) ∈ wG := wG_of 825 (by decide +kernel) rfl
theorem wd_826 : (Cond.code yX10_mixed cX10_mixed 2 (some .int) : Cond) ∈ wG := wG_of 826 (by decide +kernel) rfl
theorem wd_827 : (Cond.constant RX10 39 (1103515245) : Cond) ∈ wG := wG_of 827 (by decide +kernel) rfl
theorem wd_828 : (Cond.methodLink RL 48 yX10_commit : Cond) ∈ wG := wG_of 828 (by decide +kernel) rfl
theorem wd_829 : (Cond.instanceMethod yX10_commit : Cond) ∈ wG := wG_of 829 (by decide +kernel) rfl
theorem wd_830 : (Cond.selects RX10 yX10_commit yX10_commit : Cond) ∈ wG := wG_of 830 (by decide +kernel) rfl
theorem wd_831 : (Cond.code yX10_commit cX10_commit 4 (some .int) : Cond) ∈ wG := wG_of 831 (by decide +kernel) rfl
theorem wd_832 : (Cond.methodLink RX10 65 yX10_lives : Cond) ∈ wG := wG_of 832 (by decide +kernel) rfl
theorem wd_834 : (Cond.instanceMethod yX10_lives : Cond) ∈ wG := wG_of 834 (by decide +kernel) rfl
theorem wd_835 : (Cond.code yX10_lives cX10_lives 2 (some .boolean) : Cond) ∈ wG := wG_of 835 (by decide +kernel) rfl
theorem wd_836 : (Cond.constant RX10 68 (-1000002) : Cond) ∈ wG := wG_of 836 (by decide +kernel) rfl
theorem wd_837 : (Cond.methodLink RL 52 yX10_reveal : Cond) ∈ wG := wG_of 837 (by decide +kernel) rfl
theorem wd_838 : (Cond.instanceMethod yX10_reveal : Cond) ∈ wG := wG_of 838 (by decide +kernel) rfl
theorem wd_839 : (Cond.selects RX10 yX10_reveal yX10_reveal : Cond) ∈ wG := wG_of 839 (by decide +kernel) rfl
theorem wd_840 : (Cond.code yX10_reveal cX10_reveal 4 (some .int) : Cond) ∈ wG := wG_of 840 (by decide +kernel) rfl
theorem wd_841 : (Cond.methodLink RL 57 yX10_draw : Cond) ∈ wG := wG_of 841 (by decide +kernel) rfl
theorem wd_842 : (Cond.instanceMethod yX10_draw : Cond) ∈ wG := wG_of 842 (by decide +kernel) rfl
theorem wd_843 : (Cond.selects RX10 yX10_draw yX10_draw : Cond) ∈ wG := wG_of 843 (by decide +kernel) rfl
theorem wd_844 : (Cond.code yX10_draw cX10_draw 2 (some .int) : Cond) ∈ wG := wG_of 844 (by decide +kernel) rfl
theorem wd_845 : (Cond.methodLink RX10 78 yX10_seeds : Cond) ∈ wG := wG_of 845 (by decide +kernel) rfl
theorem wd_847 : (Cond.instanceMethod yX10_seeds : Cond) ∈ wG := wG_of 847 (by decide +kernel) rfl
theorem wd_848 : (Cond.code yX10_seeds cX10_seeds 4 (some .int) : Cond) ∈ wG := wG_of 848 (by decide +kernel) rfl
theorem wd_849 : (Cond.methodLink RX10 81 yX10_lists : Cond) ∈ wG := wG_of 849 (by decide +kernel) rfl
theorem wd_851 : (Cond.instanceMethod yX10_lists : Cond) ∈ wG := wG_of 851 (by decide +kernel) rfl
theorem wd_852 : (Cond.code yX10_lists cX10_lists 8 none : Cond) ∈ wG := wG_of 852 (by decide +kernel) rfl
theorem wd_853 : (Cond.methodLink RX10 75 yX10_lot : Cond) ∈ wG := wG_of 853 (by decide +kernel) rfl
theorem wd_855 : (Cond.instanceMethod yX10_lot : Cond) ∈ wG := wG_of 855 (by decide +kernel) rfl
theorem wd_856 : (Cond.code yX10_lot cX10_lot 2 (some .int) : Cond) ∈ wG := wG_of 856 (by decide +kernel) rfl
theorem wd_857 : (Cond.methodLink RL 62 yX10_seed : Cond) ∈ wG := wG_of 857 (by decide +kernel) rfl
theorem wd_858 : (Cond.instanceMethod yX10_seed : Cond) ∈ wG := wG_of 858 (by decide +kernel) rfl
theorem wd_859 : (Cond.selects RX10 yX10_seed yX10_seed : Cond) ∈ wG := wG_of 859 (by decide +kernel) rfl
theorem wd_860 : (Cond.code yX10_seed cX10_seed 1 (some .long) : Cond) ∈ wG := wG_of 860 (by decide +kernel) rfl
theorem wd_861 : (Cond.constantLong RX10 85 (-4611686018427387905) : Cond) ∈ wG := wG_of 861 (by decide +kernel) rfl
theorem wd_862 : (Cond.methodLink RL 66 yX10_duty : Cond) ∈ wG := wG_of 862 (by decide +kernel) rfl
theorem wd_863 : (Cond.instanceMethod yX10_duty : Cond) ∈ wG := wG_of 863 (by decide +kernel) rfl
theorem wd_864 : (Cond.selects RX10 yX10_duty yX10_duty : Cond) ∈ wG := wG_of 864 (by decide +kernel) rfl
theorem wd_865 : (Cond.code yX10_duty cX10_duty 2 (some .int) : Cond) ∈ wG := wG_of 865 (by decide +kernel) rfl
theorem wd_866 : (Cond.methodLink RL 70 yX10_ifLeft : Cond) ∈ wG := wG_of 866 (by decide +kernel) rfl
theorem wd_867 : (Cond.instanceMethod yX10_ifLeft : Cond) ∈ wG := wG_of 867 (by decide +kernel) rfl
theorem wd_868 : (Cond.selects RX10 yX10_ifLeft yX10_ifLeft : Cond) ∈ wG := wG_of 868 (by decide +kernel) rfl
theorem wd_869 : (Cond.code yX10_ifLeft cX10_ifLeft 3 (some .int) : Cond) ∈ wG := wG_of 869 (by decide +kernel) rfl
theorem wd_870 : (Cond.methodLink RL 74 yX10_lose : Cond) ∈ wG := wG_of 870 (by decide +kernel) rfl
theorem wd_871 : (Cond.instanceMethod yX10_lose : Cond) ∈ wG := wG_of 871 (by decide +kernel) rfl
theorem wd_872 : (Cond.selects RX10 yX10_lose yX10_lose : Cond) ∈ wG := wG_of 872 (by decide +kernel) rfl
theorem wd_873 : (Cond.code yX10_lose cX10_lose 5 (some .int) : Cond) ∈ wG := wG_of 873 (by decide +kernel) rfl
theorem wd_874 : (Cond.methodLink RX10 87 yX10_isBlock : Cond) ∈ wG := wG_of 874 (by decide +kernel) rfl
theorem wd_875 : (Cond.static yX10_isBlock : Cond) ∈ wG := wG_of 875 (by decide +kernel) rfl
theorem wd_876 : (Cond.code yX10_isBlock cX10_isBlock 1 (some .boolean) : Cond) ∈ wG := wG_of 876 (by decide +kernel) rfl
theorem wd_877 : (Cond.methodLink RL 78 yX10_type : Cond) ∈ wG := wG_of 877 (by decide +kernel) rfl
theorem wd_878 : (Cond.instanceMethod yX10_type : Cond) ∈ wG := wG_of 878 (by decide +kernel) rfl
theorem wd_879 : (Cond.selects RX10 yX10_type yX10_type : Cond) ∈ wG := wG_of 879 (by decide +kernel) rfl
theorem wd_880 : (Cond.code yX10_type cX10_type 2 (some .int) : Cond) ∈ wG := wG_of 880 (by decide +kernel) rfl
theorem wd_881 : (Cond.methodLink RL 82 yX10_clear : Cond) ∈ wG := wG_of 881 (by decide +kernel) rfl
theorem wd_882 : (Cond.instanceMethod yX10_clear : Cond) ∈ wG := wG_of 882 (by decide +kernel) rfl
theorem wd_883 : (Cond.selects RX10 yX10_clear yX10_clear : Cond) ∈ wG := wG_of 883 (by decide +kernel) rfl
theorem wd_884 : (Cond.code yX10_clear cX10_clear 2 (some .int) : Cond) ∈ wG := wG_of 884 (by decide +kernel) rfl
theorem wd_885 : (Cond.methodLink RL 86 yX10_read : Cond) ∈ wG := wG_of 885 (by decide +kernel) rfl
theorem wd_886 : (Cond.instanceMethod yX10_read : Cond) ∈ wG := wG_of 886 (by decide +kernel) rfl
theorem wd_887 : (Cond.selects RX10 yX10_read yX10_read : Cond) ∈ wG := wG_of 887 (by decide +kernel) rfl
theorem wd_888 : (Cond.code yX10_read cX10_read 6 (some .int) : Cond) ∈ wG := wG_of 888 (by decide +kernel) rfl
theorem wd_889 : (Cond.methodLink RX10 110 yX10_wrongAt : Cond) ∈ wG := wG_of 889 (by decide +kernel) rfl
theorem wd_891 : (Cond.instanceMethod yX10_wrongAt : Cond) ∈ wG := wG_of 891 (by decide +kernel) rfl
theorem wd_892 : (Cond.code yX10_wrongAt cX10_wrongAt 2 (some .int) : Cond) ∈ wG := wG_of 892 (by decide +kernel) rfl
theorem wd_893 : (Cond.methodLink RX10 106 yX10_readsGroup : Cond) ∈ wG := wG_of 893 (by decide +kernel) rfl
theorem wd_895 : (Cond.instanceMethod yX10_readsGroup : Cond) ∈ wG := wG_of 895 (by decide +kernel) rfl
theorem wd_896 : (Cond.code yX10_readsGroup cX10_readsGroup 4 (some .boolean) : Cond) ∈ wG := wG_of 896 (by decide +kernel) rfl
theorem wd_897 : (Cond.methodLink RX10 96 yX10_sign : Cond) ∈ wG := wG_of 897 (by decide +kernel) rfl
theorem wd_899 : (Cond.instanceMethod yX10_sign : Cond) ∈ wG := wG_of 899 (by decide +kernel) rfl
theorem wd_900 : (Cond.code yX10_sign cX10_sign 1 (some .int) : Cond) ∈ wG := wG_of 900 (by decide +kernel) rfl
theorem wd_901 : (Cond.methodLink RL 90 yX10_lost : Cond) ∈ wG := wG_of 901 (by decide +kernel) rfl
theorem wd_902 : (Cond.instanceMethod yX10_lost : Cond) ∈ wG := wG_of 902 (by decide +kernel) rfl
theorem wd_903 : (Cond.selects RX10 yX10_lost yX10_lost : Cond) ∈ wG := wG_of 903 (by decide +kernel) rfl
theorem wd_904 : (Cond.code yX10_lost cX10_lost 3 (some .int) : Cond) ∈ wG := wG_of 904 (by decide +kernel) rfl
theorem wd_905 : (Cond.methodLink RL 94 yX10_repair : Cond) ∈ wG := wG_of 905 (by decide +kernel) rfl
theorem wd_906 : (Cond.instanceMethod yX10_repair : Cond) ∈ wG := wG_of 906 (by decide +kernel) rfl
theorem wd_907 : (Cond.selects RX10 yX10_repair yX10_repair : Cond) ∈ wG := wG_of 907 (by decide +kernel) rfl
theorem wd_908 : (Cond.code yX10_repair cX10_repair 2 (some .int) : Cond) ∈ wG := wG_of 908 (by decide +kernel) rfl
theorem wd_909 : (Cond.methodLink RX10 150 yX10_works : Cond) ∈ wG := wG_of 909 (by decide +kernel) rfl
theorem wd_911 : (Cond.instanceMethod yX10_works : Cond) ∈ wG := wG_of 911 (by decide +kernel) rfl
theorem wd_912 : (Cond.code yX10_works cX10_works 5 (some .int) : Cond) ∈ wG := wG_of 912 (by decide +kernel) rfl
theorem wd_913 : (Cond.methodLink RX10 122 yX10_asks : Cond) ∈ wG := wG_of 913 (by decide +kernel) rfl
theorem wd_915 : (Cond.instanceMethod yX10_asks : Cond) ∈ wG := wG_of 915 (by decide +kernel) rfl
theorem wd_916 : (Cond.code yX10_asks cX10_asks 8 none : Cond) ∈ wG := wG_of 916 (by decide +kernel) rfl
theorem wd_917 : (Cond.methodLink RX10 129 yX10_isIn : Cond) ∈ wG := wG_of 917 (by decide +kernel) rfl
theorem wd_919 : (Cond.instanceMethod yX10_isIn : Cond) ∈ wG := wG_of 919 (by decide +kernel) rfl
theorem wd_920 : (Cond.code yX10_isIn cX10_isIn 3 (some .boolean) : Cond) ∈ wG := wG_of 920 (by decide +kernel) rfl
theorem wd_921 : (Cond.methodLink RX10 138 yX10_distance : Cond) ∈ wG := wG_of 921 (by decide +kernel) rfl
theorem wd_923 : (Cond.instanceMethod yX10_distance : Cond) ∈ wG := wG_of 923 (by decide +kernel) rfl
theorem wd_924 : (Cond.code yX10_distance cX10_distance 4 (some .int) : Cond) ∈ wG := wG_of 924 (by decide +kernel) rfl
theorem wd_925 : (Cond.methodLink RX10 153 yX10_makes : Cond) ∈ wG := wG_of 925 (by decide +kernel) rfl
theorem wd_927 : (Cond.instanceMethod yX10_makes : Cond) ∈ wG := wG_of 927 (by decide +kernel) rfl
theorem wd_928 : (Cond.code yX10_makes cX10_makes 3 none : Cond) ∈ wG := wG_of 928 (by decide +kernel) rfl
theorem wd_929 : (Cond.methodLink RX10 147 yX10_many : Cond) ∈ wG := wG_of 929 (by decide +kernel) rfl
theorem wd_930 : (Cond.static yX10_many : Cond) ∈ wG := wG_of 930 (by decide +kernel) rfl
theorem wd_931 : (Cond.code yX10_many cX10_many 3 (some .int) : Cond) ∈ wG := wG_of 931 (by decide +kernel) rfl
theorem wd_932 : (Cond.methodLink RL 98 yX10_repairAll : Cond) ∈ wG := wG_of 932 (by decide +kernel) rfl
theorem wd_933 : (Cond.instanceMethod yX10_repairAll : Cond) ∈ wG := wG_of 933 (by decide +kernel) rfl
theorem wd_934 : (Cond.selects RX10 yX10_repairAll yX10_repairAll : Cond) ∈ wG := wG_of 934 (by decide +kernel) rfl
theorem wd_935 : (Cond.code yX10_repairAll cX10_repairAll 3 (some .int) : Cond) ∈ wG := wG_of 935 (by decide +kernel) rfl
theorem wd_936 : (Cond.methodLink RL 102 yX10_look : Cond) ∈ wG := wG_of 936 (by decide +kernel) rfl
theorem wd_937 : (Cond.instanceMethod yX10_look : Cond) ∈ wG := wG_of 937 (by decide +kernel) rfl
theorem wd_938 : (Cond.selects RX10 yX10_look yX10_look : Cond) ∈ wG := wG_of 938 (by decide +kernel) rfl
theorem wd_939 : (Cond.code yX10_look cX10_look 4 (some .int) : Cond) ∈ wG := wG_of 939 (by decide +kernel) rfl
theorem wd_940 : (Cond.methodLink RX10 156 yX10_roleOf : Cond) ∈ wG := wG_of 940 (by decide +kernel) rfl
theorem wd_942 : (Cond.instanceMethod yX10_roleOf : Cond) ∈ wG := wG_of 942 (by decide +kernel) rfl
theorem wd_943 : (Cond.code yX10_roleOf cX10_roleOf 2 (some .int) : Cond) ∈ wG := wG_of 943 (by decide +kernel) rfl
theorem wd_944 : (Cond.methodLink RL 106 yX10_past : Cond) ∈ wG := wG_of 944 (by decide +kernel) rfl
theorem wd_945 : (Cond.instanceMethod yX10_past : Cond) ∈ wG := wG_of 945 (by decide +kernel) rfl
theorem wd_946 : (Cond.selects RX10 yX10_past yX10_past : Cond) ∈ wG := wG_of 946 (by decide +kernel) rfl
theorem wd_947 : (Cond.code yX10_past cX10_past 3 (some .int) : Cond) ∈ wG := wG_of 947 (by decide +kernel) rfl
theorem wd_948 : (Cond.methodLink RX10 159 yX10_pastOf : Cond) ∈ wG := wG_of 948 (by decide +kernel) rfl
theorem wd_950 : (Cond.instanceMethod yX10_pastOf : Cond) ∈ wG := wG_of 950 (by decide +kernel) rfl
theorem wd_951 : (Cond.code yX10_pastOf cX10_pastOf 3 (some .int) : Cond) ∈ wG := wG_of 951 (by decide +kernel) rfl
theorem wd_952 : (Cond.methodLink RL 110 yX10_why : Cond) ∈ wG := wG_of 952 (by decide +kernel) rfl
theorem wd_953 : (Cond.instanceMethod yX10_why : Cond) ∈ wG := wG_of 953 (by decide +kernel) rfl
theorem wd_954 : (Cond.selects RX10 yX10_why yX10_why : Cond) ∈ wG := wG_of 954 (by decide +kernel) rfl
theorem wd_955 : (Cond.code yX10_why cX10_why 2 (some .int) : Cond) ∈ wG := wG_of 955 (by decide +kernel) rfl
theorem wd_956 : (Cond.methodLink RL 115 yX10_silence : Cond) ∈ wG := wG_of 956 (by decide +kernel) rfl
theorem wd_957 : (Cond.instanceMethod yX10_silence : Cond) ∈ wG := wG_of 957 (by decide +kernel) rfl
theorem wd_958 : (Cond.selects RX10 yX10_silence yX10_silence : Cond) ∈ wG := wG_of 958 (by decide +kernel) rfl
theorem wd_959 : (Cond.code yX10_silence cX10_silence 2 (some .float) : Cond) ∈ wG := wG_of 959 (by decide +kernel) rfl
theorem wd_960 : (Cond.methodLink RL 119 yX10_bestWait : Cond) ∈ wG := wG_of 960 (by decide +kernel) rfl
theorem wd_961 : (Cond.instanceMethod yX10_bestWait : Cond) ∈ wG := wG_of 961 (by decide +kernel) rfl
theorem wd_962 : (Cond.selects RX10 yX10_bestWait yX10_bestWait : Cond) ∈ wG := wG_of 962 (by decide +kernel) rfl
theorem wd_963 : (Cond.code yX10_bestWait cX10_bestWait 9 (some .int) : Cond) ∈ wG := wG_of 963 (by decide +kernel) rfl
theorem wd_964 : (Cond.methodLink RX10 162 yX10_waitOf : Cond) ∈ wG := wG_of 964 (by decide +kernel) rfl
theorem wd_965 : (Cond.static yX10_waitOf : Cond) ∈ wG := wG_of 965 (by decide +kernel) rfl
theorem wd_966 : (Cond.code yX10_waitOf cX10_waitOf 1 (some .int) : Cond) ∈ wG := wG_of 966 (by decide +kernel) rfl
theorem wd_967 : (Cond.methodLink RL 123 yX10_undo : Cond) ∈ wG := wG_of 967 (by decide +kernel) rfl
theorem wd_968 : (Cond.instanceMethod yX10_undo : Cond) ∈ wG := wG_of 968 (by decide +kernel) rfl
theorem wd_969 : (Cond.selects RX10 yX10_undo yX10_undo : Cond) ∈ wG := wG_of 969 (by decide +kernel) rfl
theorem wd_970 : (Cond.code yX10_undo cX10_undo 2 (some .int) : Cond) ∈ wG := wG_of 970 (by decide +kernel) rfl
theorem wd_971 : (Cond.methodLink RL 127 yX10_fingerprint : Cond) ∈ wG := wG_of 971 (by decide +kernel) rfl
theorem wd_972 : (Cond.instanceMethod yX10_fingerprint : Cond) ∈ wG := wG_of 972 (by decide +kernel) rfl
theorem wd_973 : (Cond.selects RX10 yX10_fingerprint yX10_fingerprint : Cond) ∈ wG := wG_of 973 (by decide +kernel) rfl
theorem wd_974 : (Cond.code yX10_fingerprint cX10_fingerprint 5 (some .long) : Cond) ∈ wG := wG_of 974 (by decide +kernel) rfl
theorem wd_975 : (Cond.constantLong RX10 165 (197) : Cond) ∈ wG := wG_of 975 (by decide +kernel) rfl
theorem wd_976 : (Cond.constantLong RX10 167 (31) : Cond) ∈ wG := wG_of 976 (by decide +kernel) rfl
theorem wi_X0 : ∀ w ∈ wsX00, w ∈ wG := List.forall_mem_cons.mpr ⟨wd_139, List.forall_mem_cons.mpr ⟨wd_141, List.forall_mem_cons.mpr ⟨wd_143, List.forall_mem_cons.mpr ⟨wd_145, fun _ h => absurd h List.not_mem_nil⟩⟩⟩⟩
theorem wi_X1 : ∀ w ∈ wsX10, w ∈ wG := List.forall_mem_cons.mpr ⟨wd_214, List.forall_mem_cons.mpr ⟨wd_216, List.forall_mem_cons.mpr ⟨wd_218, fun _ h => absurd h List.not_mem_nil⟩⟩⟩
theorem wi_X2 : ∀ w ∈ wsX20, w ∈ wG := List.forall_mem_cons.mpr ⟨wd_163, List.forall_mem_cons.mpr ⟨wd_165, List.forall_mem_cons.mpr ⟨wd_167, List.forall_mem_cons.mpr ⟨wd_169, fun _ h => absurd h List.not_mem_nil⟩⟩⟩⟩
theorem wi_X3 : ∀ w ∈ wsX30, w ∈ wG := List.forall_mem_cons.mpr ⟨wd_99, List.forall_mem_cons.mpr ⟨wd_101, List.forall_mem_cons.mpr ⟨wd_103, List.forall_mem_cons.mpr ⟨wd_105, List.forall_mem_cons.mpr ⟨wd_107, List.forall_mem_cons.mpr ⟨wd_109, List.forall_mem_cons.mpr ⟨wd_111, List.forall_mem_cons.mpr ⟨wd_113, List.forall_mem_cons.mpr ⟨wd_115, List.forall_mem_cons.mpr ⟨wd_117, fun _ h => absurd h List.not_mem_nil⟩⟩⟩⟩⟩⟩⟩⟩⟩⟩
theorem wi_X4 : ∀ w ∈ wsX40, w ∈ wG := fun _ h => absurd h List.not_mem_nil
theorem wi_X5 : ∀ w ∈ wsX50, w ∈ wG := List.forall_mem_cons.mpr ⟨wd_272, List.forall_mem_cons.mpr ⟨wd_274, List.forall_mem_cons.mpr ⟨wd_276, List.forall_mem_cons.mpr ⟨wd_278, List.forall_mem_cons.mpr ⟨wd_280, List.forall_mem_cons.mpr ⟨wd_282, List.forall_mem_cons.mpr ⟨wd_284, List.forall_mem_cons.mpr ⟨wd_286, List.forall_mem_cons.mpr ⟨wd_288, List.forall_mem_cons.mpr ⟨wd_290, List.forall_mem_cons.mpr ⟨wd_292, List.forall_mem_cons.mpr ⟨wd_294, fun _ h => absurd h List.not_mem_nil⟩⟩⟩⟩⟩⟩⟩⟩⟩⟩⟩⟩
theorem wi_X6 : ∀ w ∈ wsX60, w ∈ wG := List.forall_mem_cons.mpr ⟨wd_58, fun _ h => absurd h List.not_mem_nil⟩
theorem wi_X7 : ∀ w ∈ wsX70, w ∈ wG := List.forall_mem_cons.mpr ⟨wd_190, List.forall_mem_cons.mpr ⟨wd_192, List.forall_mem_cons.mpr ⟨wd_194, List.forall_mem_cons.mpr ⟨wd_196, List.forall_mem_cons.mpr ⟨wd_198, fun _ h => absurd h List.not_mem_nil⟩⟩⟩⟩⟩
theorem wi_X8 : ∀ w ∈ wsX80, w ∈ wG := List.forall_mem_cons.mpr ⟨wd_232, List.forall_mem_cons.mpr ⟨wd_234, fun _ h => absurd h List.not_mem_nil⟩⟩
theorem wi_X9 : ∀ w ∈ wsX90, w ∈ wG := List.forall_mem_cons.mpr ⟨wd_304, List.forall_mem_cons.mpr ⟨wd_306, List.forall_mem_cons.mpr ⟨wd_308, List.forall_mem_cons.mpr ⟨wd_310, List.forall_mem_cons.mpr ⟨wd_312, fun _ h => absurd h List.not_mem_nil⟩⟩⟩⟩⟩
theorem wi_X10 : ∀ w ∈ wsX100, w ∈ wG := List.forall_mem_cons.mpr ⟨wd_724, List.forall_mem_cons.mpr ⟨wd_726, List.forall_mem_cons.mpr ⟨wd_728, List.forall_mem_cons.mpr ⟨wd_730, List.forall_mem_cons.mpr ⟨wd_732, List.forall_mem_cons.mpr ⟨wd_734, List.forall_mem_cons.mpr ⟨wd_736, List.forall_mem_cons.mpr ⟨wd_738, List.forall_mem_cons.mpr ⟨wd_740, List.forall_mem_cons.mpr ⟨wd_742, List.forall_mem_cons.mpr ⟨wd_744, List.forall_mem_cons.mpr ⟨wd_746, List.forall_mem_cons.mpr ⟨wd_748, List.forall_mem_cons.mpr ⟨wd_750, List.forall_mem_cons.mpr ⟨wd_752, List.forall_mem_cons.mpr ⟨wd_754, List.forall_mem_cons.mpr ⟨wd_756, List.forall_mem_cons.mpr ⟨wd_758, List.forall_mem_cons.mpr ⟨wd_760, List.forall_mem_cons.mpr ⟨wd_762, List.forall_mem_cons.mpr ⟨wd_764, fun _ h => absurd h List.not_mem_nil⟩⟩⟩⟩⟩⟩⟩⟩⟩⟩⟩⟩⟩⟩⟩⟩⟩⟩⟩⟩⟩
end
section
/-! the places of the world (by program, wip/whole/mk_layout.py): 0 rd; 1 now; 2 now_settings; 3 now_settings_a; 4 now_members; 5 now_weights; 6 now_weights_a; 7 now_positions; 8 now_positions_a; 9 now_credits; 10 now_credits_a; 11 now_repaired; 12 now_repaired_a; 13 now_missed; 14 now_missed_a; 15 now_stages; 16 now_stages_a; 17 now_told; 18 now_told_a; 19 now_secrets; 20 now_secrets_a; 21 now_duties; 22 now_duties_list; 23 now_duties_list_a; 24 now_lost; 25 now_lost_a; 26 now_log; 27 now_numbers; 28 now_numbers_a; 29 history; 30 states; 31 st0; 32 st0_settings; 33 st0_settings_a; 34 st0_members; 35 st0_weights; 36 st0_weights_a; 37 st0_positions; 38 st0_positions_a; 39 st0_credits; 40 st0_credits_a; 41 st0_repaired; 42 st0_repaired_a; 43 st0_missed; 44 st0_missed_a; 45 st0_stages; 46 st0_stages_a; 47 st0_told; 48 st0_told_a; 49 st0_secrets; 50 st0_secrets_a; 51 st0_duties; 52 st0_duties_list; 53 st0_duties_list_a; 54 st0_lost; 55 st0_lost_a; 56 st0_log; 57 st0_numbers; 58 st0_numbers_a; 59 st1; 60 st1_settings; 61 st1_settings_a; 62 st1_members; 63 st1_weights; 64 st1_weights_a; 65 st1_positions; 66 st1_positions_a; 67 st1_credits; 68 st1_credits_a; 69 st1_repaired; 70 st1_repaired_a; 71 st1_missed; 72 st1_missed_a; 73 st1_stages; 74 st1_stages_a; 75 st1_told; 76 st1_told_a; 77 st1_secrets; 78 st1_secrets_a; 79 st1_duties; 80 st1_duties_list; 81 st1_duties_list_a; 82 st1_lost; 83 st1_lost_a; 84 st1_log; 85 st1_numbers; 86 st1_numbers_a; 87 st2; 88 st2_settings; 89 st2_settings_a; 90 st2_members; 91 st2_weights; 92 st2_weights_a; 93 st2_positions; 94 st2_positions_a; 95 st2_credits; 96 st2_credits_a; 97 st2_repaired; 98 st2_repaired_a; 99 st2_missed; 100 st2_missed_a; 101 st2_stages; 102 st2_stages_a; 103 st2_told; 104 st2_told_a; 105 st2_secrets; 106 st2_secrets_a; 107 st2_duties; 108 st2_duties_list; 109 st2_duties_list_a; 110 st2_lost; 111 st2_lost_a; 112 st2_log; 113 st2_numbers; 114 st2_numbers_a; 115 st3; 116 st3_settings; 117 st3_settings_a; 118 st3_members; 119 st3_weights; 120 st3_weights_a; 121 st3_positions; 122 st3_positions_a; 123 st3_credits; 124 st3_credits_a; 125 st3_repaired; 126 st3_repaired_a; 127 st3_missed; 128 st3_missed_a; 129 st3_stages; 130 st3_stages_a; 131 st3_told; 132 st3_told_a; 133 st3_secrets; 134 st3_secrets_a; 135 st3_duties; 136 st3_duties_list; 137 st3_duties_list_a; 138 st3_lost; 139 st3_lost_a; 140 st3_log; 141 st3_numbers; 142 st3_numbers_a; 143 text; 144 signs; 145 signs_a; 146 plan; 147 waits; 148 waits_a; 149 arrivals; 150 arrivals_a; 151 guess; 152 guess_list; 153 guess_list_a; 154 model; 155 m_v; 156 m_past; 157 m_list; 158 m_text; 159 m_losses; 160 m_waits -/
abbrev gSh : Type := Nat ⊕ ((Nat × List (Option Nat)) ⊕ List Nat)
def gsh_0 : List gSh := [.inr (.inl (8, [some 1, some 29, some 143, some 146, some 151])), .inr (.inl (6, [some 2, some 4, some 21, some 24, some 26])), .inr (.inl (5, [some 3])), .inl 5, .inr (.inl (3, [none, none, some 5, some 7, some 9, some 11, some 13, some 15, some 17, some 19])), .inr (.inl (5, [some 6])), .inl 10, .inr (.inl (5, [some 8])), .inl 10, .inr (.inl (5, [some 10])), .inl 10, .inr (.inl (5, [some 12])), .inl 10, .inr (.inl (5, [some 14])), .inl 10, .inr (.inl (5, [some 16])), .inl 10, .inr (.inl (5, [some 18])), .inl 10, .inr (.inl (5, [some 20])), .inl 10, .inr (.inl (0, [none, none, none, some 22])), .inr (.inl (5, [some 23])), .inl 10, .inr (.inl (5, [some 25])), .inl 200, .inr (.inl (2, [none, none, none, some 27])), .inr (.inl (5, [some 28])), .inl 140, .inr (.inl (1, [none, none, some 30])), .inr (.inr [31, 59, 87, 115]), .inr (.inl (6, [some 32, some 34, some 51, some 54, some 56])), .inr (.inl (5, [some 33])), .inl 5, .inr (.inl (3, [none, none, some 35, some 37, some 39, some 41, some 43, some 45, some 47, some 49])), .inr (.inl (5, [some 36])), .inl 10, .inr (.inl (5, [some 38])), .inl 10, .inr (.inl (5, [some 40]))]
def gsh_1 : List gSh := [.inl 10, .inr (.inl (5, [some 42])), .inl 10, .inr (.inl (5, [some 44])), .inl 10, .inr (.inl (5, [some 46])), .inl 10, .inr (.inl (5, [some 48])), .inl 10, .inr (.inl (5, [some 50])), .inl 10, .inr (.inl (0, [none, none, none, some 52])), .inr (.inl (5, [some 53])), .inl 10, .inr (.inl (5, [some 55])), .inl 200, .inr (.inl (2, [none, none, none, some 57])), .inr (.inl (5, [some 58])), .inl 140, .inr (.inl (6, [some 60, some 62, some 79, some 82, some 84])), .inr (.inl (5, [some 61])), .inl 5, .inr (.inl (3, [none, none, some 63, some 65, some 67, some 69, some 71, some 73, some 75, some 77])), .inr (.inl (5, [some 64])), .inl 10, .inr (.inl (5, [some 66])), .inl 10, .inr (.inl (5, [some 68])), .inl 10, .inr (.inl (5, [some 70])), .inl 10, .inr (.inl (5, [some 72])), .inl 10, .inr (.inl (5, [some 74])), .inl 10, .inr (.inl (5, [some 76])), .inl 10, .inr (.inl (5, [some 78])), .inl 10, .inr (.inl (0, [none, none, none, some 80]))]
def gsh_2 : List gSh := [.inr (.inl (5, [some 81])), .inl 10, .inr (.inl (5, [some 83])), .inl 200, .inr (.inl (2, [none, none, none, some 85])), .inr (.inl (5, [some 86])), .inl 140, .inr (.inl (6, [some 88, some 90, some 107, some 110, some 112])), .inr (.inl (5, [some 89])), .inl 5, .inr (.inl (3, [none, none, some 91, some 93, some 95, some 97, some 99, some 101, some 103, some 105])), .inr (.inl (5, [some 92])), .inl 10, .inr (.inl (5, [some 94])), .inl 10, .inr (.inl (5, [some 96])), .inl 10, .inr (.inl (5, [some 98])), .inl 10, .inr (.inl (5, [some 100])), .inl 10, .inr (.inl (5, [some 102])), .inl 10, .inr (.inl (5, [some 104])), .inl 10, .inr (.inl (5, [some 106])), .inl 10, .inr (.inl (0, [none, none, none, some 108])), .inr (.inl (5, [some 109])), .inl 10, .inr (.inl (5, [some 111])), .inl 200, .inr (.inl (2, [none, none, none, some 113])), .inr (.inl (5, [some 114])), .inl 140, .inr (.inl (6, [some 116, some 118, some 135, some 138, some 140])), .inr (.inl (5, [some 117])), .inl 5, .inr (.inl (3, [none, none, some 119, some 121, some 123, some 125, some 127, some 129, some 131, some 133])), .inr (.inl (5, [some 120]))]
def gsh_3 : List gSh := [.inl 10, .inr (.inl (5, [some 122])), .inl 10, .inr (.inl (5, [some 124])), .inl 10, .inr (.inl (5, [some 126])), .inl 10, .inr (.inl (5, [some 128])), .inl 10, .inr (.inl (5, [some 130])), .inl 10, .inr (.inl (5, [some 132])), .inl 10, .inr (.inl (5, [some 134])), .inl 10, .inr (.inl (0, [none, none, none, some 136])), .inr (.inl (5, [some 137])), .inl 10, .inr (.inl (5, [some 139])), .inl 200, .inr (.inl (2, [none, none, none, some 141])), .inr (.inl (5, [some 142])), .inl 140, .inr (.inl (7, [none, some 144])), .inr (.inl (5, [some 145])), .inl 60, .inr (.inl (4, [none, none, none, none, none, none, none, none, none, none, some 147, some 149])), .inr (.inl (5, [some 148])), .inl 10, .inr (.inl (5, [some 150])), .inl 10, .inr (.inl (0, [none, none, none, some 152])), .inr (.inl (5, [some 153])), .inl 10, .inr (.inl (9, [some 155, some 156, none, none, some 157, none, some 158, none, none, none, some 159, none, none, some 160, none, none, none, none, none, none, none])), .inl 520, .inl 2080, .inl 10, .inl 60, .inl 60]
def gsh_4 : List gSh := [.inl 10]
def gsh : List gSh := gsh_0 ++ (gsh_1 ++ (gsh_2 ++ (gsh_3 ++ (gsh_4))))
/-! the memory: the ints of every place; a place's row is a function -/
abbrev gM : Type := Nat → Nat → Int32
def gr (m : gM) (k : Nat) (f : Nat → Int32) : gM := fun q => if q = k then f else m q
theorem gr_s (m : gM) (k : Nat) (f : Nat → Int32) : gr m k f k = f := if_pos rfl
theorem gr_n {m : gM} {k q : Nat} {f : Nat → Int32} (h : q ≠ k) : gr m k f q = m q := if_neg h
theorem gr_self (m : gM) (k : Nat) : gr m k (m k) = m := by
  funext q
  by_cases h : q = k
  · rw [h, gr_s]
  · rw [gr_n h]
theorem gr_gr (m : gM) (k : Nat) (f g : Nat → Int32) : gr (gr m k f) k g = gr m k g := by
  funext q
  by_cases h : q = k
  · rw [h, gr_s, gr_s]
  · rw [gr_n h, gr_n h, gr_n h]
theorem gr_comm (m : gM) {k j : Nat} (h : k ≠ j) (f g : Nat → Int32) : gr (gr m k f) j g = gr (gr m j g) k f := by
  funext q
  by_cases h1 : q = j
  · subst h1; rw [gr_s, gr_n (Ne.symm h), gr_s]
  · rw [gr_n h1]
    by_cases h2 : q = k
    · subst h2; rw [gr_s, gr_s]
    · rw [gr_n h2, gr_n h2, gr_n h1]
def gFs (ad : Nat → Nat) (f : Nat → Int32) : Nat → List (Option Nat) → List Value
  | _, [] => []
  | i, none :: t => .int (f i) :: gFs ad f (i + 1) t
  | i, some q :: t => .ref (ad q) :: gFs ad f (i + 1) t
theorem gFs_i {ad : Nat → Nat} {f : Nat → Int32} : ∀ {l : List (Option Nat)} {i j : Nat}, l[j]? = some none → (gFs ad f i l)[j]? = some (.int (f (i + j)))
  | [], _, _, h => by simp at h
  | none :: t, i, 0, h => by simp [gFs]
  | some q :: t, i, 0, h => by simp at h
  | none :: t, i, j + 1, h => by
    rw [List.getElem?_cons_succ] at h
    rw [show i + (j + 1) = (i + 1) + j by omega]
    simpa [gFs] using gFs_i h
  | some q :: t, i, j + 1, h => by
    rw [List.getElem?_cons_succ] at h
    rw [show i + (j + 1) = (i + 1) + j by omega]
    simpa [gFs] using gFs_i h
theorem gFs_r {ad : Nat → Nat} {f : Nat → Int32} {q : Nat} : ∀ {l : List (Option Nat)} {i j : Nat}, l[j]? = some (some q) → (gFs ad f i l)[j]? = some (.ref (ad q))
  | [], _, _, h => by simp at h
  | some q :: t, i, 0, h => by simp at h; simp [gFs, h]
  | none :: t, i, 0, h => by simp at h
  | none :: t, i, j + 1, h => by
    rw [List.getElem?_cons_succ] at h
    simpa [gFs] using gFs_r h
  | some q :: t, i, j + 1, h => by
    rw [List.getElem?_cons_succ] at h
    simpa [gFs] using gFs_r h
theorem gFs_congr {ad : Nat → Nat} {f g : Nat → Int32} : ∀ {l : List (Option Nat)} {i : Nat}, (∀ q, i ≤ q → f q = g q) → gFs ad f i l = gFs ad g i l
  | [], _, _ => rfl
  | none :: t, i, h => by simp only [gFs]; rw [h i (Nat.le_refl _), gFs_congr (l := t) (i := i + 1) fun q hq => h q (by omega)]
  | some q :: t, i, h => by simp only [gFs]; rw [gFs_congr (l := t) (i := i + 1) fun q hq => h q (by omega)]
theorem gFs_len {ad : Nat → Nat} {f : Nat → Int32} : ∀ {l : List (Option Nat)} {i : Nat}, (gFs ad f i l).length = l.length
  | [], _ => rfl
  | none :: t, i => by simp [gFs, gFs_len (l := t)]
  | some q :: t, i => by simp [gFs, gFs_len (l := t)]
theorem gFs_set {ad : Nat → Nat} {f : Nat → Int32} {v : Int32} : ∀ {l : List (Option Nat)} {i j : Nat}, l[j]? = some none → (gFs ad f i l).set j (.int v) = gFs ad (upd f (i + j) v) i l
  | [], _, _, h => by simp at h
  | none :: t, i, 0, h => by
    simp only [gFs, List.set_cons_zero]
    rw [show upd f (i + 0) v i = v by simp [upd]]
    rw [gFs_congr (l := t) (f := f) (g := upd f (i + 0) v) fun q hq => by simp [upd]; omega]
  | some q :: t, i, 0, h => by simp at h
  | none :: t, i, j + 1, h => by
    rw [List.getElem?_cons_succ] at h
    simp only [gFs, List.set_cons_succ]
    rw [gFs_set h, show i + 1 + j = i + (j + 1) by omega]
    rw [show upd f (i + (j + 1)) v i = f i by simp [upd]]
  | some q :: t, i, j + 1, h => by
    rw [List.getElem?_cons_succ] at h
    simp only [gFs, List.set_cons_succ]
    rw [gFs_set h, show i + 1 + j = i + (j + 1) by omega]
def gE (cI cS : ClassId) (ad : Nat → Nat) (r : Nat → Int32) : gSh → va_E
  | .inl n => .inl (cI, (n, .inl r))
  | .inr (.inl o) => .inr (o.1, gFs ad r 0 o.2)
  | .inr (.inr l) => .inl (cS, (l.length, .inr (.inr (.inr (.inr (fun j => (l[j]?).map ad))))))
def gL (cI cS : ClassId) (ad : Nat → Nat) (m : gM) : Nat → List gSh → va_W
  | _, [] => []
  | k, s :: t => (ad k, gE cI cS ad (m k) s) :: gL cI cS ad m (k + 1) t
theorem gL_get {cI cS : ClassId} {ad : Nat → Nat} {m : gM} {s : gSh} : ∀ {l : List gSh} {k j : Nat}, l[j]? = some s → (gL cI cS ad m k l)[j]? = some (ad (k + j), gE cI cS ad (m (k + j)) s)
  | [], _, _, h => by simp at h
  | x :: t, k, 0, h => by simp at h; simp [gL, h]
  | x :: t, k, j + 1, h => by
    rw [List.getElem?_cons_succ] at h
    rw [show k + (j + 1) = (k + 1) + j by omega]
    simpa [gL] using gL_get h
theorem gL_congr {cI cS : ClassId} {ad : Nat → Nat} {m m2 : gM} : ∀ {l : List gSh} {k : Nat}, (∀ q, k ≤ q → m q = m2 q) → gL cI cS ad m k l = gL cI cS ad m2 k l
  | [], _, _ => rfl
  | x :: t, k, h => by simp only [gL]; rw [h k (Nat.le_refl _), gL_congr (l := t) (k := k + 1) fun q hq => h q (by omega)]
theorem gL_set {cI cS : ClassId} {ad : Nat → Nat} {m : gM} {s : gSh} {f : Nat → Int32} : ∀ {l : List gSh} {k j : Nat}, l[j]? = some s → (gL cI cS ad m k l).set j (ad (k + j), gE cI cS ad f s) = gL cI cS ad (gr m (k + j) f) k l
  | [], _, _, h => by simp at h
  | x :: t, k, 0, h => by
    simp at h
    subst h
    simp only [gL, List.set_cons_zero, Nat.add_zero]
    rw [gr_s, gL_congr (l := t) (k := k + 1) (m := m) (m2 := gr m k f) fun q hq => (gr_n (by omega)).symm]
  | x :: t, k, j + 1, h => by
    rw [List.getElem?_cons_succ] at h
    simp only [gL, List.set_cons_succ]
    rw [show k + (j + 1) = (k + 1) + j by omega, gL_set h, gr_n (show k ≠ k + 1 + j by omega)]
theorem gL_dist {cI cS : ClassId} {ad : Nat → Nat} {m m2 : gM} : ∀ {l : List gSh} {k j : Nat} {q : Nat × va_E}, (gL cI cS ad m2 k l)[j]? = some q → ∃ e, (gL cI cS ad m k l)[j]? = some (q.1, e)
  | [], _, _, _, h => by simp [gL] at h
  | x :: t, k, 0, q, h => by simp [gL] at h; exact ⟨_, by simp [gL, ← h]; rfl⟩
  | x :: t, k, j + 1, q, h => by
    simp only [gL, List.getElem?_cons_succ] at h ⊢
    exact gL_dist h
abbrev gG : Type := va_G × (Nat → Nat) × (ClassId × ClassId) × (Nat → Prop) × (Nat × Nat × Nat)
abbrev gad (G : gG) : Nat → Nat := G.2.1
abbrev gA (G : gG) : Nat → Prop := G.2.2.2.1
abbrev gT (G : gG) : List (ClassId × FieldType) := [(G.2.2.1.1, .int), (G.2.2.1.2, .object "RepairDuty$State")]
def gW (G : gG) (m : gM) : va_W := gL G.2.2.1.1 G.2.2.1.2 (gad G) m 0 gsh
theorem gW_get {G : gG} {m : gM} {k : Nat} {s : gSh} (h : gsh[k]? = some s) : (gW G m)[k]? = some (gad G k, gE G.2.2.1.1 G.2.2.1.2 (gad G) (m k) s) := by
  have := gL_get (cI := G.2.2.1.1) (cS := G.2.2.1.2) (ad := gad G) (m := m) (k := 0) h
  simpa [gW] using this
theorem gW_set {G : gG} {m : gM} {k : Nat} {s : gSh} {f : Nat → Int32} (h : gsh[k]? = some s) : (gW G m).set k (gad G k, gE G.2.2.1.1 G.2.2.1.2 (gad G) f s) = gW G (gr m k f) := by
  have := gL_set (cI := G.2.2.1.1) (cS := G.2.2.1.2) (ad := gad G) (m := m) (k := 0) (f := f) h
  simpa [gW] using this
theorem gD_any {G : gG} {m m2 : gM} (h : va_D (gA G) (gW G m)) : va_D (gA G) (gW G m2) := by
  refine ⟨fun i j p q hi hj hpq => ?_, fun k q hk => ?_⟩
  · obtain ⟨e1, h1⟩ := gL_dist (m := m) hi
    obtain ⟨e2, h2⟩ := gL_dist (m := m) hj
    exact h.1 i j _ _ h1 h2 hpq
  · obtain ⟨e1, h1⟩ := gL_dist (m := m) hk
    exact h.2 k (q.1, e1) h1
/-! the static rows -/
def zLow (j : Nat) : Int32 := ([1, 0, 1, 0, 0] : List Int32).getD j 0
def zHigh (j : Nat) : Int32 := ([1000, 500, 10, 100, 100] : List Int32).getD j 0
def zTry (j : Nat) : Int32 := ([1, 10, 30, 100, 300, 1000] : List Int32).getD j 0
def gZ1 (n : String) (t N : Nat) (f : Nat → Int32) (A : Nat → Prop) (U : State) (H : Heap) : Prop := va_Z RX9 n "[I" (.ref t) A U H ∧ va_T .int t N (fun j => .int (f j)) A U H
def gZ (G : gG) (U : State) (H : Heap) : Prop := gZ1 "LOWEST" G.2.2.2.2.1 5 zLow (gA G) U H ∧ gZ1 "HIGHEST" G.2.2.2.2.2.1 5 zHigh (gA G) U H ∧ gZ1 "WAITS_TO_TRY" G.2.2.2.2.2.2 6 zTry (gA G) U H
theorem gZ1.moved {n : String} {t N : Nat} {f : Nat → Int32} {A : Nat → Prop} {u U : State} {H : Heap} (hvm : u.vm.Alike U.vm) (h : gZ1 n t N f A u H) : gZ1 n t N f A U H := ⟨h.1.moved hvm, h.2.moved hvm⟩
theorem gZ1.kept {n : String} {t N : Nat} {f : Nat → Int32} {A : Nat → Prop} {U : State} {H H1 : Heap} (h : gZ1 n t N f A U H) (hq : ∀ a : Nat, a < H.size → ¬ A a → H1[a]? = H[a]?) : gZ1 n t N f A U H1 := ⟨h.1.kept hq, h.2.kept hq⟩
theorem gZ.moved {G : gG} {u U : State} {H : Heap} (hvm : u.vm.Alike U.vm) (h : gZ G u H) : gZ G U H := ⟨h.1.moved hvm, h.2.1.moved hvm, h.2.2.moved hvm⟩
theorem gZ.kept {G : gG} {U : State} {H H1 : Heap} (h : gZ G U H) (hq : ∀ a : Nat, a < H.size → ¬ gA G a → H1[a]? = H[a]?) : gZ G U H1 := ⟨h.1.kept hq, h.2.1.kept hq, h.2.2.kept hq⟩
/-- a truth as an int -/
def b2i (P : Prop) [h : Decidable P] : Int32 := if P then 1 else 0
theorem b2i_01 (P : Prop) {h : Decidable P} : b2i P = 0 ∨ b2i P = 1 := by
  unfold b2i
  by_cases hp : P
  · rw [if_pos hp]; exact Or.inr rfl
  · rw [if_neg hp]; exact Or.inl rfl
theorem b2i_t {P : Prop} {h : Decidable P} (hp : P) : b2i P = 1 := if_pos hp
theorem b2i_f {P : Prop} {h : Decidable P} (hp : ¬ P) : b2i P = 0 := if_neg hp
theorem b2i_eq0 {P : Prop} {h : Decidable P} : b2i P = 0 ↔ ¬ P := by
  unfold b2i
  by_cases hp : P
  · rw [if_pos hp]; exact ⟨fun q => absurd q (by decide), fun q => absurd hp q⟩
  · rw [if_neg hp]; exact ⟨fun _ => hp, fun _ => rfl⟩
theorem b2i_congr {P P2 : Prop} {h : Decidable P} {h2 : Decidable P2} (e : P ↔ P2) : b2i P = b2i P2 := by
  unfold b2i
  by_cases hp : P
  · rw [if_pos hp, if_pos (e.mp hp)]
  · rw [if_neg hp, if_neg (fun q => hp (e.mpr q))]
theorem gLc {i : Nat} {v w : Value} {L L2 : List (Nat × Value)} (h : v = w) (h2 : L = L2) : (i, v) :: L = (i, w) :: L2 := by rw [h, h2]
theorem tsw_cases (x : Int32) (n : Nat) (hn : n < 2 ^ 31) : (x.toInt < 0 ∨ (n : Int) ≤ x.toInt) ∨ ∃ j : Nat, j < n ∧ x = nI j := by
  by_cases h : x.toInt < 0 ∨ (n : Int) ≤ x.toInt
  · exact Or.inl h
  · refine Or.inr ⟨x.toInt.toNat, by omega, ?_⟩
    apply Int32.toInt_inj.mp
    rw [nI_toInt (by omega)]
    omega
theorem tsw_out {x : Int32} {n : Nat} {hi : Int} (h : x.toInt < 0 ∨ (n : Int) ≤ x.toInt) (hh : (n : Int) = hi + 1) : x.toInt < 0 ∨ hi < x.toInt := by omega
/-! a state that holds a memory; a contract -/
def gB (G : gG) (m : gM) (U : State) : Prop := va_P G.1 vwCl (gW G m) U.heap ∧ va_K G.1 vwCl (gT G) U ∧ va_D (gA G) (gW G m) ∧ gZ G U U.heap
def gQ (G : gG) (post : Option Value → gM → Prop) : Array Value → State → Outcome → State → Prop := fun _ st oc t => (∃ (v : Option Value) (u : gM), oc = .returned v ∧ post v u ∧ gB G u t) ∧ va_F (gA G) st t
def gMet (l : Launch) (y : MethodName) (b : ByteArray) (maxL : Nat) (ret : Option FieldType) (rm : Room) (G : gG) (As : List Value) (m : gM) (post : Option Value → gM → Prop) : Prop :=
  Met l y (Cond.code y b maxL ret :: wG) rm (va_Pc As (gB G m)) (gQ G post) 0 0 (gA G)
/-- what the tables say of a method that is called -/
def gI (y : MethodName) (b : ByteArray) (maxL : Nat) (ret : Option FieldType) (n : Nat) : Prop := Cond.code y b maxL ret ∈ wG ∧ Cond.initialized y.cls ∈ wG ∧ (y.cls ≠ "java/lang/invoke/MethodHandle" ∧ y.cls ≠ "java/lang/invoke/VarHandle" ∧ (parseMethodDescriptor y.desc).map (fun d => d.parameters.length) = some n)
def gIv (y : MethodName) (b : ByteArray) (maxL : Nat) (ret : Option FieldType) (n : Nat) : Prop := gI y b maxL ret n ∧ Cond.instanceMethod y ∈ wG ∧ Cond.selects y.cls y y ∈ wG
def gIs (y : MethodName) (b : ByteArray) (maxL : Nat) (ret : Option FieldType) (n : Nat) : Prop := gI y b maxL ret n ∧ Cond.static y ∈ wG
theorem gI_good {y : MethodName} {b : ByteArray} {maxL n : Nat} {ret : Option FieldType} (h : gI y b maxL ret n) : GoodIn wG (Cond.code y b maxL ret :: wG) := by
  intro w hw
  rcases List.mem_cons.mp hw with rfl | hw
  · exact ⟨h.1, wG_good h.1⟩
  · exact ⟨hw, wG_good hw⟩
/-- place k holds an object of class Cn, its fields fl (none: an int; some q: place q) -/
def gO (k ci : Nat) (Cn : String) (T : u_T) (N : Nat) (fl : List (Option Nat)) : Prop := gsh[k]? = some (.inr (.inl (ci, fl))) ∧ vwCl[ci]? = some (Cn, T, N) ∧ (∀ w ∈ u_ws Cn T N, w ∈ wG) ∧ (∃ ty : Nat → FieldType, ∀ k, k < N → parseFieldDescriptor (T k).2.2.1 = some (ty k)) ∧ (∀ a, a < N → ∀ b, b < N → a ≠ b → (T a).2.1 ≠ (T b).2.1)
def gAr (k n : Nat) : Prop := gsh[k]? = some (.inl n)
theorem gB_blind {G : gG} {m : gM} {As : List Value} : FrameBlind (va_Pc As (gB G m)) := fun _ U _ _ q => ⟨q.1, q.2.1, va_K.moved (u := U) (Vm.Alike.refl U.vm) q.2.2.1, q.2.2.2.1, gZ.moved (u := U) (Vm.Alike.refl U.vm) q.2.2.2.2⟩
section GROWS
variable {p : Program} {l : Launch} {e : Env} {R : Room} {s : State} {m : MethodId} {args : Array Value} {below : List Frame} {meth : Method} {c : Code} {mc ms : Nat} {Q : State → Prop} {G : gG} {own : String} {cc : ByteArray} {ret : Option FieldType} {nL : Nat} {mem : gM} {pc : Nat} {L : List (Nat × Value)} {st : List Value}
/-- a method's start: the machine, the code, the words, the world's kind -/
def gC (G : gG) (own : String) (cc : ByteArray) (ret : Option FieldType) (nL : Nat) (p : Program) (R : Room) (s : State) (m : MethodId) (args : Array Value) (meth : Method) (c : Code) (mc ms : Nat) : Prop :=
  p.tables.exec = Jvm.exec ∧ c.code = cc ∧ meth.sig.returnType = ret ∧ c.maxLocals = nL ∧ s.vm.findClass own = some m.cls ∧ (∀ w ∈ wG, w.before args s = true) ∧ meth.locks = false ∧ va_K G.1 vwCl (gT G) s ∧ va_D (gA G) (gW G (fun _ _ => 0)) ∧ gZ G s s.heap ∧ mc ≤ R.cells ∧ ms ≤ R.slots
def gV (p : Program) (l : Launch) (e : Env) (R : Room) (s : State) (m : MethodId) (args : Array Value) (below : List Frame) (meth : Method) (c : Code) (mc ms : Nat) (Q : State → Prop) (G : gG) (nL : Nat) (mem : gM) (pc : Nat) (L : List (Nat × Value)) (st : List Value) : Prop :=
  ∀ (H : Heap) (locs : List Loc) (ls : Array Slot), va_P G.1 vwCl (gW G mem) H → va_S (gA G) s.heap H locs → lv_has ls nL L → W p l e R s m args below meth c H locs mc ms Q (F0 m pc ls st)
theorem gC.w (C : gC G own cc ret nL p R s m args meth c mc ms) {w : Cond} (h : w ∈ wG) : w.before args s = true := C.2.2.2.2.2.1 w h
theorem gC.K (C : gC G own cc ret nL p R s m args meth c mc ms) : va_K G.1 vwCl (gT G) s := C.2.2.2.2.2.2.2.1
theorem gC.D (C : gC G own cc ret nL p R s m args meth c mc ms) : va_D (gA G) (gW G mem) := gD_any C.2.2.2.2.2.2.2.2.1
theorem gC.o (C : gC G own cc ret nL p R s m args meth c mc ms) : s.vm.findClass own = some m.cls := C.2.2.2.2.1
theorem gC.Z (C : gC G own cc ret nL p R s m args meth c mc ms) : gZ G s s.heap := C.2.2.2.2.2.2.2.2.2.1
theorem g_of {y : MethodName} {b : ByteArray} {maxL : Nat} {rm : Room} {As : List Value} {post : Option Value → gM → Prop} {L0 : List (Nat × Value)} (hy : plainName y.cls = true) (ho : y.cls = own) (hn : (lg_sl As).length ≤ maxL) (hL : lv_args 0 As = L0)
    (body : ∀ (p : Program) (e : Env) (s : State) (m : MethodId) (args : Array Value) (below : List Frame) (meth : Method) (c : Code), gC G own b ret maxL p rm s m args meth c 0 0 → ∀ Q : State → Prop, Q = MQ below (gQ G post) args s 0 0 (gA G) → gV p l e rm s m args below meth c 0 0 Q G maxL mem 0 L0 []) : gMet l y b maxL ret rm G As mem post := by
  refine Met.ofW (cc := b) (maxL := maxL) (ret := ret) hy rfl ?_
  intro p e s m args below meth c s₁ B hml hv
  obtain ⟨rfl, hP, hK, hD, hZ⟩ := hv
  have hts := atoms_spec (ws := Cond.code y b maxL ret :: wG) B.pre
  have hown : s.vm.findClass own = some m.cls := ho ▸ findClass_of_methodNamed B.named
  have hl := lv_entry As (n := maxL) hn
  rw [hL] at hl
  rw [lg_entry_eq]
  exact body p e s m _ below meth c ⟨B.exec, B.bytes, B.returns, hml, hown, fun w hw => hts w (List.mem_cons_of_mem _ hw), B.notSynchronized, hK, gD_any hD, hZ, Nat.zero_le _, Nat.zero_le _⟩ _ rfl _ _ _ hP va_S.rf hl
theorem g_loc {L2 : List (Nat × Value)} (ks : List Nat) (hL : lv_pick L ks = L2) (h : gV p l e R s m args below meth c mc ms Q G nL mem pc L2 st) : gV p l e R s m args below meth c mc ms Q G nL mem pc L st :=
  fun H locs ls hP hS hl => h H locs ls hP hS (lv_sub hl ks hL)
theorem g_eq {mem2 : gM} {L2 : List (Nat × Value)} {st2 : List Value} (h : gV p l e R s m args below meth c mc ms Q G nL mem2 pc L2 st2) (e1 : mem = mem2) (e2 : L = L2) (e3 : st = st2) : gV p l e R s m args below meth c mc ms Q G nL mem pc L st := by
  rw [e1, e2, e3]; exact h
theorem gB_end (C : gC G own cc ret nL p R s m args meth c mc ms) {H : Heap} {locs : List Loc} {t : State} (hP : va_P G.1 vwCl (gW G mem) H) (hS : va_S (gA G) s.heap H locs) (ht : t.heap = H) (hW : s.WarmedH t.vm) : gB G mem t :=
  ⟨by rw [ht]; exact hP, va_K.moved hW.alike C.K, C.D, gZ.kept (gZ.moved hW.alike C.Z) (fun a h1 h2 => by rw [ht]; exact hS.2.1 a h1 h2)⟩
/-! ends -/
theorem g_iret (C : gC G own cc ret nL p R s m args meth c mc ms) {post : Option Value → gM → Prop} (hQ : Q = MQ below (gQ G post) args s mc ms (gA G)) {v : Int32} (hr : ret = some .int) (hd : decode cc pc = .ok (.ireturn, 1)) (hp : post (some (.int v)) mem) : gV p l e R s m args below meth c mc ms Q G nL mem pc L [.int v] := by
  subst hQ
  exact fun _ _ _ hP hS _ => W.iret C.1 C.2.1 (C.2.2.1.trans hr) (fun _ ht hW => ⟨⟨_, mem, rfl, hp, gB_end C hP hS ht hW⟩, hS.F ht⟩) hS.2.2 hd C.2.2.2.2.2.2.1
theorem g_zret (C : gC G own cc ret nL p R s m args meth c mc ms) {post : Option Value → gM → Prop} (hQ : Q = MQ below (gQ G post) args s mc ms (gA G)) {v : Int32} (hr : ret = some .boolean) (hn : v = 0 ∨ v = 1) (hd : decode cc pc = .ok (.ireturn, 1)) (hp : post (some (.int v)) mem) : gV p l e R s m args below meth c mc ms Q G nL mem pc L [.int v] := by
  subst hQ
  exact fun _ _ _ hP hS _ => W.zret (ty := .boolean) C.1 C.2.1 (C.2.2.1.trans hr) (by rcases hn with rfl | rfl <;> decide) (fun _ ht hW => ⟨⟨_, mem, rfl, hp, gB_end C hP hS ht hW⟩, hS.F ht⟩) hS.2.2 hd C.2.2.2.2.2.2.1
theorem g_vret (C : gC G own cc ret nL p R s m args meth c mc ms) {post : Option Value → gM → Prop} (hQ : Q = MQ below (gQ G post) args s mc ms (gA G)) (hr : ret = none) (hd : decode cc pc = .ok (.return_, 1)) (hp : post none mem) : gV p l e R s m args below meth c mc ms Q G nL mem pc L [] := by
  subst hQ
  exact fun _ _ _ hP hS _ => W.vret C.1 C.2.1 (C.2.2.1.trans hr) (fun _ ht hW => ⟨⟨_, mem, rfl, hp, gB_end C hP hS ht hW⟩, hS.F ht⟩) hS.2.2 hd C.2.2.2.2.2.2.1
theorem g_lret (C : gC G own cc ret nL p R s m args meth c mc ms) {post : Option Value → gM → Prop} (hQ : Q = MQ below (gQ G post) args s mc ms (gA G)) {v : Int64} (hr : ret = some .long) (hd : decode cc pc = .ok (.lreturn, 1)) (hp : post (some (.long v)) mem) : gV p l e R s m args below meth c mc ms Q G nL mem pc L [.long v] := by
  subst hQ
  exact fun _ _ _ hP hS _ => W.lret C.1 C.2.1 (C.2.2.1.trans hr) (fun _ ht hW => ⟨⟨_, mem, rfl, hp, gB_end C hP hS ht hW⟩, hS.F ht⟩) hS.2.2 hd C.2.2.2.2.2.2.1
theorem g_aret (C : gC G own cc ret nL p R s m args meth c mc ms) {post : Option Value → gM → Prop} (hQ : Q = MQ below (gQ G post) args s mc ms (gA G)) {v : Value} {n : String} (hr : ret = some (.object n)) (hv : v = .null ∨ ∃ a, v = .ref a) (hd : decode cc pc = .ok (.areturn, 1)) (hp : post (some v) mem) : gV p l e R s m args below meth c mc ms Q G nL mem pc L [v] := by
  subst hQ
  exact fun _ _ _ hP hS _ => W.aret C.1 C.2.1 (C.2.2.1.trans hr) (Or.inl ⟨n, rfl⟩) hv (fun _ ht hW => ⟨⟨_, mem, rfl, hp, gB_end C hP hS ht hW⟩, hS.F ht⟩) hS.2.2 hd C.2.2.2.2.2.2.1
/-! fields and rows -/
theorem g_get_i (C : gC G own cc ret nL p R s m args meth c mc ms) {k ci N idx : Nat} {Cn : String} {T : u_T} {fl : List (Option Nat)} (O : gO k ci Cn T N fl) (j : Nat) (hj : j < N) (hf : fl[j]? = some none) (hw : Cond.fieldLink own idx (T j).1 (T j).2.1 (T j).2.2.1 ∈ wG) (hd : decode cc pc = .ok (.getfield idx, 3)) (h : gV p l e R s m args below meth c mc ms Q G nL mem (pc + 3) L (.int (mem k j) :: st)) : gV p l e R s m args below meth c mc ms Q G nL mem pc L (.ref (gad G k) :: st) :=
  fun H locs ls hP hS hl => va_get (ws := gW G mem) C.1 C.2.1 C.2.2.2.2.2.1 O.2.2.1 C.o C.K hP k (gW_get O.1) O.2.1 j hj (C.w hw) (fun _ q => q) (by have := gFs_i (ad := gad G) (f := mem k) (i := 0) hf; simpa using this) hd (h H locs ls hP hS hl)
theorem g_get_r (C : gC G own cc ret nL p R s m args meth c mc ms) {k ci N idx q : Nat} {Cn : String} {T : u_T} {fl : List (Option Nat)} (O : gO k ci Cn T N fl) (j : Nat) (hj : j < N) (hf : fl[j]? = some (some q)) (hw : Cond.fieldLink own idx (T j).1 (T j).2.1 (T j).2.2.1 ∈ wG) (hd : decode cc pc = .ok (.getfield idx, 3)) (h : gV p l e R s m args below meth c mc ms Q G nL mem (pc + 3) L (.ref (gad G q) :: st)) : gV p l e R s m args below meth c mc ms Q G nL mem pc L (.ref (gad G k) :: st) :=
  fun H locs ls hP hS hl => va_get (ws := gW G mem) C.1 C.2.1 C.2.2.2.2.2.1 O.2.2.1 C.o C.K hP k (gW_get O.1) O.2.1 j hj (C.w hw) (fun _ q => q) (gFs_r (ad := gad G) (f := mem k) (i := 0) hf) hd (h H locs ls hP hS hl)
theorem g_put_i (C : gC G own cc ret nL p R s m args meth c mc ms) {k ci N idx : Nat} {Cn : String} {T : u_T} {fl : List (Option Nat)} {v : Int32} (O : gO k ci Cn T N fl) (j : Nat) (hj : j < N) (hf : fl[j]? = some none) (hw : Cond.fieldLink own idx (T j).1 (T j).2.1 (T j).2.2.1 ∈ wG) (hfin : (T j).2.2.2 = false) (hty : parseFieldDescriptor (T j).2.2.1 = some .int) (hd : decode cc pc = .ok (.putfield idx, 3)) (h : gV p l e R s m args below meth c mc ms Q G nL (gr mem k (upd (mem k) j v)) (pc + 3) L st) : gV p l e R s m args below meth c mc ms Q G nL mem pc L (.int v :: .ref (gad G k) :: st) := by
  intro H locs ls hP hS hl
  obtain ⟨ty, hty2⟩ := O.2.2.2.1
  have hlt : j < (gFs (gad G) (mem k) 0 fl).length := by rw [gFs_len]; exact (List.getElem?_eq_some_iff.mp hf).1
  refine va_put (ws := gW G mem) C.1 C.2.1 C.2.2.2.2.2.1 O.2.2.1 ty hty2 O.2.2.2.2 C.o C.K hP C.D hS k (gW_get O.1) O.2.1 j hj (C.w hw) (fun _ q => q) hfin hty rfl rfl hlt hd fun H1 locs1 hP1 _ hS1 => ?_
  have e := gFs_set (ad := gad G) (f := mem k) (v := v) (i := 0) hf
  rw [Nat.zero_add] at e
  rw [e] at hP1
  exact h H1 locs1 ls (by rw [← gW_set (f := upd (mem k) j v) O.1]; exact hP1) hS1 hl
theorem g_iald (C : gC G own cc ret nL p R s m args meth c mc ms) {k n : Nat} {i : Int32} (hk : gAr k n) (hin : vp_in i n) (hd : decode cc pc = .ok (.iaload, 1)) (h : gV p l e R s m args below meth c mc ms Q G nL mem (pc + 1) L (.int (mem k i.toNatClampNeg) :: st)) : gV p l e R s m args below meth c mc ms Q G nL mem pc L (.int i :: .ref (gad G k) :: st) :=
  fun H locs ls hP hS hl => va_iald (ws := gW G mem) (tys := gT G) C.1 C.2.1 C.K hP k 0 (gW_get hk) rfl hin hd (h H locs ls hP hS hl)
theorem g_iast (C : gC G own cc ret nL p R s m args meth c mc ms) {k n : Nat} {i v : Int32} (hk : gAr k n) (hin : vp_in i n) (hd : decode cc pc = .ok (.iastore, 1)) (h : gV p l e R s m args below meth c mc ms Q G nL (gr mem k (upd (mem k) i.toNatClampNeg v)) (pc + 1) L st) : gV p l e R s m args below meth c mc ms Q G nL mem pc L (.int v :: .int i :: .ref (gad G k) :: st) :=
  fun _ _ ls hP hS hl => va_iast (ws := gW G mem) (tys := gT G) C.1 C.2.1 C.K hP C.D hS k 0 (gW_get hk) rfl hin hd fun H1 locs1 hP1 _ hS1 => h H1 locs1 ls (by rw [← gW_set (f := upd (mem k) i.toNatClampNeg v) hk]; exact hP1) hS1 hl
theorem g_alen (C : gC G own cc ret nL p R s m args meth c mc ms) {k n : Nat} (hk : gAr k n) (hd : decode cc pc = .ok (.arraylength, 1)) (h : gV p l e R s m args below meth c mc ms Q G nL mem (pc + 1) L (.int (nI n) :: st)) : gV p l e R s m args below meth c mc ms Q G nL mem pc L (.ref (gad G k) :: st) :=
  fun H locs ls hP hS hl => va_alen (ws := gW G mem) (tys := gT G) C.1 C.2.1 C.K hP k 0 (gW_get hk) rfl rfl hd (h H locs ls hP hS hl)
theorem g_salen (C : gC G own cc ret nL p R s m args meth c mc ms) {k : Nat} {ps : List Nat} (hk : gsh[k]? = some (.inr (.inr ps))) (hd : decode cc pc = .ok (.arraylength, 1)) (h : gV p l e R s m args below meth c mc ms Q G nL mem (pc + 1) L (.int (nI ps.length) :: st)) : gV p l e R s m args below meth c mc ms Q G nL mem pc L (.ref (gad G k) :: st) :=
  fun H locs ls hP hS hl => va_alen (ws := gW G mem) (tys := gT G) C.1 C.2.1 C.K hP k 1 (gW_get hk) rfl rfl hd (h H locs ls hP hS hl)
theorem g_saald (C : gC G own cc ret nL p R s m args meth c mc ms) {k q : Nat} {ps : List Nat} {i : Int32} (hk : gsh[k]? = some (.inr (.inr ps))) (hin : vp_in i ps.length) (hq : ps[i.toNatClampNeg]? = some q) (hd : decode cc pc = .ok (.aaload, 1)) (h : gV p l e R s m args below meth c mc ms Q G nL mem (pc + 1) L (.ref (gad G q) :: st)) : gV p l e R s m args below meth c mc ms Q G nL mem pc L (.int i :: .ref (gad G k) :: st) :=
  fun H locs ls hP hS hl => va_aldq (ws := gW G mem) (tys := gT G) C.1 C.2.1 C.K hP k 1 (gW_get hk) rfl hin hd (by
    have e : va_rf ((ps[i.toNatClampNeg]?).map (gad G)) = .ref (gad G q) := by rw [hq]; rfl
    rw [e]
    exact h H locs ls hP hS hl)
theorem g_gets (C : gC G own cc ret nL p R s m args meth c mc ms) {n : String} {t N idx : Nat} {f : Nat → Int32} (hz : gZ1 n t N f (gA G) s s.heap) (hw : Cond.fieldLink own idx RX9 n "[I" ∈ wG) (hd : decode cc pc = .ok (.getstatic idx, 3)) (h : gV p l e R s m args below meth c mc ms Q G nL mem (pc + 3) L (.ref t :: st)) : gV p l e R s m args below meth c mc ms Q G nL mem pc L st :=
  fun H locs ls hP hS hl => va_gets C.1 C.2.1 hz.1 hS C.o (C.w hw) (fun _ q => q) hd (h H locs ls hP hS hl)
theorem g_tld (C : gC G own cc ret nL p R s m args meth c mc ms) {n : String} {t N : Nat} {f : Nat → Int32} {i : Int32} (hz : gZ1 n t N f (gA G) s s.heap) (hin : vp_in i N) (hd : decode cc pc = .ok (.iaload, 1)) (h : gV p l e R s m args below meth c mc ms Q G nL mem (pc + 1) L (.int (f i.toNatClampNeg) :: st)) : gV p l e R s m args below meth c mc ms Q G nL mem pc L (.int i :: .ref t :: st) :=
  fun H locs ls hP hS hl => va_ti C.1 C.2.1 hz.2 hS hin rfl hd (h H locs ls hP hS hl)
theorem g_tlen (C : gC G own cc ret nL p R s m args meth c mc ms) {n : String} {t N : Nat} {f : Nat → Int32} (hz : gZ1 n t N f (gA G) s s.heap) (hd : decode cc pc = .ok (.arraylength, 1)) (h : gV p l e R s m args below meth c mc ms Q G nL mem (pc + 1) L (.int (nI N) :: st)) : gV p l e R s m args below meth c mc ms Q G nL mem pc L (.ref t :: st) :=
  fun H locs ls hP hS hl => va_tlen C.1 C.2.1 hz.2 hS rfl hd (h H locs ls hP hS hl)
theorem g_copy (C : gC G own cc ret nL p R s m args meth c mc ms) {k k2 n n2 N idx : Nat} (hw : Cond.methodLink own idx arraycopyName ∈ wG) (hw2 : Cond.native arraycopyName ∈ wG) (hw3 : Cond.static arraycopyName ∈ wG) (hw4 : Cond.initialized "java/lang/System" ∈ wG) (hk : gAr k n) (hk2 : gAr k2 n2) (h1 : N ≤ n) (h2 : N ≤ n2) (h3 : N < 2 ^ 31) (hf : 1 ≤ R.frames) (hlo : (st.map fun v => v.category).sum + (nativeFrameWords "java/lang/System" "arraycopy" 5 + 11) ≤ R.locals) (hd : decode cc pc = .ok (.invokestatic idx, 3))
    (h : gV p l e R s m args below meth c mc ms Q G nL (gr mem k2 (va_cpy (mem k) (mem k2) 0 0 N)) (pc + 3) L st) : gV p l e R s m args below meth c mc ms Q G nL mem pc L (.int (nI N) :: .int 0 :: .ref (gad G k2) :: .int 0 :: .ref (gad G k) :: st) := by
  intro H locs ls hP hS hl
  have hc : (nI N).toNatClampNeg = N := nI_clamp h3
  have hc0 : (0 : Int32).toNatClampNeg = 0 := rfl
  refine va_copyi (ws := gW G mem) (tys := gT G) C.1 C.2.1 (C.2.2.2.1.trans hl.1.symm) C.o (C.w hw) (C.w hw2) (C.w hw3) (C.w hw4) C.K hP C.D hS k k2 0 0 (gW_get hk) (gW_get hk2) rfl rfl rfl (by decide) (by decide) (nI_pos h3) (by rw [hc, hc0]; omega) (by rw [hc, hc0]; omega) (fun _ _ => rfl) hf hlo hd fun H1 locs1 hP1 _ hS1 => ?_
  rw [hc, hc0] at hP1
  exact h H1 locs1 ls (by rw [← gW_set (f := va_cpy (mem k) (mem k2) 0 0 N) hk2]; exact hP1) hS1 hl
/-! calls -/
theorem g_run {g : JFrame} {rest : List Value} {post : Option Value → gM → Prop} {a : Array Value} {H : Heap} {locs : List Loc} {ls : Array Slot} (hr : va_Run p l e R s m args below meth c H locs mc ms 0 0 (F0 m pc ls st) rest (gQ G post a) (gA G)) (hS : va_S (gA G) s.heap H locs) (hl : lv_has ls nL L)
    (kk : ∀ (v : Option Value) (u : gM), post v u → gV p l e R s m args below meth c mc ms Q G nL u (pc + 3) L (v.toList ++ rest)) : W p l e R s m args below meth c H locs mc ms Q (F0 m pc ls st) := by
  intro T hT X
  obtain ⟨v, st₀, t, T', L2, h0, X', hL, e1, e2, ⟨⟨w, u, hv, hp, hb⟩, hz, hk⟩, stp⟩ := hr T hT X
  cases hv
  rw [h0] at hz hk
  obtain ⟨t2, a1, b1⟩ := kk v u hp T'.heap (locs ++ L2) ls (by rw [e1]; exact hb.1)
    ⟨Nat.le_trans hS.1 (by rw [e1]; exact hz), fun q h1 h2 => by rw [e1, hk q (Nat.lt_of_lt_of_le h1 hS.1) h2]; exact hS.2.1 q h1 h2, fun q hq => by
      rcases List.mem_append.mp hq with h | h
      · exact hS.2.2 q h
      · exact hL q h⟩ hl T' rfl X'
  exact ⟨t2, stp t2 a1, b1⟩
theorem gB_call (C : gC G own cc ret nL p R s m args meth c mc ms) {H : Heap} {locs : List Loc} (hP : va_P G.1 vwCl (gW G mem) H) (hS : va_S (gA G) s.heap H locs) (As : List Value) : ∀ U : State, U.heap = H → s.WarmedH U.vm → va_Pc As (gB G mem) As.toArray U :=
  fun _ hU hW => ⟨rfl, gB_end C hP hS hU hW⟩
theorem g_callV (C : gC G own cc ret nL p R s m args meth c mc ms) {y : MethodName} {b2 : ByteArray} {maxL2 n idx k ci N : Nat} {ret2 : Option FieldType} {rm2 : Room} {T : u_T} {fl : List (Option Nat)} {As rest : List Value} {post : Option Value → gM → Prop} (I : gIv y b2 maxL2 ret2 n) (hM : gMet l y b2 maxL2 ret2 rm2 G (.ref (gad G k) :: As) mem post) (hw : Cond.methodLink own idx y ∈ wG) (O : gO k ci y.cls T N fl) (hn : As.length = n) (hR : rm2.frames + 1 ≤ R.frames ∧ 8 + (maxL2 + 11) + rm2.locals ≤ R.locals) (hz : rm2.cells = 0 ∧ rm2.slots = 0) (hst : st = As.reverse ++ .ref (gad G k) :: rest) (hcat : (rest.map fun v => v.category).sum ≤ 8) (hd : decode cc pc = .ok (.invokevirtual idx, 3))
    (h : ∀ (v : Option Value) (u : gM), post v u → gV p l e R s m args below meth c mc ms Q G nL u (pc + 3) L (v.toList ++ rest)) : gV p l e R s m args below meth c mc ms Q G nL mem pc L st := by
  intro H locs ls hP hS hl
  have hts := C.2.2.2.2.2.1
  refine g_run (g := F0 m pc ls st) (va_runV (nL := nL) (own := own) (C := y.cls) (b := gad G k) (As := As) (rest := rest) ⟨C.1, C.2.1, C.2.2.2.1, C.o, hts⟩ hM ⟨callB_of n hts (gI_good I.1) rfl hz.1 hz.2 (C.w I.1.2.1) (C.w hw) I.1.2.2 hR, C.w I.2.1, C.w I.2.2⟩ ⟨gB_blind, va_recv C.K hP O.2.1 (gW_get O.1), gB_call C hP hS _⟩ rfl hn hl.1 hst (lv_room hcat) hd ⟨C.2.2.2.2.2.2.2.2.2.2.1, C.2.2.2.2.2.2.2.2.2.2.2⟩) hS hl h
theorem g_callS (C : gC G own cc ret nL p R s m args meth c mc ms) {y : MethodName} {b2 : ByteArray} {maxL2 n idx : Nat} {ret2 : Option FieldType} {rm2 : Room} {As rest : List Value} {post : Option Value → gM → Prop} (I : gIs y b2 maxL2 ret2 n) (hM : gMet l y b2 maxL2 ret2 rm2 G As mem post) (hw : Cond.methodLink own idx y ∈ wG) (hn : As.length = n) (hR : rm2.frames + 1 ≤ R.frames ∧ 8 + (maxL2 + 11) + rm2.locals ≤ R.locals) (hz : rm2.cells = 0 ∧ rm2.slots = 0) (hst : st = As.reverse ++ rest) (hcat : (rest.map fun v => v.category).sum ≤ 8) (hd : decode cc pc = .ok (.invokestatic idx, 3))
    (h : ∀ (v : Option Value) (u : gM), post v u → gV p l e R s m args below meth c mc ms Q G nL u (pc + 3) L (v.toList ++ rest)) : gV p l e R s m args below meth c mc ms Q G nL mem pc L st := by
  intro H locs ls hP hS hl
  have hts := C.2.2.2.2.2.1
  refine g_run (g := F0 m pc ls st) (va_runS (nL := nL) (own := own) (As := As) (rest := rest) ⟨C.1, C.2.1, C.2.2.2.1, C.o, hts⟩ hM ⟨callB_of n hts (gI_good I.1) rfl hz.1 hz.2 (C.w I.1.2.1) (C.w hw) I.1.2.2 hR, C.w I.2⟩ ⟨gB_blind, gB_call C hP hS _⟩ rfl hn hl.1 hst (lv_room hcat) hd ⟨C.2.2.2.2.2.2.2.2.2.2.1, C.2.2.2.2.2.2.2.2.2.2.2⟩) hS hl h
-- ROWS BY PROGRAM
theorem g_iload_n (C : gC G own cc ret nL p R s m args meth c mc ms) {k : Fin 4} {x : Int32} (q : Nat) (hd : decode cc pc = .ok (.iload_n k, 1)) (hq : L[q]? = some ((k : Nat), .int x)) (h : gV p l e R s m args below meth c mc ms Q G nL mem (pc + 1) L (.int x :: st)) : gV p l e R s m args below meth c mc ms Q G nL mem pc L st := fun H locs ls hP hS hl => lv_iload_n C.1 C.2.1 hd rfl (lv_at hl q hq) (h H locs ls hP hS hl)
theorem g_iload (C : gC G own cc ret nL p R s m args meth c mc ms) {i : Nat} {x : Int32} (q : Nat) (hd : decode cc pc = .ok (.iload i, 2)) (hq : L[q]? = some (i, .int x)) (h : gV p l e R s m args below meth c mc ms Q G nL mem (pc + 2) L (.int x :: st)) : gV p l e R s m args below meth c mc ms Q G nL mem pc L st := fun H locs ls hP hS hl => lv_iload C.1 C.2.1 hd (lv_at hl q hq) (h H locs ls hP hS hl)
theorem g_aload_n (C : gC G own cc ret nL p R s m args meth c mc ms) {k : Fin 4} {x : Nat} (q : Nat) (hd : decode cc pc = .ok (.aload_n k, 1)) (hq : L[q]? = some ((k : Nat), .ref x)) (h : gV p l e R s m args below meth c mc ms Q G nL mem (pc + 1) L (.ref x :: st)) : gV p l e R s m args below meth c mc ms Q G nL mem pc L st := fun H locs ls hP hS hl => lv_aload_n C.1 C.2.1 hd rfl (lv_at hl q hq) (h H locs ls hP hS hl)
theorem g_aload (C : gC G own cc ret nL p R s m args meth c mc ms) {i : Nat} {x : Nat} (q : Nat) (hd : decode cc pc = .ok (.aload i, 2)) (hq : L[q]? = some (i, .ref x)) (h : gV p l e R s m args below meth c mc ms Q G nL mem (pc + 2) L (.ref x :: st)) : gV p l e R s m args below meth c mc ms Q G nL mem pc L st := fun H locs ls hP hS hl => lv_aload C.1 C.2.1 hd (lv_at hl q hq) (h H locs ls hP hS hl)
theorem g_lload_n (C : gC G own cc ret nL p R s m args meth c mc ms) {k : Fin 4} {x : Int64} (q : Nat) (hd : decode cc pc = .ok (.lload_n k, 1)) (hq : L[q]? = some ((k : Nat), .long x)) (h : gV p l e R s m args below meth c mc ms Q G nL mem (pc + 1) L (.long x :: st)) : gV p l e R s m args below meth c mc ms Q G nL mem pc L st := fun H locs ls hP hS hl => lv_lload_n C.1 C.2.1 hd rfl (lv_at hl q hq) (h H locs ls hP hS hl)
theorem g_lload (C : gC G own cc ret nL p R s m args meth c mc ms) {i : Nat} {x : Int64} (q : Nat) (hd : decode cc pc = .ok (.lload i, 2)) (hq : L[q]? = some (i, .long x)) (h : gV p l e R s m args below meth c mc ms Q G nL mem (pc + 2) L (.long x :: st)) : gV p l e R s m args below meth c mc ms Q G nL mem pc L st := fun H locs ls hP hS hl => lv_lload C.1 C.2.1 hd (lv_at hl q hq) (h H locs ls hP hS hl)
theorem g_dload_n (C : gC G own cc ret nL p R s m args meth c mc ms) {k : Fin 4} {x : UInt64} (q : Nat) (hd : decode cc pc = .ok (.dload_n k, 1)) (hq : L[q]? = some ((k : Nat), .double x)) (h : gV p l e R s m args below meth c mc ms Q G nL mem (pc + 1) L (.double x :: st)) : gV p l e R s m args below meth c mc ms Q G nL mem pc L st := fun H locs ls hP hS hl => lv_dload_n C.1 C.2.1 hd rfl (lv_at hl q hq) (h H locs ls hP hS hl)
theorem g_dload (C : gC G own cc ret nL p R s m args meth c mc ms) {i : Nat} {x : UInt64} (q : Nat) (hd : decode cc pc = .ok (.dload i, 2)) (hq : L[q]? = some (i, .double x)) (h : gV p l e R s m args below meth c mc ms Q G nL mem (pc + 2) L (.double x :: st)) : gV p l e R s m args below meth c mc ms Q G nL mem pc L st := fun H locs ls hP hS hl => lv_dload C.1 C.2.1 hd (lv_at hl q hq) (h H locs ls hP hS hl)
theorem g_fload_n (C : gC G own cc ret nL p R s m args meth c mc ms) {k : Fin 4} {x : UInt32} (q : Nat) (hd : decode cc pc = .ok (.fload_n k, 1)) (hq : L[q]? = some ((k : Nat), .float x)) (h : gV p l e R s m args below meth c mc ms Q G nL mem (pc + 1) L (.float x :: st)) : gV p l e R s m args below meth c mc ms Q G nL mem pc L st := fun H locs ls hP hS hl => lv_fload_n C.1 C.2.1 hd rfl (lv_at hl q hq) (h H locs ls hP hS hl)
theorem g_fload (C : gC G own cc ret nL p R s m args meth c mc ms) {i : Nat} {x : UInt32} (q : Nat) (hd : decode cc pc = .ok (.fload i, 2)) (hq : L[q]? = some (i, .float x)) (h : gV p l e R s m args below meth c mc ms Q G nL mem (pc + 2) L (.float x :: st)) : gV p l e R s m args below meth c mc ms Q G nL mem pc L st := fun H locs ls hP hS hl => lv_fload C.1 C.2.1 hd (lv_at hl q hq) (h H locs ls hP hS hl)
theorem g_aload_nN (C : gC G own cc ret nL p R s m args meth c mc ms) {k : Fin 4} (q : Nat) (hd : decode cc pc = .ok (.aload_n k, 1)) (hq : L[q]? = some ((k : Nat), .null)) (h : gV p l e R s m args below meth c mc ms Q G nL mem (pc + 1) L (.null :: st)) : gV p l e R s m args below meth c mc ms Q G nL mem pc L st := fun H locs ls hP hS hl => lv_aload_nN C.1 C.2.1 hd rfl (lv_at hl q hq) (h H locs ls hP hS hl)
theorem g_istore_n (C : gC G own cc ret nL p R s m args meth c mc ms) {k : Fin 4} {x : Int32} {L2 : List (Nat × Value)} (hd : decode cc pc = .ok (.istore_n k, 1)) (hn : (k : Nat) < nL) (hL : ((k : Nat), Value.int x) :: L.filter (fun q => !(q.1 == (k : Nat)) && !(q.1 + 1 == (k : Nat) && q.2.category == 2)) = L2) (h : gV p l e R s m args below meth c mc ms Q G nL mem (pc + 1) L2 st) : gV p l e R s m args below meth c mc ms Q G nL mem pc L (.int x :: st) := fun H locs _ hP hS hl => lv_istore_n C.1 C.2.1 hd rfl hl hn hL fun ls2 hl2 => h H locs ls2 hP hS hl2
theorem g_istore (C : gC G own cc ret nL p R s m args meth c mc ms) {i : Nat} {x : Int32} {L2 : List (Nat × Value)} (hd : decode cc pc = .ok (.istore i, 2)) (hn : i < nL) (hL : (i, Value.int x) :: L.filter (fun q => !(q.1 == i) && !(q.1 + 1 == i && q.2.category == 2)) = L2) (h : gV p l e R s m args below meth c mc ms Q G nL mem (pc + 2) L2 st) : gV p l e R s m args below meth c mc ms Q G nL mem pc L (.int x :: st) := fun H locs _ hP hS hl => lv_istore C.1 C.2.1 hd hl hn hL fun ls2 hl2 => h H locs ls2 hP hS hl2
theorem g_astore_n (C : gC G own cc ret nL p R s m args meth c mc ms) {k : Fin 4} {x : Nat} {L2 : List (Nat × Value)} (hd : decode cc pc = .ok (.astore_n k, 1)) (hn : (k : Nat) < nL) (hL : ((k : Nat), Value.ref x) :: L.filter (fun q => !(q.1 == (k : Nat)) && !(q.1 + 1 == (k : Nat) && q.2.category == 2)) = L2) (h : gV p l e R s m args below meth c mc ms Q G nL mem (pc + 1) L2 st) : gV p l e R s m args below meth c mc ms Q G nL mem pc L (.ref x :: st) := fun H locs _ hP hS hl => lv_astore_n C.1 C.2.1 hd rfl hl hn hL fun ls2 hl2 => h H locs ls2 hP hS hl2
theorem g_astore (C : gC G own cc ret nL p R s m args meth c mc ms) {i : Nat} {x : Nat} {L2 : List (Nat × Value)} (hd : decode cc pc = .ok (.astore i, 2)) (hn : i < nL) (hL : (i, Value.ref x) :: L.filter (fun q => !(q.1 == i) && !(q.1 + 1 == i && q.2.category == 2)) = L2) (h : gV p l e R s m args below meth c mc ms Q G nL mem (pc + 2) L2 st) : gV p l e R s m args below meth c mc ms Q G nL mem pc L (.ref x :: st) := fun H locs _ hP hS hl => lv_astore C.1 C.2.1 hd hl hn hL fun ls2 hl2 => h H locs ls2 hP hS hl2
theorem g_fstore_n (C : gC G own cc ret nL p R s m args meth c mc ms) {k : Fin 4} {x : UInt32} {L2 : List (Nat × Value)} (hd : decode cc pc = .ok (.fstore_n k, 1)) (hn : (k : Nat) < nL) (hL : ((k : Nat), Value.float x) :: L.filter (fun q => !(q.1 == (k : Nat)) && !(q.1 + 1 == (k : Nat) && q.2.category == 2)) = L2) (h : gV p l e R s m args below meth c mc ms Q G nL mem (pc + 1) L2 st) : gV p l e R s m args below meth c mc ms Q G nL mem pc L (.float x :: st) := fun H locs _ hP hS hl => lv_fstore_n C.1 C.2.1 hd rfl hl hn hL fun ls2 hl2 => h H locs ls2 hP hS hl2
theorem g_fstore (C : gC G own cc ret nL p R s m args meth c mc ms) {i : Nat} {x : UInt32} {L2 : List (Nat × Value)} (hd : decode cc pc = .ok (.fstore i, 2)) (hn : i < nL) (hL : (i, Value.float x) :: L.filter (fun q => !(q.1 == i) && !(q.1 + 1 == i && q.2.category == 2)) = L2) (h : gV p l e R s m args below meth c mc ms Q G nL mem (pc + 2) L2 st) : gV p l e R s m args below meth c mc ms Q G nL mem pc L (.float x :: st) := fun H locs _ hP hS hl => lv_fstore C.1 C.2.1 hd hl hn hL fun ls2 hl2 => h H locs ls2 hP hS hl2
theorem g_lstore_n (C : gC G own cc ret nL p R s m args meth c mc ms) {k : Fin 4} {x : Int64} {L2 : List (Nat × Value)} (hd : decode cc pc = .ok (.lstore_n k, 1)) (hn : (k : Nat) + 1 < nL) (hL : ((k : Nat), Value.long x) :: L.filter (fun q => !(q.1 == (k : Nat)) && (!(q.1 == (k : Nat) + 1) && !(q.1 + 1 == (k : Nat) && q.2.category == 2))) = L2) (h : gV p l e R s m args below meth c mc ms Q G nL mem (pc + 1) L2 st) : gV p l e R s m args below meth c mc ms Q G nL mem pc L (.long x :: st) := fun H locs _ hP hS hl => lv_lstore_n C.1 C.2.1 hd rfl hl hn hL fun ls2 hl2 => h H locs ls2 hP hS hl2
theorem g_lstore (C : gC G own cc ret nL p R s m args meth c mc ms) {i : Nat} {x : Int64} {L2 : List (Nat × Value)} (hd : decode cc pc = .ok (.lstore i, 2)) (hn : i + 1 < nL) (hL : (i, Value.long x) :: L.filter (fun q => !(q.1 == i) && (!(q.1 == i + 1) && !(q.1 + 1 == i && q.2.category == 2))) = L2) (h : gV p l e R s m args below meth c mc ms Q G nL mem (pc + 2) L2 st) : gV p l e R s m args below meth c mc ms Q G nL mem pc L (.long x :: st) := fun H locs _ hP hS hl => lv_lstore C.1 C.2.1 hd hl hn hL fun ls2 hl2 => h H locs ls2 hP hS hl2
theorem g_dstore_n (C : gC G own cc ret nL p R s m args meth c mc ms) {k : Fin 4} {x : UInt64} {L2 : List (Nat × Value)} (hd : decode cc pc = .ok (.dstore_n k, 1)) (hn : (k : Nat) + 1 < nL) (hL : ((k : Nat), Value.double x) :: L.filter (fun q => !(q.1 == (k : Nat)) && (!(q.1 == (k : Nat) + 1) && !(q.1 + 1 == (k : Nat) && q.2.category == 2))) = L2) (h : gV p l e R s m args below meth c mc ms Q G nL mem (pc + 1) L2 st) : gV p l e R s m args below meth c mc ms Q G nL mem pc L (.double x :: st) := fun H locs _ hP hS hl => lv_dstore_n C.1 C.2.1 hd rfl hl hn hL fun ls2 hl2 => h H locs ls2 hP hS hl2
theorem g_dstore (C : gC G own cc ret nL p R s m args meth c mc ms) {i : Nat} {x : UInt64} {L2 : List (Nat × Value)} (hd : decode cc pc = .ok (.dstore i, 2)) (hn : i + 1 < nL) (hL : (i, Value.double x) :: L.filter (fun q => !(q.1 == i) && (!(q.1 == i + 1) && !(q.1 + 1 == i && q.2.category == 2))) = L2) (h : gV p l e R s m args below meth c mc ms Q G nL mem (pc + 2) L2 st) : gV p l e R s m args below meth c mc ms Q G nL mem pc L (.double x :: st) := fun H locs _ hP hS hl => lv_dstore C.1 C.2.1 hd hl hn hL fun ls2 hl2 => h H locs ls2 hP hS hl2
theorem g_iinc (C : gC G own cc ret nL p R s m args meth c mc ms) {i : Nat} {n : Int} {x v : Int32} {L2 : List (Nat × Value)} (k : Nat) (hd : decode cc pc = .ok (.iinc i n, 3)) (hk : L[k]? = some (i, .int x)) (hv : x + Int32.ofInt n = v) (hn : i < nL) (hL : (i, Value.int v) :: L.filter (fun q => !(q.1 == i) && !(q.1 + 1 == i && q.2.category == 2)) = L2) (h : gV p l e R s m args below meth c mc ms Q G nL mem (pc + 3) L2 st) : gV p l e R s m args below meth c mc ms Q G nL mem pc L st := fun H locs _ hP hS hl => lv_iinc C.1 C.2.1 hd hl hk hv hn hL fun ls2 hl2 => h H locs ls2 hP hS hl2
theorem g_iconst (C : gC G own cc ret nL p R s m args meth c mc ms) {n : Int} (v : Int32) (hd : decode cc pc = .ok (.iconst n, 1)) (hv : Int32.ofInt n = v) (h : gV p l e R s m args below meth c mc ms Q G nL mem (pc + 1) L (.int v :: st)) : gV p l e R s m args below meth c mc ms Q G nL mem pc L st := fun H locs ls hP hS hl => lv_iconst C.1 C.2.1 hd hv (h H locs ls hP hS hl)
theorem g_bipush (C : gC G own cc ret nL p R s m args meth c mc ms) {n : Int} (v : Int32) (hd : decode cc pc = .ok (.bipush n, 2)) (hv : (Int8.ofInt n).toInt32 = v) (h : gV p l e R s m args below meth c mc ms Q G nL mem (pc + 2) L (.int v :: st)) : gV p l e R s m args below meth c mc ms Q G nL mem pc L st := fun H locs ls hP hS hl => lv_bipush C.1 C.2.1 hd hv (h H locs ls hP hS hl)
theorem g_sipush (C : gC G own cc ret nL p R s m args meth c mc ms) {n : Int} (v : Int32) (hd : decode cc pc = .ok (.sipush n, 3)) (hv : (Int16.ofInt n).toInt32 = v) (h : gV p l e R s m args below meth c mc ms Q G nL mem (pc + 3) L (.int v :: st)) : gV p l e R s m args below meth c mc ms Q G nL mem pc L st := fun H locs ls hP hS hl => lv_sipush C.1 C.2.1 hd hv (h H locs ls hP hS hl)
theorem g_lconst (C : gC G own cc ret nL p R s m args meth c mc ms) {n : Fin 2} (v : Int64) (hd : decode cc pc = .ok (.lconst n, 1)) (hv : Int64.ofNat (n : Nat) = v) (h : gV p l e R s m args below meth c mc ms Q G nL mem (pc + 1) L (.long v :: st)) : gV p l e R s m args below meth c mc ms Q G nL mem pc L st := fun H locs ls hP hS hl => lv_lconst C.1 C.2.1 hd hv (h H locs ls hP hS hl)
theorem g_null (C : gC G own cc ret nL p R s m args meth c mc ms) (hd : decode cc pc = .ok (.aconst_null, 1)) (h : gV p l e R s m args below meth c mc ms Q G nL mem (pc + 1) L (.null :: st)) : gV p l e R s m args below meth c mc ms Q G nL mem pc L st := fun H locs ls hP hS hl => lv_null C.1 C.2.1 hd (h H locs ls hP hS hl)
theorem g_fconst0 (C : gC G own cc ret nL p R s m args meth c mc ms) (hd : decode cc pc = .ok (.fconst 0, 1)) (h : gV p l e R s m args below meth c mc ms Q G nL mem (pc + 1) L (.float 0 :: st)) : gV p l e R s m args below meth c mc ms Q G nL mem pc L st := fun H locs ls hP hS hl => lv_fconst0 C.1 C.2.1 hd (h H locs ls hP hS hl)
theorem g_ldc (C : gC G own cc ret nL p R s m args meth c mc ms) {idx : Nat} {v : Int32} (hw : Cond.constant own idx v ∈ wG) (hd : decode cc pc = .ok (.ldc idx, 2)) (h : gV p l e R s m args below meth c mc ms Q G nL mem (pc + 2) L (.int v :: st)) : gV p l e R s m args below meth c mc ms Q G nL mem pc L st := fun H locs ls hP hS hl => lv_ldc C.1 C.2.1 C.o (C.w hw) hd (h H locs ls hP hS hl)
theorem g_ldcw (C : gC G own cc ret nL p R s m args meth c mc ms) {idx : Nat} {v : Int32} (hw : Cond.constant own idx v ∈ wG) (hd : decode cc pc = .ok (.ldc_w idx, 3)) (h : gV p l e R s m args below meth c mc ms Q G nL mem (pc + 3) L (.int v :: st)) : gV p l e R s m args below meth c mc ms Q G nL mem pc L st := fun H locs ls hP hS hl => lv_ldcw C.1 C.2.1 C.o (C.w hw) hd (h H locs ls hP hS hl)
theorem g_ldc2 (C : gC G own cc ret nL p R s m args meth c mc ms) {idx : Nat} {v : Int64} (hw : Cond.constantLong own idx v ∈ wG) (hd : decode cc pc = .ok (.ldc2_w idx, 3)) (h : gV p l e R s m args below meth c mc ms Q G nL mem (pc + 3) L (.long v :: st)) : gV p l e R s m args below meth c mc ms Q G nL mem pc L st := fun H locs ls hP hS hl => lv_ldc2 C.1 C.2.1 C.o (C.w hw) hd (h H locs ls hP hS hl)
theorem g_iadd (C : gC G own cc ret nL p R s m args meth c mc ms) {x y : Int32} (hd : decode cc pc = .ok (.iadd, 1)) (h : gV p l e R s m args below meth c mc ms Q G nL mem (pc + 1) L (.int (x + y) :: st)) : gV p l e R s m args below meth c mc ms Q G nL mem pc L (.int y :: .int x :: st) := fun H locs ls hP hS hl => lv_iadd C.1 C.2.1 hd (h H locs ls hP hS hl)
theorem g_isub (C : gC G own cc ret nL p R s m args meth c mc ms) {x y : Int32} (hd : decode cc pc = .ok (.isub, 1)) (h : gV p l e R s m args below meth c mc ms Q G nL mem (pc + 1) L (.int (x - y) :: st)) : gV p l e R s m args below meth c mc ms Q G nL mem pc L (.int y :: .int x :: st) := fun H locs ls hP hS hl => lv_isub C.1 C.2.1 hd (h H locs ls hP hS hl)
theorem g_imul (C : gC G own cc ret nL p R s m args meth c mc ms) {x y : Int32} (hd : decode cc pc = .ok (.imul, 1)) (h : gV p l e R s m args below meth c mc ms Q G nL mem (pc + 1) L (.int (x * y) :: st)) : gV p l e R s m args below meth c mc ms Q G nL mem pc L (.int y :: .int x :: st) := fun H locs ls hP hS hl => lv_imul C.1 C.2.1 hd (h H locs ls hP hS hl)
theorem g_iand (C : gC G own cc ret nL p R s m args meth c mc ms) {x y : Int32} (hd : decode cc pc = .ok (.iand, 1)) (h : gV p l e R s m args below meth c mc ms Q G nL mem (pc + 1) L (.int (x &&& y) :: st)) : gV p l e R s m args below meth c mc ms Q G nL mem pc L (.int y :: .int x :: st) := fun H locs ls hP hS hl => lv_iand C.1 C.2.1 hd (h H locs ls hP hS hl)
theorem g_ior (C : gC G own cc ret nL p R s m args meth c mc ms) {x y : Int32} (hd : decode cc pc = .ok (.ior, 1)) (h : gV p l e R s m args below meth c mc ms Q G nL mem (pc + 1) L (.int (x ||| y) :: st)) : gV p l e R s m args below meth c mc ms Q G nL mem pc L (.int y :: .int x :: st) := fun H locs ls hP hS hl => lv_ior C.1 C.2.1 hd (h H locs ls hP hS hl)
theorem g_ixor (C : gC G own cc ret nL p R s m args meth c mc ms) {x y : Int32} (hd : decode cc pc = .ok (.ixor, 1)) (h : gV p l e R s m args below meth c mc ms Q G nL mem (pc + 1) L (.int (x ^^^ y) :: st)) : gV p l e R s m args below meth c mc ms Q G nL mem pc L (.int y :: .int x :: st) := fun H locs ls hP hS hl => lv_ixor C.1 C.2.1 hd (h H locs ls hP hS hl)
theorem g_ishl (C : gC G own cc ret nL p R s m args meth c mc ms) {x y : Int32} (hd : decode cc pc = .ok (.ishl, 1)) (h : gV p l e R s m args below meth c mc ms Q G nL mem (pc + 1) L (.int (x <<< (y &&& 31)) :: st)) : gV p l e R s m args below meth c mc ms Q G nL mem pc L (.int y :: .int x :: st) := fun H locs ls hP hS hl => lv_ishl C.1 C.2.1 hd (h H locs ls hP hS hl)
theorem g_ishr (C : gC G own cc ret nL p R s m args meth c mc ms) {x y : Int32} (hd : decode cc pc = .ok (.ishr, 1)) (h : gV p l e R s m args below meth c mc ms Q G nL mem (pc + 1) L (.int (x >>> (y &&& 31)) :: st)) : gV p l e R s m args below meth c mc ms Q G nL mem pc L (.int y :: .int x :: st) := fun H locs ls hP hS hl => lv_ishr C.1 C.2.1 hd (h H locs ls hP hS hl)
theorem g_ladd (C : gC G own cc ret nL p R s m args meth c mc ms) {x y : Int64} (hd : decode cc pc = .ok (.ladd, 1)) (h : gV p l e R s m args below meth c mc ms Q G nL mem (pc + 1) L (.long (x + y) :: st)) : gV p l e R s m args below meth c mc ms Q G nL mem pc L (.long y :: .long x :: st) := fun H locs ls hP hS hl => lv_ladd C.1 C.2.1 hd (h H locs ls hP hS hl)
theorem g_lsub (C : gC G own cc ret nL p R s m args meth c mc ms) {x y : Int64} (hd : decode cc pc = .ok (.lsub, 1)) (h : gV p l e R s m args below meth c mc ms Q G nL mem (pc + 1) L (.long (x - y) :: st)) : gV p l e R s m args below meth c mc ms Q G nL mem pc L (.long y :: .long x :: st) := fun H locs ls hP hS hl => lv_lsub C.1 C.2.1 hd (h H locs ls hP hS hl)
theorem g_lmul (C : gC G own cc ret nL p R s m args meth c mc ms) {x y : Int64} (hd : decode cc pc = .ok (.lmul, 1)) (h : gV p l e R s m args below meth c mc ms Q G nL mem (pc + 1) L (.long (x * y) :: st)) : gV p l e R s m args below meth c mc ms Q G nL mem pc L (.long y :: .long x :: st) := fun H locs ls hP hS hl => lv_lmul C.1 C.2.1 hd (h H locs ls hP hS hl)
def g_ushr (x y : Int32) : Int32 := (x.toUInt32 >>> (y.toUInt32 &&& Int32.toUInt32 31)).toInt32
theorem g_iushr (C : gC G own cc ret nL p R s m args meth c mc ms) {x y : Int32} (hd : decode cc pc = .ok (.iushr, 1)) (h : gV p l e R s m args below meth c mc ms Q G nL mem (pc + 1) L (.int (g_ushr x y) :: st)) : gV p l e R s m args below meth c mc ms Q G nL mem pc L (.int y :: .int x :: st) := fun H locs ls hP hS hl => lv_iushr C.1 C.2.1 hd rfl (h H locs ls hP hS hl)
theorem g_idiv (C : gC G own cc ret nL p R s m args meth c mc ms) {x y : Int32} (hne : ¬ y = 0) (hd : decode cc pc = .ok (.idiv, 1)) (h : gV p l e R s m args below meth c mc ms Q G nL mem (pc + 1) L (.int (x / y) :: st)) : gV p l e R s m args below meth c mc ms Q G nL mem pc L (.int y :: .int x :: st) := fun H locs ls hP hS hl => lv_idiv C.1 C.2.1 hd hne (h H locs ls hP hS hl)
theorem g_irem (C : gC G own cc ret nL p R s m args meth c mc ms) {x y : Int32} (hne : ¬ y = 0) (hd : decode cc pc = .ok (.irem, 1)) (h : gV p l e R s m args below meth c mc ms Q G nL mem (pc + 1) L (.int (x - x / y * y) :: st)) : gV p l e R s m args below meth c mc ms Q G nL mem pc L (.int y :: .int x :: st) := fun H locs ls hP hS hl => lv_irem C.1 C.2.1 hd hne (h H locs ls hP hS hl)
theorem g_ineg (C : gC G own cc ret nL p R s m args meth c mc ms) {x : Int32} (hd : decode cc pc = .ok (.ineg, 1)) (h : gV p l e R s m args below meth c mc ms Q G nL mem (pc + 1) L (.int (-x) :: st)) : gV p l e R s m args below meth c mc ms Q G nL mem pc L (.int x :: st) := fun H locs ls hP hS hl => lv_ineg C.1 C.2.1 hd (h H locs ls hP hS hl)
theorem g_i2l (C : gC G own cc ret nL p R s m args meth c mc ms) {x : Int32} (hd : decode cc pc = .ok (.i2l, 1)) (h : gV p l e R s m args below meth c mc ms Q G nL mem (pc + 1) L (.long x.toInt64 :: st)) : gV p l e R s m args below meth c mc ms Q G nL mem pc L (.int x :: st) := fun H locs ls hP hS hl => lv_i2l C.1 C.2.1 hd rfl (h H locs ls hP hS hl)
theorem g_lcmp (C : gC G own cc ret nL p R s m args meth c mc ms) {x y : Int64} (hd : decode cc pc = .ok (.lcmp, 1)) (h : gV p l e R s m args below meth c mc ms Q G nL mem (pc + 1) L (.int (lg_cmp x y) :: st)) : gV p l e R s m args below meth c mc ms Q G nL mem pc L (.long y :: .long x :: st) := fun H locs ls hP hS hl => W.lcmp C.1 C.2.1 hd (h H locs ls hP hS hl)
theorem g_dup (C : gC G own cc ret nL p R s m args meth c mc ms) {va : Value} (hd : decode cc pc = .ok (.dup, 1)) (ha : va.category = 1) (h : gV p l e R s m args below meth c mc ms Q G nL mem (pc + 1) L (va :: va :: st)) : gV p l e R s m args below meth c mc ms Q G nL mem pc L (va :: st) := fun H locs ls hP hS hl => lv_dup C.1 C.2.1 hd ha (h H locs ls hP hS hl)
theorem g_pop (C : gC G own cc ret nL p R s m args meth c mc ms) {va : Value} (hd : decode cc pc = .ok (.pop, 1)) (ha : va.category = 1) (h : gV p l e R s m args below meth c mc ms Q G nL mem (pc + 1) L st) : gV p l e R s m args below meth c mc ms Q G nL mem pc L (va :: st) := fun H locs ls hP hS hl => lv_pop C.1 C.2.1 hd ha (h H locs ls hP hS hl)
theorem g_dup2 (C : gC G own cc ret nL p R s m args meth c mc ms) {va vb : Value} (hd : decode cc pc = .ok (.dup2, 1)) (ha : va.category = 1) (hb : vb.category = 1) (h : gV p l e R s m args below meth c mc ms Q G nL mem (pc + 1) L (va :: vb :: va :: vb :: st)) : gV p l e R s m args below meth c mc ms Q G nL mem pc L (va :: vb :: st) := fun H locs ls hP hS hl => lv_dup2_11 C.1 C.2.1 hd ha hb (h H locs ls hP hS hl)
theorem g_dup_x1 (C : gC G own cc ret nL p R s m args meth c mc ms) {va vb : Value} (hd : decode cc pc = .ok (.dup_x1, 1)) (ha : va.category = 1) (hb : vb.category = 1) (h : gV p l e R s m args below meth c mc ms Q G nL mem (pc + 1) L (va :: vb :: va :: st)) : gV p l e R s m args below meth c mc ms Q G nL mem pc L (va :: vb :: st) := fun H locs ls hP hS hl => lv_dup_x1 C.1 C.2.1 hd ha hb (h H locs ls hP hS hl)
theorem g_dup_x2 (C : gC G own cc ret nL p R s m args meth c mc ms) {va vb vd : Value} (hd : decode cc pc = .ok (.dup_x2, 1)) (ha : va.category = 1) (hb : vb.category = 1) (hv : vd.category = 1) (h : gV p l e R s m args below meth c mc ms Q G nL mem (pc + 1) L (va :: vb :: vd :: va :: st)) : gV p l e R s m args below meth c mc ms Q G nL mem pc L (va :: vb :: vd :: st) := fun H locs ls hP hS hl => lv_dup_x2 C.1 C.2.1 hd ha hb hv (h H locs ls hP hS hl)
theorem g_if_eq (C : gC G own cc ret nL p R s m args meth c mc ms) {x : Int32} {off : Int} (tgt : Nat) (hd : decode cc pc = .ok (.ifCond .eq off, 3)) (ht : (pc : Int) + off = (tgt : Int)) (kt : x = 0 → gV p l e R s m args below meth c mc ms Q G nL mem tgt L st) (kf : ¬ x = 0 → gV p l e R s m args below meth c mc ms Q G nL mem (pc + 3) L st) : gV p l e R s m args below meth c mc ms Q G nL mem pc L (.int x :: st) := fun H locs ls hP hS hl => lv_if_eq C.1 C.2.1 hd ht (fun q => kt q H locs ls hP hS hl) (fun q => kf q H locs ls hP hS hl)
theorem g_if_eq_t (C : gC G own cc ret nL p R s m args meth c mc ms) {x : Int32} {off : Int} (tgt : Nat) (hc : x = 0) (hd : decode cc pc = .ok (.ifCond .eq off, 3)) (ht : (pc : Int) + off = (tgt : Int)) (h : gV p l e R s m args below meth c mc ms Q G nL mem tgt L st) : gV p l e R s m args below meth c mc ms Q G nL mem pc L (.int x :: st) := g_if_eq C tgt hd ht (fun _ => h) (fun q => absurd hc q)
theorem g_if_eq_f (C : gC G own cc ret nL p R s m args meth c mc ms) {x : Int32} {off : Int} (tgt : Nat) (hc : ¬ x = 0) (hd : decode cc pc = .ok (.ifCond .eq off, 3)) (ht : (pc : Int) + off = (tgt : Int)) (h : gV p l e R s m args below meth c mc ms Q G nL mem (pc + 3) L st) : gV p l e R s m args below meth c mc ms Q G nL mem pc L (.int x :: st) := g_if_eq C tgt hd ht (fun q => absurd q hc) (fun _ => h)
theorem g_icmp_eq (C : gC G own cc ret nL p R s m args meth c mc ms) {x y : Int32} {off : Int} (tgt : Nat) (hd : decode cc pc = .ok (.if_icmp .eq off, 3)) (ht : (pc : Int) + off = (tgt : Int)) (kt : x = y → gV p l e R s m args below meth c mc ms Q G nL mem tgt L st) (kf : ¬ x = y → gV p l e R s m args below meth c mc ms Q G nL mem (pc + 3) L st) : gV p l e R s m args below meth c mc ms Q G nL mem pc L (.int y :: .int x :: st) := fun H locs ls hP hS hl => lv_icmp_eq C.1 C.2.1 hd ht (fun q => kt q H locs ls hP hS hl) (fun q => kf q H locs ls hP hS hl)
theorem g_icmp_eq_t (C : gC G own cc ret nL p R s m args meth c mc ms) {x y : Int32} {off : Int} (tgt : Nat) (hc : x = y) (hd : decode cc pc = .ok (.if_icmp .eq off, 3)) (ht : (pc : Int) + off = (tgt : Int)) (h : gV p l e R s m args below meth c mc ms Q G nL mem tgt L st) : gV p l e R s m args below meth c mc ms Q G nL mem pc L (.int y :: .int x :: st) := g_icmp_eq C tgt hd ht (fun _ => h) (fun q => absurd hc q)
theorem g_icmp_eq_f (C : gC G own cc ret nL p R s m args meth c mc ms) {x y : Int32} {off : Int} (tgt : Nat) (hc : ¬ x = y) (hd : decode cc pc = .ok (.if_icmp .eq off, 3)) (ht : (pc : Int) + off = (tgt : Int)) (h : gV p l e R s m args below meth c mc ms Q G nL mem (pc + 3) L st) : gV p l e R s m args below meth c mc ms Q G nL mem pc L (.int y :: .int x :: st) := g_icmp_eq C tgt hd ht (fun q => absurd q hc) (fun _ => h)
theorem g_if_ne (C : gC G own cc ret nL p R s m args meth c mc ms) {x : Int32} {off : Int} (tgt : Nat) (hd : decode cc pc = .ok (.ifCond .ne off, 3)) (ht : (pc : Int) + off = (tgt : Int)) (kt : ¬ x = 0 → gV p l e R s m args below meth c mc ms Q G nL mem tgt L st) (kf : x = 0 → gV p l e R s m args below meth c mc ms Q G nL mem (pc + 3) L st) : gV p l e R s m args below meth c mc ms Q G nL mem pc L (.int x :: st) := fun H locs ls hP hS hl => lv_if_ne C.1 C.2.1 hd ht (fun q => kt q H locs ls hP hS hl) (fun q => kf q H locs ls hP hS hl)
theorem g_if_ne_t (C : gC G own cc ret nL p R s m args meth c mc ms) {x : Int32} {off : Int} (tgt : Nat) (hc : ¬ x = 0) (hd : decode cc pc = .ok (.ifCond .ne off, 3)) (ht : (pc : Int) + off = (tgt : Int)) (h : gV p l e R s m args below meth c mc ms Q G nL mem tgt L st) : gV p l e R s m args below meth c mc ms Q G nL mem pc L (.int x :: st) := g_if_ne C tgt hd ht (fun _ => h) (fun q => absurd q hc)
theorem g_if_ne_f (C : gC G own cc ret nL p R s m args meth c mc ms) {x : Int32} {off : Int} (tgt : Nat) (hc : x = 0) (hd : decode cc pc = .ok (.ifCond .ne off, 3)) (ht : (pc : Int) + off = (tgt : Int)) (h : gV p l e R s m args below meth c mc ms Q G nL mem (pc + 3) L st) : gV p l e R s m args below meth c mc ms Q G nL mem pc L (.int x :: st) := g_if_ne C tgt hd ht (fun q => absurd hc q) (fun _ => h)
theorem g_icmp_ne (C : gC G own cc ret nL p R s m args meth c mc ms) {x y : Int32} {off : Int} (tgt : Nat) (hd : decode cc pc = .ok (.if_icmp .ne off, 3)) (ht : (pc : Int) + off = (tgt : Int)) (kt : ¬ x = y → gV p l e R s m args below meth c mc ms Q G nL mem tgt L st) (kf : x = y → gV p l e R s m args below meth c mc ms Q G nL mem (pc + 3) L st) : gV p l e R s m args below meth c mc ms Q G nL mem pc L (.int y :: .int x :: st) := fun H locs ls hP hS hl => lv_icmp_ne C.1 C.2.1 hd ht (fun q => kt q H locs ls hP hS hl) (fun q => kf q H locs ls hP hS hl)
theorem g_icmp_ne_t (C : gC G own cc ret nL p R s m args meth c mc ms) {x y : Int32} {off : Int} (tgt : Nat) (hc : ¬ x = y) (hd : decode cc pc = .ok (.if_icmp .ne off, 3)) (ht : (pc : Int) + off = (tgt : Int)) (h : gV p l e R s m args below meth c mc ms Q G nL mem tgt L st) : gV p l e R s m args below meth c mc ms Q G nL mem pc L (.int y :: .int x :: st) := g_icmp_ne C tgt hd ht (fun _ => h) (fun q => absurd q hc)
theorem g_icmp_ne_f (C : gC G own cc ret nL p R s m args meth c mc ms) {x y : Int32} {off : Int} (tgt : Nat) (hc : x = y) (hd : decode cc pc = .ok (.if_icmp .ne off, 3)) (ht : (pc : Int) + off = (tgt : Int)) (h : gV p l e R s m args below meth c mc ms Q G nL mem (pc + 3) L st) : gV p l e R s m args below meth c mc ms Q G nL mem pc L (.int y :: .int x :: st) := g_icmp_ne C tgt hd ht (fun q => absurd hc q) (fun _ => h)
theorem g_if_lt (C : gC G own cc ret nL p R s m args meth c mc ms) {x : Int32} {off : Int} (tgt : Nat) (hd : decode cc pc = .ok (.ifCond .lt off, 3)) (ht : (pc : Int) + off = (tgt : Int)) (kt : x < 0 → gV p l e R s m args below meth c mc ms Q G nL mem tgt L st) (kf : ¬ x < 0 → gV p l e R s m args below meth c mc ms Q G nL mem (pc + 3) L st) : gV p l e R s m args below meth c mc ms Q G nL mem pc L (.int x :: st) := fun H locs ls hP hS hl => lv_if_lt C.1 C.2.1 hd ht (fun q => kt q H locs ls hP hS hl) (fun q => kf q H locs ls hP hS hl)
theorem g_if_lt_t (C : gC G own cc ret nL p R s m args meth c mc ms) {x : Int32} {off : Int} (tgt : Nat) (hc : x < 0) (hd : decode cc pc = .ok (.ifCond .lt off, 3)) (ht : (pc : Int) + off = (tgt : Int)) (h : gV p l e R s m args below meth c mc ms Q G nL mem tgt L st) : gV p l e R s m args below meth c mc ms Q G nL mem pc L (.int x :: st) := g_if_lt C tgt hd ht (fun _ => h) (fun q => absurd hc q)
theorem g_if_lt_f (C : gC G own cc ret nL p R s m args meth c mc ms) {x : Int32} {off : Int} (tgt : Nat) (hc : ¬ x < 0) (hd : decode cc pc = .ok (.ifCond .lt off, 3)) (ht : (pc : Int) + off = (tgt : Int)) (h : gV p l e R s m args below meth c mc ms Q G nL mem (pc + 3) L st) : gV p l e R s m args below meth c mc ms Q G nL mem pc L (.int x :: st) := g_if_lt C tgt hd ht (fun q => absurd q hc) (fun _ => h)
theorem g_icmp_lt (C : gC G own cc ret nL p R s m args meth c mc ms) {x y : Int32} {off : Int} (tgt : Nat) (hd : decode cc pc = .ok (.if_icmp .lt off, 3)) (ht : (pc : Int) + off = (tgt : Int)) (kt : x < y → gV p l e R s m args below meth c mc ms Q G nL mem tgt L st) (kf : ¬ x < y → gV p l e R s m args below meth c mc ms Q G nL mem (pc + 3) L st) : gV p l e R s m args below meth c mc ms Q G nL mem pc L (.int y :: .int x :: st) := fun H locs ls hP hS hl => lv_icmp_lt C.1 C.2.1 hd ht (fun q => kt q H locs ls hP hS hl) (fun q => kf q H locs ls hP hS hl)
theorem g_icmp_lt_t (C : gC G own cc ret nL p R s m args meth c mc ms) {x y : Int32} {off : Int} (tgt : Nat) (hc : x < y) (hd : decode cc pc = .ok (.if_icmp .lt off, 3)) (ht : (pc : Int) + off = (tgt : Int)) (h : gV p l e R s m args below meth c mc ms Q G nL mem tgt L st) : gV p l e R s m args below meth c mc ms Q G nL mem pc L (.int y :: .int x :: st) := g_icmp_lt C tgt hd ht (fun _ => h) (fun q => absurd hc q)
theorem g_icmp_lt_f (C : gC G own cc ret nL p R s m args meth c mc ms) {x y : Int32} {off : Int} (tgt : Nat) (hc : ¬ x < y) (hd : decode cc pc = .ok (.if_icmp .lt off, 3)) (ht : (pc : Int) + off = (tgt : Int)) (h : gV p l e R s m args below meth c mc ms Q G nL mem (pc + 3) L st) : gV p l e R s m args below meth c mc ms Q G nL mem pc L (.int y :: .int x :: st) := g_icmp_lt C tgt hd ht (fun q => absurd q hc) (fun _ => h)
theorem g_if_ge (C : gC G own cc ret nL p R s m args meth c mc ms) {x : Int32} {off : Int} (tgt : Nat) (hd : decode cc pc = .ok (.ifCond .ge off, 3)) (ht : (pc : Int) + off = (tgt : Int)) (kt : 0 ≤ x → gV p l e R s m args below meth c mc ms Q G nL mem tgt L st) (kf : ¬ 0 ≤ x → gV p l e R s m args below meth c mc ms Q G nL mem (pc + 3) L st) : gV p l e R s m args below meth c mc ms Q G nL mem pc L (.int x :: st) := fun H locs ls hP hS hl => lv_if_ge C.1 C.2.1 hd ht (fun q => kt q H locs ls hP hS hl) (fun q => kf q H locs ls hP hS hl)
theorem g_if_ge_t (C : gC G own cc ret nL p R s m args meth c mc ms) {x : Int32} {off : Int} (tgt : Nat) (hc : 0 ≤ x) (hd : decode cc pc = .ok (.ifCond .ge off, 3)) (ht : (pc : Int) + off = (tgt : Int)) (h : gV p l e R s m args below meth c mc ms Q G nL mem tgt L st) : gV p l e R s m args below meth c mc ms Q G nL mem pc L (.int x :: st) := g_if_ge C tgt hd ht (fun _ => h) (fun q => absurd hc q)
theorem g_if_ge_f (C : gC G own cc ret nL p R s m args meth c mc ms) {x : Int32} {off : Int} (tgt : Nat) (hc : ¬ 0 ≤ x) (hd : decode cc pc = .ok (.ifCond .ge off, 3)) (ht : (pc : Int) + off = (tgt : Int)) (h : gV p l e R s m args below meth c mc ms Q G nL mem (pc + 3) L st) : gV p l e R s m args below meth c mc ms Q G nL mem pc L (.int x :: st) := g_if_ge C tgt hd ht (fun q => absurd q hc) (fun _ => h)
theorem g_icmp_ge (C : gC G own cc ret nL p R s m args meth c mc ms) {x y : Int32} {off : Int} (tgt : Nat) (hd : decode cc pc = .ok (.if_icmp .ge off, 3)) (ht : (pc : Int) + off = (tgt : Int)) (kt : y ≤ x → gV p l e R s m args below meth c mc ms Q G nL mem tgt L st) (kf : ¬ y ≤ x → gV p l e R s m args below meth c mc ms Q G nL mem (pc + 3) L st) : gV p l e R s m args below meth c mc ms Q G nL mem pc L (.int y :: .int x :: st) := fun H locs ls hP hS hl => lv_icmp_ge C.1 C.2.1 hd ht (fun q => kt q H locs ls hP hS hl) (fun q => kf q H locs ls hP hS hl)
theorem g_icmp_ge_t (C : gC G own cc ret nL p R s m args meth c mc ms) {x y : Int32} {off : Int} (tgt : Nat) (hc : y ≤ x) (hd : decode cc pc = .ok (.if_icmp .ge off, 3)) (ht : (pc : Int) + off = (tgt : Int)) (h : gV p l e R s m args below meth c mc ms Q G nL mem tgt L st) : gV p l e R s m args below meth c mc ms Q G nL mem pc L (.int y :: .int x :: st) := g_icmp_ge C tgt hd ht (fun _ => h) (fun q => absurd hc q)
theorem g_icmp_ge_f (C : gC G own cc ret nL p R s m args meth c mc ms) {x y : Int32} {off : Int} (tgt : Nat) (hc : ¬ y ≤ x) (hd : decode cc pc = .ok (.if_icmp .ge off, 3)) (ht : (pc : Int) + off = (tgt : Int)) (h : gV p l e R s m args below meth c mc ms Q G nL mem (pc + 3) L st) : gV p l e R s m args below meth c mc ms Q G nL mem pc L (.int y :: .int x :: st) := g_icmp_ge C tgt hd ht (fun q => absurd q hc) (fun _ => h)
theorem g_if_gt (C : gC G own cc ret nL p R s m args meth c mc ms) {x : Int32} {off : Int} (tgt : Nat) (hd : decode cc pc = .ok (.ifCond .gt off, 3)) (ht : (pc : Int) + off = (tgt : Int)) (kt : 0 < x → gV p l e R s m args below meth c mc ms Q G nL mem tgt L st) (kf : ¬ 0 < x → gV p l e R s m args below meth c mc ms Q G nL mem (pc + 3) L st) : gV p l e R s m args below meth c mc ms Q G nL mem pc L (.int x :: st) := fun H locs ls hP hS hl => lv_if_gt C.1 C.2.1 hd ht (fun q => kt q H locs ls hP hS hl) (fun q => kf q H locs ls hP hS hl)
theorem g_if_gt_t (C : gC G own cc ret nL p R s m args meth c mc ms) {x : Int32} {off : Int} (tgt : Nat) (hc : 0 < x) (hd : decode cc pc = .ok (.ifCond .gt off, 3)) (ht : (pc : Int) + off = (tgt : Int)) (h : gV p l e R s m args below meth c mc ms Q G nL mem tgt L st) : gV p l e R s m args below meth c mc ms Q G nL mem pc L (.int x :: st) := g_if_gt C tgt hd ht (fun _ => h) (fun q => absurd hc q)
theorem g_if_gt_f (C : gC G own cc ret nL p R s m args meth c mc ms) {x : Int32} {off : Int} (tgt : Nat) (hc : ¬ 0 < x) (hd : decode cc pc = .ok (.ifCond .gt off, 3)) (ht : (pc : Int) + off = (tgt : Int)) (h : gV p l e R s m args below meth c mc ms Q G nL mem (pc + 3) L st) : gV p l e R s m args below meth c mc ms Q G nL mem pc L (.int x :: st) := g_if_gt C tgt hd ht (fun q => absurd q hc) (fun _ => h)
theorem g_icmp_gt (C : gC G own cc ret nL p R s m args meth c mc ms) {x y : Int32} {off : Int} (tgt : Nat) (hd : decode cc pc = .ok (.if_icmp .gt off, 3)) (ht : (pc : Int) + off = (tgt : Int)) (kt : y < x → gV p l e R s m args below meth c mc ms Q G nL mem tgt L st) (kf : ¬ y < x → gV p l e R s m args below meth c mc ms Q G nL mem (pc + 3) L st) : gV p l e R s m args below meth c mc ms Q G nL mem pc L (.int y :: .int x :: st) := fun H locs ls hP hS hl => lv_icmp_gt C.1 C.2.1 hd ht (fun q => kt q H locs ls hP hS hl) (fun q => kf q H locs ls hP hS hl)
theorem g_icmp_gt_t (C : gC G own cc ret nL p R s m args meth c mc ms) {x y : Int32} {off : Int} (tgt : Nat) (hc : y < x) (hd : decode cc pc = .ok (.if_icmp .gt off, 3)) (ht : (pc : Int) + off = (tgt : Int)) (h : gV p l e R s m args below meth c mc ms Q G nL mem tgt L st) : gV p l e R s m args below meth c mc ms Q G nL mem pc L (.int y :: .int x :: st) := g_icmp_gt C tgt hd ht (fun _ => h) (fun q => absurd hc q)
theorem g_icmp_gt_f (C : gC G own cc ret nL p R s m args meth c mc ms) {x y : Int32} {off : Int} (tgt : Nat) (hc : ¬ y < x) (hd : decode cc pc = .ok (.if_icmp .gt off, 3)) (ht : (pc : Int) + off = (tgt : Int)) (h : gV p l e R s m args below meth c mc ms Q G nL mem (pc + 3) L st) : gV p l e R s m args below meth c mc ms Q G nL mem pc L (.int y :: .int x :: st) := g_icmp_gt C tgt hd ht (fun q => absurd q hc) (fun _ => h)
theorem g_if_le (C : gC G own cc ret nL p R s m args meth c mc ms) {x : Int32} {off : Int} (tgt : Nat) (hd : decode cc pc = .ok (.ifCond .le off, 3)) (ht : (pc : Int) + off = (tgt : Int)) (kt : x ≤ 0 → gV p l e R s m args below meth c mc ms Q G nL mem tgt L st) (kf : ¬ x ≤ 0 → gV p l e R s m args below meth c mc ms Q G nL mem (pc + 3) L st) : gV p l e R s m args below meth c mc ms Q G nL mem pc L (.int x :: st) := fun H locs ls hP hS hl => lv_if_le C.1 C.2.1 hd ht (fun q => kt q H locs ls hP hS hl) (fun q => kf q H locs ls hP hS hl)
theorem g_if_le_t (C : gC G own cc ret nL p R s m args meth c mc ms) {x : Int32} {off : Int} (tgt : Nat) (hc : x ≤ 0) (hd : decode cc pc = .ok (.ifCond .le off, 3)) (ht : (pc : Int) + off = (tgt : Int)) (h : gV p l e R s m args below meth c mc ms Q G nL mem tgt L st) : gV p l e R s m args below meth c mc ms Q G nL mem pc L (.int x :: st) := g_if_le C tgt hd ht (fun _ => h) (fun q => absurd hc q)
theorem g_if_le_f (C : gC G own cc ret nL p R s m args meth c mc ms) {x : Int32} {off : Int} (tgt : Nat) (hc : ¬ x ≤ 0) (hd : decode cc pc = .ok (.ifCond .le off, 3)) (ht : (pc : Int) + off = (tgt : Int)) (h : gV p l e R s m args below meth c mc ms Q G nL mem (pc + 3) L st) : gV p l e R s m args below meth c mc ms Q G nL mem pc L (.int x :: st) := g_if_le C tgt hd ht (fun q => absurd q hc) (fun _ => h)
theorem g_icmp_le (C : gC G own cc ret nL p R s m args meth c mc ms) {x y : Int32} {off : Int} (tgt : Nat) (hd : decode cc pc = .ok (.if_icmp .le off, 3)) (ht : (pc : Int) + off = (tgt : Int)) (kt : x ≤ y → gV p l e R s m args below meth c mc ms Q G nL mem tgt L st) (kf : ¬ x ≤ y → gV p l e R s m args below meth c mc ms Q G nL mem (pc + 3) L st) : gV p l e R s m args below meth c mc ms Q G nL mem pc L (.int y :: .int x :: st) := fun H locs ls hP hS hl => lv_icmp_le C.1 C.2.1 hd ht (fun q => kt q H locs ls hP hS hl) (fun q => kf q H locs ls hP hS hl)
theorem g_icmp_le_t (C : gC G own cc ret nL p R s m args meth c mc ms) {x y : Int32} {off : Int} (tgt : Nat) (hc : x ≤ y) (hd : decode cc pc = .ok (.if_icmp .le off, 3)) (ht : (pc : Int) + off = (tgt : Int)) (h : gV p l e R s m args below meth c mc ms Q G nL mem tgt L st) : gV p l e R s m args below meth c mc ms Q G nL mem pc L (.int y :: .int x :: st) := g_icmp_le C tgt hd ht (fun _ => h) (fun q => absurd hc q)
theorem g_icmp_le_f (C : gC G own cc ret nL p R s m args meth c mc ms) {x y : Int32} {off : Int} (tgt : Nat) (hc : ¬ x ≤ y) (hd : decode cc pc = .ok (.if_icmp .le off, 3)) (ht : (pc : Int) + off = (tgt : Int)) (h : gV p l e R s m args below meth c mc ms Q G nL mem (pc + 3) L st) : gV p l e R s m args below meth c mc ms Q G nL mem pc L (.int y :: .int x :: st) := g_icmp_le C tgt hd ht (fun q => absurd q hc) (fun _ => h)
theorem g_goto (C : gC G own cc ret nL p R s m args meth c mc ms) {off : Int} (tgt : Nat) (hd : decode cc pc = .ok (.goto off, 3)) (ht : (pc : Int) + off = (tgt : Int)) (h : gV p l e R s m args below meth c mc ms Q G nL mem tgt L st) : gV p l e R s m args below meth c mc ms Q G nL mem pc L st := fun H locs ls hP hS hl => lv_goto C.1 C.2.1 hd ht (h H locs ls hP hS hl)
theorem g_ifnonnull (C : gC G own cc ret nL p R s m args meth c mc ms) {x : Nat} {off : Int} (tgt : Nat) (hd : decode cc pc = .ok (.ifnonnull off, 3)) (ht : (pc : Int) + off = (tgt : Int)) (h : gV p l e R s m args below meth c mc ms Q G nL mem tgt L st) : gV p l e R s m args below meth c mc ms Q G nL mem pc L (.ref x :: st) := fun H locs ls hP hS hl => lv_ifnonnull C.1 C.2.1 hd ht (h H locs ls hP hS hl)
theorem g_ifnull (C : gC G own cc ret nL p R s m args meth c mc ms) {x : Nat} {off : Int} (hd : decode cc pc = .ok (.ifnull off, 3)) (h : gV p l e R s m args below meth c mc ms Q G nL mem (pc + 3) L st) : gV p l e R s m args below meth c mc ms Q G nL mem pc L (.ref x :: st) := fun H locs ls hP hS hl => lv_ifnull C.1 C.2.1 hd (h H locs ls hP hS hl)
theorem g_ifnullN (C : gC G own cc ret nL p R s m args meth c mc ms) {off : Int} (tgt : Nat) (hd : decode cc pc = .ok (.ifnull off, 3)) (ht : (pc : Int) + off = (tgt : Int)) (h : gV p l e R s m args below meth c mc ms Q G nL mem tgt L st) : gV p l e R s m args below meth c mc ms Q G nL mem pc L (.null :: st) := fun H locs ls hP hS hl => lv_ifnullN C.1 C.2.1 hd ht (h H locs ls hP hS hl)
theorem g_tswOut (C : gC G own cc ret nL p R s m args meth c mc ms) {dflt lo hi : Int} {offs : Array Int} {len : Nat} {x : Int32} (tgt : Nat) (hd : decode cc pc = .ok (.tableswitch dflt lo hi offs, len)) (hx : x.toInt < lo ∨ hi < x.toInt) (ht : (pc : Int) + dflt = (tgt : Int)) (h : gV p l e R s m args below meth c mc ms Q G nL mem tgt L st) : gV p l e R s m args below meth c mc ms Q G nL mem pc L (.int x :: st) := fun H locs ls hP hS hl => lv_tableOut C.1 C.2.1 hd hx ht (h H locs ls hP hS hl)
theorem g_tswIn (C : gC G own cc ret nL p R s m args meth c mc ms) {dflt lo hi off : Int} {offs : Array Int} {len : Nat} {x : Int32} (tgt : Nat) (hd : decode cc pc = .ok (.tableswitch dflt lo hi offs, len)) (h1 : ¬ x.toInt < lo) (h2 : ¬ hi < x.toInt) (ho : offs[(x.toInt - lo).toNat]? = some off) (ht : (pc : Int) + off = (tgt : Int)) (h : gV p l e R s m args below meth c mc ms Q G nL mem tgt L st) : gV p l e R s m args below meth c mc ms Q G nL mem pc L (.int x :: st) := fun H locs ls hP hS hl => lv_tableIn C.1 C.2.1 hd h1 h2 ho ht (h H locs ls hP hS hl)
theorem g_mmax (C : gC G own cc ret nL p R s m args meth c mc ms) {x y : Int32} {idx : Nat} (hw : Cond.methodLink own idx Lib.Math.max.name ∈ wG) (hw2 : Cond.static Lib.Math.max.name ∈ wG) (hw3 : Cond.initialized "java/lang/Math" ∈ wG) (hw4 : Cond.code Lib.Math.max.name Lib.Math.max.code 2 (some .int) ∈ wG) (hf : 1 ≤ R.frames) (hlo : (st.map fun v => v.category).sum + 13 ≤ R.locals) (hd : decode cc pc = .ok (.invokestatic idx, 3)) (h : gV p l e R s m args below meth c mc ms Q G nL mem (pc + 3) L (.int (if x < y then y else x) :: st)) : gV p l e R s m args below meth c mc ms Q G nL mem pc L (.int y :: .int x :: st) := fun H locs ls hP hS hl => va_mmax C.1 C.2.1 (C.2.2.2.1.trans hl.1.symm) C.o (C.w hw) (C.w hw2) (C.w hw3) (C.w hw4) hf hlo C.2.2.2.2.2.2.2.2.2.2.1 C.2.2.2.2.2.2.2.2.2.2.2 hd (h H locs ls hP hS hl)
theorem g_mmin (C : gC G own cc ret nL p R s m args meth c mc ms) {x y : Int32} {idx : Nat} (hw : Cond.methodLink own idx Lib.Math.min.name ∈ wG) (hw2 : Cond.static Lib.Math.min.name ∈ wG) (hw3 : Cond.initialized "java/lang/Math" ∈ wG) (hw4 : Cond.code Lib.Math.min.name Lib.Math.min.code 2 (some .int) ∈ wG) (hf : 1 ≤ R.frames) (hlo : (st.map fun v => v.category).sum + 13 ≤ R.locals) (hd : decode cc pc = .ok (.invokestatic idx, 3)) (h : gV p l e R s m args below meth c mc ms Q G nL mem (pc + 3) L (.int (if y < x then y else x) :: st)) : gV p l e R s m args below meth c mc ms Q G nL mem pc L (.int y :: .int x :: st) := fun H locs ls hP hS hl => va_mmin C.1 C.2.1 (C.2.2.2.1.trans hl.1.symm) C.o (C.w hw) (C.w hw2) (C.w hw3) (C.w hw4) hf hlo C.2.2.2.2.2.2.2.2.2.2.1 C.2.2.2.2.2.2.2.2.2.2.2 hd (h H locs ls hP hS hl)
theorem g_mabs (C : gC G own cc ret nL p R s m args meth c mc ms) {x : Int32} {idx : Nat} (hw : Cond.methodLink own idx Lib.Math.abs.name ∈ wG) (hw2 : Cond.static Lib.Math.abs.name ∈ wG) (hw3 : Cond.initialized "java/lang/Math" ∈ wG) (hw4 : Cond.code Lib.Math.abs.name Lib.Math.abs.code 1 (some .int) ∈ wG) (hf : 1 ≤ R.frames) (hlo : (st.map fun v => v.category).sum + 13 ≤ R.locals) (hd : decode cc pc = .ok (.invokestatic idx, 3)) (h : gV p l e R s m args below meth c mc ms Q G nL mem (pc + 3) L (.int (if 0 ≤ x then x else 0 - x) :: st)) : gV p l e R s m args below meth c mc ms Q G nL mem pc L (.int x :: st) := fun H locs ls hP hS hl => va_mabs C.1 C.2.1 (C.2.2.2.1.trans hl.1.symm) C.o (C.w hw) (C.w hw2) (C.w hw3) (C.w hw4) hf hlo C.2.2.2.2.2.2.2.2.2.2.1 C.2.2.2.2.2.2.2.2.2.2.2 hd (h H locs ls hP hS hl)
theorem g_iadd_n (C : gC G own cc ret nL p R s m args meth c mc ms) {a b d : Nat} (hd : decode cc pc = .ok (.iadd, 1)) (hc : a + b = d) (h : gV p l e R s m args below meth c mc ms Q G nL mem (pc + 1) L (.int (nI d) :: st)) : gV p l e R s m args below meth c mc ms Q G nL mem pc L (.int (nI b) :: .int (nI a) :: st) := g_iadd C hd (by rw [nI_add, hc]; exact h)
theorem g_imul_n (C : gC G own cc ret nL p R s m args meth c mc ms) {a b d : Nat} (hd : decode cc pc = .ok (.imul, 1)) (hc : a * b = d) (h : gV p l e R s m args below meth c mc ms Q G nL mem (pc + 1) L (.int (nI d) :: st)) : gV p l e R s m args below meth c mc ms Q G nL mem pc L (.int (nI b) :: .int (nI a) :: st) := g_imul C hd (by rw [pk_mul, hc]; exact h)
theorem g_ifb_eq (C : gC G own cc ret nL p R s m args meth c mc ms) {P : Prop} {hP : Decidable P} {off : Int} (tgt : Nat) (hd : decode cc pc = .ok (.ifCond .eq off, 3)) (ht : (pc : Int) + off = (tgt : Int)) (kt : ¬ P → gV p l e R s m args below meth c mc ms Q G nL mem tgt L st) (kf : P → gV p l e R s m args below meth c mc ms Q G nL mem (pc + 3) L st) : gV p l e R s m args below meth c mc ms Q G nL mem pc L (.int (b2i P) :: st) := g_if_eq C tgt hd ht (fun q => kt (b2i_eq0.mp q)) (fun q => kf (Decidable.not_not.mp fun z => q (b2i_eq0.mpr z)))
theorem g_ifb_eq_t (C : gC G own cc ret nL p R s m args meth c mc ms) {P : Prop} {hP : Decidable P} {off : Int} (tgt : Nat) (hc : ¬ P) (hd : decode cc pc = .ok (.ifCond .eq off, 3)) (ht : (pc : Int) + off = (tgt : Int)) (h : gV p l e R s m args below meth c mc ms Q G nL mem tgt L st) : gV p l e R s m args below meth c mc ms Q G nL mem pc L (.int (b2i P) :: st) := g_ifb_eq C tgt hd ht (fun _ => h) (fun q => absurd q hc)
theorem g_ifb_eq_f (C : gC G own cc ret nL p R s m args meth c mc ms) {P : Prop} {hP : Decidable P} {off : Int} (tgt : Nat) (hc : P) (hd : decode cc pc = .ok (.ifCond .eq off, 3)) (ht : (pc : Int) + off = (tgt : Int)) (h : gV p l e R s m args below meth c mc ms Q G nL mem (pc + 3) L st) : gV p l e R s m args below meth c mc ms Q G nL mem pc L (.int (b2i P) :: st) := g_ifb_eq C tgt hd ht (fun q => absurd hc q) (fun _ => h)
theorem g_ifb_ne (C : gC G own cc ret nL p R s m args meth c mc ms) {P : Prop} {hP : Decidable P} {off : Int} (tgt : Nat) (hd : decode cc pc = .ok (.ifCond .ne off, 3)) (ht : (pc : Int) + off = (tgt : Int)) (kt : P → gV p l e R s m args below meth c mc ms Q G nL mem tgt L st) (kf : ¬ P → gV p l e R s m args below meth c mc ms Q G nL mem (pc + 3) L st) : gV p l e R s m args below meth c mc ms Q G nL mem pc L (.int (b2i P) :: st) := g_if_ne C tgt hd ht (fun q => kt (Decidable.not_not.mp fun z => q (b2i_eq0.mpr z))) (fun q => kf (b2i_eq0.mp q))
theorem g_ifb_ne_t (C : gC G own cc ret nL p R s m args meth c mc ms) {P : Prop} {hP : Decidable P} {off : Int} (tgt : Nat) (hc : P) (hd : decode cc pc = .ok (.ifCond .ne off, 3)) (ht : (pc : Int) + off = (tgt : Int)) (h : gV p l e R s m args below meth c mc ms Q G nL mem tgt L st) : gV p l e R s m args below meth c mc ms Q G nL mem pc L (.int (b2i P) :: st) := g_ifb_ne C tgt hd ht (fun _ => h) (fun q => absurd hc q)
theorem g_ifb_ne_f (C : gC G own cc ret nL p R s m args meth c mc ms) {P : Prop} {hP : Decidable P} {off : Int} (tgt : Nat) (hc : ¬ P) (hd : decode cc pc = .ok (.ifCond .ne off, 3)) (ht : (pc : Int) + off = (tgt : Int)) (h : gV p l e R s m args below meth c mc ms Q G nL mem (pc + 3) L st) : gV p l e R s m args below meth c mc ms Q G nL mem pc L (.int (b2i P) :: st) := g_ifb_ne C tgt hd ht (fun q => absurd q hc) (fun _ => h)
theorem g_top {x y : Int32} (e1 : x = y) (h : gV p l e R s m args below meth c mc ms Q G nL mem pc L (.int y :: st)) : gV p l e R s m args below meth c mc ms Q G nL mem pc L (.int x :: st) := by rw [e1]; exact h
theorem g_topl {x y : Int64} (e1 : x = y) (h : gV p l e R s m args below meth c mc ms Q G nL mem pc L (.long y :: st)) : gV p l e R s m args below meth c mc ms Q G nL mem pc L (.long x :: st) := by rw [e1]; exact h
theorem g_mem {mem2 : gM} (e1 : mem = mem2) (h : gV p l e R s m args below meth c mc ms Q G nL mem2 pc L st) : gV p l e R s m args below meth c mc ms Q G nL mem pc L st := by rw [e1]; exact h
theorem g_iald_n (C : gC G own cc ret nL p R s m args meth c mc ms) {k n j : Nat} {i : Int32} (hk : gAr k n) (hi : i = nI j) (hj : j < n) (hn : n < 2 ^ 31) (hd : decode cc pc = .ok (.iaload, 1)) (h : gV p l e R s m args below meth c mc ms Q G nL mem (pc + 1) L (.int (mem k j) :: st)) : gV p l e R s m args below meth c mc ms Q G nL mem pc L (.int i :: .ref (gad G k) :: st) := by
  subst hi
  refine g_iald C hk (vp_in_nI hj hn) hd ?_
  rw [nI_clamp (Nat.lt_trans hj hn)]
  exact h
theorem g_iast_n (C : gC G own cc ret nL p R s m args meth c mc ms) {k n j : Nat} {i w : Int32} (hk : gAr k n) (hi : i = nI j) (hj : j < n) (hn : n < 2 ^ 31) (hd : decode cc pc = .ok (.iastore, 1)) (h : gV p l e R s m args below meth c mc ms Q G nL (gr mem k (upd (mem k) j w)) (pc + 1) L st) : gV p l e R s m args below meth c mc ms Q G nL mem pc L (.int w :: .int i :: .ref (gad G k) :: st) := by
  subst hi
  refine g_iast C hk (vp_in_nI hj hn) hd ?_
  rw [nI_clamp (Nat.lt_trans hj hn)]
  exact h
theorem g_tld_n (C : gC G own cc ret nL p R s m args meth c mc ms) {n : String} {t N j : Nat} {f : Nat → Int32} (hz : gZ1 n t N f (gA G) s s.heap) (hj : j < N) (hn : N < 2 ^ 31) (hd : decode cc pc = .ok (.iaload, 1)) (h : gV p l e R s m args below meth c mc ms Q G nL mem (pc + 1) L (.int (f j) :: st)) : gV p l e R s m args below meth c mc ms Q G nL mem pc L (.int (nI j) :: .ref t :: st) := by
  refine g_tld C hz (vp_in_nI hj hn) hd ?_
  rw [nI_clamp (Nat.lt_trans hj hn)]
  exact h
theorem g_cV1 (C : gC G own cc ret nL p R s m args meth c mc ms) {y : MethodName} {b2 : ByteArray} {maxL2 n idx k ci N : Nat} {ret2 : Option FieldType} {rm2 : Room} {T : u_T} {fl : List (Option Nat)} {As rest : List Value} {v w : Value} {mem2 mem3 : gM} (I : gIv y b2 maxL2 ret2 n) (hM : gMet l y b2 maxL2 ret2 rm2 G (.ref (gad G k) :: As) mem (fun a u => a = some v ∧ u = mem2)) (hw : Cond.methodLink own idx y ∈ wG) (O : gO k ci y.cls T N fl) (hn : As.length = n) (hR : rm2.frames + 1 ≤ R.frames ∧ 8 + (maxL2 + 11) + rm2.locals ≤ R.locals) (hz : rm2.cells = 0 ∧ rm2.slots = 0) (hst : st = As.reverse ++ .ref (gad G k) :: rest) (hcat : (rest.map fun v => v.category).sum ≤ 8) (hd : decode cc pc = .ok (.invokevirtual idx, 3)) (hv : v = w) (hm : mem2 = mem3) (h : gV p l e R s m args below meth c mc ms Q G nL mem3 (pc + 3) L (w :: rest)) : gV p l e R s m args below meth c mc ms Q G nL mem pc L st :=
  g_callV C I hM hw O hn hR hz hst hcat hd fun a u q => by obtain ⟨rfl, rfl⟩ := q; rw [hv, hm]; exact h
theorem g_cV0 (C : gC G own cc ret nL p R s m args meth c mc ms) {y : MethodName} {b2 : ByteArray} {maxL2 n idx k ci N : Nat} {ret2 : Option FieldType} {rm2 : Room} {T : u_T} {fl : List (Option Nat)} {As rest : List Value} {mem2 mem3 : gM} (I : gIv y b2 maxL2 ret2 n) (hM : gMet l y b2 maxL2 ret2 rm2 G (.ref (gad G k) :: As) mem (fun a u => a = none ∧ u = mem2)) (hw : Cond.methodLink own idx y ∈ wG) (O : gO k ci y.cls T N fl) (hn : As.length = n) (hR : rm2.frames + 1 ≤ R.frames ∧ 8 + (maxL2 + 11) + rm2.locals ≤ R.locals) (hz : rm2.cells = 0 ∧ rm2.slots = 0) (hst : st = As.reverse ++ .ref (gad G k) :: rest) (hcat : (rest.map fun v => v.category).sum ≤ 8) (hd : decode cc pc = .ok (.invokevirtual idx, 3)) (hm : mem2 = mem3) (h : gV p l e R s m args below meth c mc ms Q G nL mem3 (pc + 3) L rest) : gV p l e R s m args below meth c mc ms Q G nL mem pc L st :=
  g_callV C I hM hw O hn hR hz hst hcat hd fun a u q => by obtain ⟨rfl, rfl⟩ := q; rw [hm]; exact h
theorem g_cVr (C : gC G own cc ret nL p R s m args meth c mc ms) {y : MethodName} {b2 : ByteArray} {maxL2 n idx k ci N : Nat} {ret2 : Option FieldType} {rm2 : Room} {T : u_T} {fl : List (Option Nat)} {As rest : List Value} {P : Int32 → gM → Prop} (I : gIv y b2 maxL2 ret2 n) (hM : gMet l y b2 maxL2 ret2 rm2 G (.ref (gad G k) :: As) mem (fun a u => ∃ r : Int32, a = some (.int r) ∧ P r u)) (hw : Cond.methodLink own idx y ∈ wG) (O : gO k ci y.cls T N fl) (hn : As.length = n) (hR : rm2.frames + 1 ≤ R.frames ∧ 8 + (maxL2 + 11) + rm2.locals ≤ R.locals) (hz : rm2.cells = 0 ∧ rm2.slots = 0) (hst : st = As.reverse ++ .ref (gad G k) :: rest) (hcat : (rest.map fun v => v.category).sum ≤ 8) (hd : decode cc pc = .ok (.invokevirtual idx, 3)) (h : ∀ (r : Int32) (u : gM), P r u → gV p l e R s m args below meth c mc ms Q G nL u (pc + 3) L (.int r :: rest)) : gV p l e R s m args below meth c mc ms Q G nL mem pc L st :=
  g_callV C I hM hw O hn hR hz hst hcat hd fun a u q => by obtain ⟨r, rfl, hP⟩ := q; exact h r u hP
theorem g_cVq (C : gC G own cc ret nL p R s m args meth c mc ms) {y : MethodName} {b2 : ByteArray} {maxL2 n idx k ci N : Nat} {ret2 : Option FieldType} {rm2 : Room} {T : u_T} {fl : List (Option Nat)} {As rest : List Value} {P : gM → Prop} (I : gIv y b2 maxL2 ret2 n) (hM : gMet l y b2 maxL2 ret2 rm2 G (.ref (gad G k) :: As) mem (fun a u => a = none ∧ P u)) (hw : Cond.methodLink own idx y ∈ wG) (O : gO k ci y.cls T N fl) (hn : As.length = n) (hR : rm2.frames + 1 ≤ R.frames ∧ 8 + (maxL2 + 11) + rm2.locals ≤ R.locals) (hz : rm2.cells = 0 ∧ rm2.slots = 0) (hst : st = As.reverse ++ .ref (gad G k) :: rest) (hcat : (rest.map fun v => v.category).sum ≤ 8) (hd : decode cc pc = .ok (.invokevirtual idx, 3)) (h : ∀ (u : gM), P u → gV p l e R s m args below meth c mc ms Q G nL u (pc + 3) L rest) : gV p l e R s m args below meth c mc ms Q G nL mem pc L st :=
  g_callV C I hM hw O hn hR hz hst hcat hd fun a u q => by obtain ⟨rfl, hP⟩ := q; exact h u hP
theorem g_cS1 (C : gC G own cc ret nL p R s m args meth c mc ms) {y : MethodName} {b2 : ByteArray} {maxL2 n idx : Nat} {ret2 : Option FieldType} {rm2 : Room} {As rest : List Value} {v w : Value} {mem2 mem3 : gM} (I : gIs y b2 maxL2 ret2 n) (hM : gMet l y b2 maxL2 ret2 rm2 G As mem (fun a u => a = some v ∧ u = mem2)) (hw : Cond.methodLink own idx y ∈ wG) (hn : As.length = n) (hR : rm2.frames + 1 ≤ R.frames ∧ 8 + (maxL2 + 11) + rm2.locals ≤ R.locals) (hz : rm2.cells = 0 ∧ rm2.slots = 0) (hst : st = As.reverse ++ rest) (hcat : (rest.map fun v => v.category).sum ≤ 8) (hd : decode cc pc = .ok (.invokestatic idx, 3)) (hv : v = w) (hm : mem2 = mem3) (h : gV p l e R s m args below meth c mc ms Q G nL mem3 (pc + 3) L (w :: rest)) : gV p l e R s m args below meth c mc ms Q G nL mem pc L st :=
  g_callS C I hM hw hn hR hz hst hcat hd fun a u q => by obtain ⟨rfl, rfl⟩ := q; rw [hv, hm]; exact h
theorem g_cS0 (C : gC G own cc ret nL p R s m args meth c mc ms) {y : MethodName} {b2 : ByteArray} {maxL2 n idx : Nat} {ret2 : Option FieldType} {rm2 : Room} {As rest : List Value} {mem2 mem3 : gM} (I : gIs y b2 maxL2 ret2 n) (hM : gMet l y b2 maxL2 ret2 rm2 G As mem (fun a u => a = none ∧ u = mem2)) (hw : Cond.methodLink own idx y ∈ wG) (hn : As.length = n) (hR : rm2.frames + 1 ≤ R.frames ∧ 8 + (maxL2 + 11) + rm2.locals ≤ R.locals) (hz : rm2.cells = 0 ∧ rm2.slots = 0) (hst : st = As.reverse ++ rest) (hcat : (rest.map fun v => v.category).sum ≤ 8) (hd : decode cc pc = .ok (.invokestatic idx, 3)) (hm : mem2 = mem3) (h : gV p l e R s m args below meth c mc ms Q G nL mem3 (pc + 3) L rest) : gV p l e R s m args below meth c mc ms Q G nL mem pc L st :=
  g_callS C I hM hw hn hR hz hst hcat hd fun a u q => by obtain ⟨rfl, rfl⟩ := q; rw [hm]; exact h
theorem g_cSr (C : gC G own cc ret nL p R s m args meth c mc ms) {y : MethodName} {b2 : ByteArray} {maxL2 n idx : Nat} {ret2 : Option FieldType} {rm2 : Room} {As rest : List Value} {P : Int32 → gM → Prop} (I : gIs y b2 maxL2 ret2 n) (hM : gMet l y b2 maxL2 ret2 rm2 G As mem (fun a u => ∃ r : Int32, a = some (.int r) ∧ P r u)) (hw : Cond.methodLink own idx y ∈ wG) (hn : As.length = n) (hR : rm2.frames + 1 ≤ R.frames ∧ 8 + (maxL2 + 11) + rm2.locals ≤ R.locals) (hz : rm2.cells = 0 ∧ rm2.slots = 0) (hst : st = As.reverse ++ rest) (hcat : (rest.map fun v => v.category).sum ≤ 8) (hd : decode cc pc = .ok (.invokestatic idx, 3)) (h : ∀ (r : Int32) (u : gM), P r u → gV p l e R s m args below meth c mc ms Q G nL u (pc + 3) L (.int r :: rest)) : gV p l e R s m args below meth c mc ms Q G nL mem pc L st :=
  g_callS C I hM hw hn hR hz hst hcat hd fun a u q => by obtain ⟨r, rfl, hP⟩ := q; exact h r u hP
theorem g_cSq (C : gC G own cc ret nL p R s m args meth c mc ms) {y : MethodName} {b2 : ByteArray} {maxL2 n idx : Nat} {ret2 : Option FieldType} {rm2 : Room} {As rest : List Value} {P : gM → Prop} (I : gIs y b2 maxL2 ret2 n) (hM : gMet l y b2 maxL2 ret2 rm2 G As mem (fun a u => a = none ∧ P u)) (hw : Cond.methodLink own idx y ∈ wG) (hn : As.length = n) (hR : rm2.frames + 1 ≤ R.frames ∧ 8 + (maxL2 + 11) + rm2.locals ≤ R.locals) (hz : rm2.cells = 0 ∧ rm2.slots = 0) (hst : st = As.reverse ++ rest) (hcat : (rest.map fun v => v.category).sum ≤ 8) (hd : decode cc pc = .ok (.invokestatic idx, 3)) (h : ∀ (u : gM), P u → gV p l e R s m args below meth c mc ms Q G nL u (pc + 3) L rest) : gV p l e R s m args below meth c mc ms Q G nL mem pc L st :=
  g_callS C I hM hw hn hR hz hst hcat hd fun a u q => by obtain ⟨rfl, hP⟩ := q; exact h u hP

end GROWS
theorem gO_X0 {k : Nat} {fl : List (Option Nat)} (h : gsh[k]? = some (.inr (.inl (0, fl)))) : gO k 0 RX0 TX0 4 fl := ⟨h, rfl, wi_X0, ⟨tyX0, tyX0_ok⟩, nmX0⟩
theorem gO_X1 {k : Nat} {fl : List (Option Nat)} (h : gsh[k]? = some (.inr (.inl (1, fl)))) : gO k 1 RX1 TX1 3 fl := ⟨h, rfl, wi_X1, ⟨tyX1, tyX1_ok⟩, nmX1⟩
theorem gO_X2 {k : Nat} {fl : List (Option Nat)} (h : gsh[k]? = some (.inr (.inl (2, fl)))) : gO k 2 RX2 TX2 4 fl := ⟨h, rfl, wi_X2, ⟨tyX2, tyX2_ok⟩, nmX2⟩
theorem gO_X3 {k : Nat} {fl : List (Option Nat)} (h : gsh[k]? = some (.inr (.inl (3, fl)))) : gO k 3 RX3 TX3 10 fl := ⟨h, rfl, wi_X3, ⟨tyX3, tyX3_ok⟩, nmX3⟩
theorem gO_X5 {k : Nat} {fl : List (Option Nat)} (h : gsh[k]? = some (.inr (.inl (4, fl)))) : gO k 4 RX5 TX5 12 fl := ⟨h, rfl, wi_X5, ⟨tyX5, tyX5_ok⟩, nmX5⟩
theorem gO_X6 {k : Nat} {fl : List (Option Nat)} (h : gsh[k]? = some (.inr (.inl (5, fl)))) : gO k 5 RX6 TX6 1 fl := ⟨h, rfl, wi_X6, ⟨tyX6, tyX6_ok⟩, nmX6⟩
theorem gO_X7 {k : Nat} {fl : List (Option Nat)} (h : gsh[k]? = some (.inr (.inl (6, fl)))) : gO k 6 RX7 TX7 5 fl := ⟨h, rfl, wi_X7, ⟨tyX7, tyX7_ok⟩, nmX7⟩
theorem gO_X8 {k : Nat} {fl : List (Option Nat)} (h : gsh[k]? = some (.inr (.inl (7, fl)))) : gO k 7 RX8 TX8 2 fl := ⟨h, rfl, wi_X8, ⟨tyX8, tyX8_ok⟩, nmX8⟩
theorem gO_X9 {k : Nat} {fl : List (Option Nat)} (h : gsh[k]? = some (.inr (.inl (8, fl)))) : gO k 8 RX9 TX9 5 fl := ⟨h, rfl, wi_X9, ⟨tyX9, tyX9_ok⟩, nmX9⟩
theorem gO_X10 {k : Nat} {fl : List (Option Nat)} (h : gsh[k]? = some (.inr (.inl (9, fl)))) : gO k 9 RX10 TX10 21 fl := ⟨h, rfl, wi_X10, ⟨tyX10, tyX10_ok⟩, nmX10⟩
theorem ob_0 : gO 0 8 RX9 TX9 5 [some 1, some 29, some 143, some 146, some 151] := gO_X9 rfl
theorem ob_1 : gO 1 6 RX7 TX7 5 [some 2, some 4, some 21, some 24, some 26] := gO_X7 rfl
theorem ob_2 : gO 2 5 RX6 TX6 1 [some 3] := gO_X6 rfl
theorem ar_3 : gAr 3 5 := rfl
theorem ob_4 : gO 4 3 RX3 TX3 10 [none, none, some 5, some 7, some 9, some 11, some 13, some 15, some 17, some 19] := gO_X3 rfl
theorem ob_5 : gO 5 5 RX6 TX6 1 [some 6] := gO_X6 rfl
theorem ar_6 : gAr 6 10 := rfl
theorem ob_7 : gO 7 5 RX6 TX6 1 [some 8] := gO_X6 rfl
theorem ar_8 : gAr 8 10 := rfl
theorem ob_9 : gO 9 5 RX6 TX6 1 [some 10] := gO_X6 rfl
theorem ar_10 : gAr 10 10 := rfl
theorem ob_11 : gO 11 5 RX6 TX6 1 [some 12] := gO_X6 rfl
theorem ar_12 : gAr 12 10 := rfl
theorem ob_13 : gO 13 5 RX6 TX6 1 [some 14] := gO_X6 rfl
theorem ar_14 : gAr 14 10 := rfl
theorem ob_15 : gO 15 5 RX6 TX6 1 [some 16] := gO_X6 rfl
theorem ar_16 : gAr 16 10 := rfl
theorem ob_17 : gO 17 5 RX6 TX6 1 [some 18] := gO_X6 rfl
theorem ar_18 : gAr 18 10 := rfl
theorem ob_19 : gO 19 5 RX6 TX6 1 [some 20] := gO_X6 rfl
theorem ar_20 : gAr 20 10 := rfl
theorem ob_21 : gO 21 0 RX0 TX0 4 [none, none, none, some 22] := gO_X0 rfl
theorem ob_22 : gO 22 5 RX6 TX6 1 [some 23] := gO_X6 rfl
theorem ar_23 : gAr 23 10 := rfl
theorem ob_24 : gO 24 5 RX6 TX6 1 [some 25] := gO_X6 rfl
theorem ar_25 : gAr 25 200 := rfl
theorem ob_26 : gO 26 2 RX2 TX2 4 [none, none, none, some 27] := gO_X2 rfl
theorem ob_27 : gO 27 5 RX6 TX6 1 [some 28] := gO_X6 rfl
theorem ar_28 : gAr 28 140 := rfl
theorem ob_29 : gO 29 1 RX1 TX1 3 [none, none, some 30] := gO_X1 rfl
theorem ob_31 : gO 31 6 RX7 TX7 5 [some 32, some 34, some 51, some 54, some 56] := gO_X7 rfl
theorem ob_32 : gO 32 5 RX6 TX6 1 [some 33] := gO_X6 rfl
theorem ar_33 : gAr 33 5 := rfl
theorem ob_34 : gO 34 3 RX3 TX3 10 [none, none, some 35, some 37, some 39, some 41, some 43, some 45, some 47, some 49] := gO_X3 rfl
theorem ob_35 : gO 35 5 RX6 TX6 1 [some 36] := gO_X6 rfl
theorem ar_36 : gAr 36 10 := rfl
theorem ob_37 : gO 37 5 RX6 TX6 1 [some 38] := gO_X6 rfl
theorem ar_38 : gAr 38 10 := rfl
theorem ob_39 : gO 39 5 RX6 TX6 1 [some 40] := gO_X6 rfl
theorem ar_40 : gAr 40 10 := rfl
theorem ob_41 : gO 41 5 RX6 TX6 1 [some 42] := gO_X6 rfl
theorem ar_42 : gAr 42 10 := rfl
theorem ob_43 : gO 43 5 RX6 TX6 1 [some 44] := gO_X6 rfl
theorem ar_44 : gAr 44 10 := rfl
theorem ob_45 : gO 45 5 RX6 TX6 1 [some 46] := gO_X6 rfl
theorem ar_46 : gAr 46 10 := rfl
theorem ob_47 : gO 47 5 RX6 TX6 1 [some 48] := gO_X6 rfl
theorem ar_48 : gAr 48 10 := rfl
theorem ob_49 : gO 49 5 RX6 TX6 1 [some 50] := gO_X6 rfl
theorem ar_50 : gAr 50 10 := rfl
theorem ob_51 : gO 51 0 RX0 TX0 4 [none, none, none, some 52] := gO_X0 rfl
theorem ob_52 : gO 52 5 RX6 TX6 1 [some 53] := gO_X6 rfl
theorem ar_53 : gAr 53 10 := rfl
theorem ob_54 : gO 54 5 RX6 TX6 1 [some 55] := gO_X6 rfl
theorem ar_55 : gAr 55 200 := rfl
theorem ob_56 : gO 56 2 RX2 TX2 4 [none, none, none, some 57] := gO_X2 rfl
theorem ob_57 : gO 57 5 RX6 TX6 1 [some 58] := gO_X6 rfl
theorem ar_58 : gAr 58 140 := rfl
theorem ob_59 : gO 59 6 RX7 TX7 5 [some 60, some 62, some 79, some 82, some 84] := gO_X7 rfl
theorem ob_60 : gO 60 5 RX6 TX6 1 [some 61] := gO_X6 rfl
theorem ar_61 : gAr 61 5 := rfl
theorem ob_62 : gO 62 3 RX3 TX3 10 [none, none, some 63, some 65, some 67, some 69, some 71, some 73, some 75, some 77] := gO_X3 rfl
theorem ob_63 : gO 63 5 RX6 TX6 1 [some 64] := gO_X6 rfl
theorem ar_64 : gAr 64 10 := rfl
theorem ob_65 : gO 65 5 RX6 TX6 1 [some 66] := gO_X6 rfl
theorem ar_66 : gAr 66 10 := rfl
theorem ob_67 : gO 67 5 RX6 TX6 1 [some 68] := gO_X6 rfl
theorem ar_68 : gAr 68 10 := rfl
theorem ob_69 : gO 69 5 RX6 TX6 1 [some 70] := gO_X6 rfl
theorem ar_70 : gAr 70 10 := rfl
theorem ob_71 : gO 71 5 RX6 TX6 1 [some 72] := gO_X6 rfl
theorem ar_72 : gAr 72 10 := rfl
theorem ob_73 : gO 73 5 RX6 TX6 1 [some 74] := gO_X6 rfl
theorem ar_74 : gAr 74 10 := rfl
theorem ob_75 : gO 75 5 RX6 TX6 1 [some 76] := gO_X6 rfl
theorem ar_76 : gAr 76 10 := rfl
theorem ob_77 : gO 77 5 RX6 TX6 1 [some 78] := gO_X6 rfl
theorem ar_78 : gAr 78 10 := rfl
theorem ob_79 : gO 79 0 RX0 TX0 4 [none, none, none, some 80] := gO_X0 rfl
theorem ob_80 : gO 80 5 RX6 TX6 1 [some 81] := gO_X6 rfl
theorem ar_81 : gAr 81 10 := rfl
theorem ob_82 : gO 82 5 RX6 TX6 1 [some 83] := gO_X6 rfl
theorem ar_83 : gAr 83 200 := rfl
theorem ob_84 : gO 84 2 RX2 TX2 4 [none, none, none, some 85] := gO_X2 rfl
theorem ob_85 : gO 85 5 RX6 TX6 1 [some 86] := gO_X6 rfl
theorem ar_86 : gAr 86 140 := rfl
theorem ob_87 : gO 87 6 RX7 TX7 5 [some 88, some 90, some 107, some 110, some 112] := gO_X7 rfl
theorem ob_88 : gO 88 5 RX6 TX6 1 [some 89] := gO_X6 rfl
theorem ar_89 : gAr 89 5 := rfl
theorem ob_90 : gO 90 3 RX3 TX3 10 [none, none, some 91, some 93, some 95, some 97, some 99, some 101, some 103, some 105] := gO_X3 rfl
theorem ob_91 : gO 91 5 RX6 TX6 1 [some 92] := gO_X6 rfl
theorem ar_92 : gAr 92 10 := rfl
theorem ob_93 : gO 93 5 RX6 TX6 1 [some 94] := gO_X6 rfl
theorem ar_94 : gAr 94 10 := rfl
theorem ob_95 : gO 95 5 RX6 TX6 1 [some 96] := gO_X6 rfl
theorem ar_96 : gAr 96 10 := rfl
theorem ob_97 : gO 97 5 RX6 TX6 1 [some 98] := gO_X6 rfl
theorem ar_98 : gAr 98 10 := rfl
theorem ob_99 : gO 99 5 RX6 TX6 1 [some 100] := gO_X6 rfl
theorem ar_100 : gAr 100 10 := rfl
theorem ob_101 : gO 101 5 RX6 TX6 1 [some 102] := gO_X6 rfl
theorem ar_102 : gAr 102 10 := rfl
theorem ob_103 : gO 103 5 RX6 TX6 1 [some 104] := gO_X6 rfl
theorem ar_104 : gAr 104 10 := rfl
theorem ob_105 : gO 105 5 RX6 TX6 1 [some 106] := gO_X6 rfl
theorem ar_106 : gAr 106 10 := rfl
theorem ob_107 : gO 107 0 RX0 TX0 4 [none, none, none, some 108] := gO_X0 rfl
theorem ob_108 : gO 108 5 RX6 TX6 1 [some 109] := gO_X6 rfl
theorem ar_109 : gAr 109 10 := rfl
theorem ob_110 : gO 110 5 RX6 TX6 1 [some 111] := gO_X6 rfl
theorem ar_111 : gAr 111 200 := rfl
theorem ob_112 : gO 112 2 RX2 TX2 4 [none, none, none, some 113] := gO_X2 rfl
theorem ob_113 : gO 113 5 RX6 TX6 1 [some 114] := gO_X6 rfl
theorem ar_114 : gAr 114 140 := rfl
theorem ob_115 : gO 115 6 RX7 TX7 5 [some 116, some 118, some 135, some 138, some 140] := gO_X7 rfl
theorem ob_116 : gO 116 5 RX6 TX6 1 [some 117] := gO_X6 rfl
theorem ar_117 : gAr 117 5 := rfl
theorem ob_118 : gO 118 3 RX3 TX3 10 [none, none, some 119, some 121, some 123, some 125, some 127, some 129, some 131, some 133] := gO_X3 rfl
theorem ob_119 : gO 119 5 RX6 TX6 1 [some 120] := gO_X6 rfl
theorem ar_120 : gAr 120 10 := rfl
theorem ob_121 : gO 121 5 RX6 TX6 1 [some 122] := gO_X6 rfl
theorem ar_122 : gAr 122 10 := rfl
theorem ob_123 : gO 123 5 RX6 TX6 1 [some 124] := gO_X6 rfl
theorem ar_124 : gAr 124 10 := rfl
theorem ob_125 : gO 125 5 RX6 TX6 1 [some 126] := gO_X6 rfl
theorem ar_126 : gAr 126 10 := rfl
theorem ob_127 : gO 127 5 RX6 TX6 1 [some 128] := gO_X6 rfl
theorem ar_128 : gAr 128 10 := rfl
theorem ob_129 : gO 129 5 RX6 TX6 1 [some 130] := gO_X6 rfl
theorem ar_130 : gAr 130 10 := rfl
theorem ob_131 : gO 131 5 RX6 TX6 1 [some 132] := gO_X6 rfl
theorem ar_132 : gAr 132 10 := rfl
theorem ob_133 : gO 133 5 RX6 TX6 1 [some 134] := gO_X6 rfl
theorem ar_134 : gAr 134 10 := rfl
theorem ob_135 : gO 135 0 RX0 TX0 4 [none, none, none, some 136] := gO_X0 rfl
theorem ob_136 : gO 136 5 RX6 TX6 1 [some 137] := gO_X6 rfl
theorem ar_137 : gAr 137 10 := rfl
theorem ob_138 : gO 138 5 RX6 TX6 1 [some 139] := gO_X6 rfl
theorem ar_139 : gAr 139 200 := rfl
theorem ob_140 : gO 140 2 RX2 TX2 4 [none, none, none, some 141] := gO_X2 rfl
theorem ob_141 : gO 141 5 RX6 TX6 1 [some 142] := gO_X6 rfl
theorem ar_142 : gAr 142 140 := rfl
theorem ob_143 : gO 143 7 RX8 TX8 2 [none, some 144] := gO_X8 rfl
theorem ob_144 : gO 144 5 RX6 TX6 1 [some 145] := gO_X6 rfl
theorem ar_145 : gAr 145 60 := rfl
theorem ob_146 : gO 146 4 RX5 TX5 12 [none, none, none, none, none, none, none, none, none, none, some 147, some 149] := gO_X5 rfl
theorem ob_147 : gO 147 5 RX6 TX6 1 [some 148] := gO_X6 rfl
theorem ar_148 : gAr 148 10 := rfl
theorem ob_149 : gO 149 5 RX6 TX6 1 [some 150] := gO_X6 rfl
theorem ar_150 : gAr 150 10 := rfl
theorem ob_151 : gO 151 0 RX0 TX0 4 [none, none, none, some 152] := gO_X0 rfl
theorem ob_152 : gO 152 5 RX6 TX6 1 [some 153] := gO_X6 rfl
theorem ar_153 : gAr 153 10 := rfl
theorem ob_154 : gO 154 9 RX10 TX10 21 [some 155, some 156, none, none, some 157, none, some 158, none, none, none, some 159, none, none, some 160, none, none, none, none, none, none, none] := gO_X10 rfl
theorem ar_155 : gAr 155 520 := rfl
theorem ar_156 : gAr 156 2080 := rfl
theorem ar_157 : gAr 157 10 := rfl
theorem ar_158 : gAr 158 60 := rfl
theorem ar_159 : gAr 159 60 := rfl
theorem ar_160 : gAr 160 10 := rfl
end
section
/-! pure: MIX, lots, sets of members as ints -/
def cpy (n : Nat) (f g : Nat → Int32) : Nat → Int32 := fun j => if j < n then f j else g j
theorem cpy_eq (n : Nat) (f g : Nat → Int32) : va_cpy f g 0 0 n = cpy n f g := by
  funext j
  unfold va_cpy cpy
  by_cases h : j < n
  · rw [if_pos h, if_pos ⟨Nat.zero_le _, by omega⟩, show 0 + (j - 0) = j by omega]
  · rw [if_neg h, if_neg (by omega)]
def mixI (x : Int32) : Int32 := ((x * 1103515245 + 12345) ^^^ g_ushr (x * 1103515245 + 12345) (nI 15)) * 1103515245 + 12345
def lotI (s m : Int32) : Int32 := if 0 < m then g_ushr s (nI 16) - g_ushr s (nI 16) / m * m else 0
/-- member m is in the set -/
abbrev hs (set : Int32) (m : Nat) : Prop := (set >>> (nI m &&& 31)) &&& nI 1 = nI 1

section
def rm_X4_mixed : Room := { frames := 0, cells := 0, slots := 0, locals := 0 }
theorem iX4_mixed : gIs yX4_mixed cX4_mixed 2 (some .int) 1 := ⟨⟨wd_435, wd_35, by decide +kernel, by decide +kernel, by decide +kernel⟩, wd_434⟩
set_option maxRecDepth 100000 in
set_option maxHeartbeats 4000000 in
theorem c_X4_mixed (l : Launch) (G : gG) (mem : gM) (x : Int32) : gMet l yX4_mixed cX4_mixed 2 (some .int) rm_X4_mixed G [.int x] mem (fun a u => a = some (.int (mixI x)) ∧ u = mem) := by
  refine g_of (own := RX4) (L0 := [(0, .int x)]) (by decide +kernel) rfl (Nat.le_of_ble_eq_true rfl) rfl ?_
  intro p e s m args below meth c C Q hQ
  refine g_iload_n C 0 dX4_mixed_0 rfl ?_
  refine g_ldc C wd_436 dX4_mixed_1 ?_
  refine g_imul C dX4_mixed_3 ?_
  refine g_sipush C (nI 12345) dX4_mixed_4 (by decide) ?_
  refine g_iadd C dX4_mixed_7 ?_
  refine g_istore_n C (L2 := [(1, .int ((x * (1103515245 : Int32)) + (nI 12345))), (0, .int x)]) dX4_mixed_8 (by decide) rfl ?_
  refine g_iload_n C 0 dX4_mixed_9 rfl ?_
  refine g_iload_n C 0 dX4_mixed_10 rfl ?_
  refine g_bipush C (nI 15) dX4_mixed_11 (by decide) ?_
  refine g_iushr C dX4_mixed_13 ?_
  refine g_ixor C dX4_mixed_14 ?_
  refine g_ldc C wd_436 dX4_mixed_15 ?_
  refine g_imul C dX4_mixed_17 ?_
  refine g_sipush C (nI 12345) dX4_mixed_18 (by decide) ?_
  refine g_iadd C dX4_mixed_21 ?_
  refine g_iret C hQ rfl dX4_mixed_22 ?_
  exact ⟨rfl, rfl⟩
end

def rm_X4_lot : Room := { frames := 0, cells := 0, slots := 0, locals := 0 }
theorem iX4_lot : gIs yX4_lot cX4_lot 2 (some .int) 2 := ⟨⟨wd_481, wd_35, by decide +kernel, by decide +kernel, by decide +kernel⟩, wd_480⟩
set_option maxRecDepth 100000 in
set_option maxHeartbeats 4000000 in
theorem c_X4_lot (l : Launch) (G : gG) (mem : gM) (x y : Int32) : gMet l yX4_lot cX4_lot 2 (some .int) rm_X4_lot G [.int x, .int y] mem (fun a u => a = some (.int (lotI x y)) ∧ u = mem) := by
  refine g_of (own := RX4) (L0 := [(0, .int x), (1, .int y)]) (by decide +kernel) rfl (Nat.le_of_ble_eq_true rfl) rfl ?_
  intro p e s m args below meth c C Q hQ
  refine g_iload_n C 1 dX4_lot_0 rfl ?_
  refine g_if_le C 13 dX4_lot_1 (by decide) (fun c_1 => ?_) (fun c_1 => ?_)
  · refine g_iconst C (nI 0) dX4_lot_13 (by decide) ?_
    refine g_iret C hQ rfl dX4_lot_14 ?_
    first | exact ⟨by rw [lotI, if_pos c_1], rfl⟩ | exact ⟨by rw [lotI, if_neg (Int32.not_lt.mpr c_1)]; rfl, rfl⟩
  · have c_1 : 0 < y := Int32.not_le.mp c_1
    refine g_iload_n C 0 dX4_lot_4 rfl ?_
    refine g_bipush C (nI 16) dX4_lot_5 (by decide) ?_
    refine g_iushr C dX4_lot_7 ?_
    refine g_iload_n C 1 dX4_lot_8 rfl ?_
    refine g_irem C (fun q => absurd c_1 (by rw [q]; decide)) dX4_lot_9 ?_
    refine g_goto C 14 dX4_lot_10 (by decide) ?_
    refine g_iret C hQ rfl dX4_lot_14 ?_
    first | exact ⟨by rw [lotI, if_pos c_1], rfl⟩ | exact ⟨by rw [lotI, if_neg (Int32.not_lt.mpr c_1)]; rfl, rfl⟩

def rm_X4_has : Room := { frames := 0, cells := 0, slots := 0, locals := 0 }
theorem iX4_has : gIs yX4_has cX4_has 2 (some .boolean) 2 := ⟨⟨wd_396, wd_35, by decide +kernel, by decide +kernel, by decide +kernel⟩, wd_395⟩
set_option maxRecDepth 100000 in
set_option maxHeartbeats 4000000 in
theorem c_X4_has (l : Launch) (G : gG) (mem : gM) (x : Int32) (m1 : Nat) : gMet l yX4_has cX4_has 2 (some .boolean) rm_X4_has G [.int x, .int (nI m1)] mem (fun a u => a = some (.int (b2i (hs x m1))) ∧ u = mem) := by
  refine g_of (own := RX4) (L0 := [(0, .int x), (1, .int (nI m1))]) (by decide +kernel) rfl (Nat.le_of_ble_eq_true rfl) rfl ?_
  intro p e s m args below meth c C Q hQ
  refine g_iload_n C 0 dX4_has_0 rfl ?_
  refine g_iload_n C 1 dX4_has_1 rfl ?_
  refine g_ishr C dX4_has_2 ?_
  refine g_iconst C (nI 1) dX4_has_3 (by decide) ?_
  refine g_iand C dX4_has_4 ?_
  refine g_iconst C (nI 1) dX4_has_5 (by decide) ?_
  refine g_icmp_ne C 13 dX4_has_6 (by decide) (fun c_6 => ?_) (fun c_6 => ?_)
  · refine g_iconst C (nI 0) dX4_has_13 (by decide) ?_
    refine g_zret C hQ rfl (Or.inl rfl) dX4_has_14 ?_
    first | exact ⟨by rw [b2i_t c_6]; rfl, rfl⟩ | exact ⟨by rw [b2i_f c_6]; rfl, rfl⟩
  · refine g_iconst C (nI 1) dX4_has_9 (by decide) ?_
    refine g_goto C 14 dX4_has_10 (by decide) ?_
    refine g_zret C hQ rfl (Or.inr rfl) dX4_has_14 ?_
    first | exact ⟨by rw [b2i_t c_6]; rfl, rfl⟩ | exact ⟨by rw [b2i_f c_6]; rfl, rfl⟩

def rm_X6_at : Room := { frames := 0, cells := 0, slots := 0, locals := 0 }
theorem iX6_at : gIv yX6_at cX6_at 2 (some .int) 1 := ⟨⟨wd_384, wd_25, by decide +kernel, by decide +kernel, by decide +kernel⟩, wd_382, wd_383⟩
set_option maxRecDepth 100000 in
set_option maxHeartbeats 4000000 in
theorem c_X6_at (l : Launch) (G : gG) (mem : gM) {k n : Nat} (hk : gO k 5 RX6 TX6 1 [some (k + 1)]) (hn : gAr (k + 1) n) (h31 : n < 2 ^ 31) {j : Nat} (hj : j < n) : gMet l yX6_at cX6_at 2 (some .int) rm_X6_at G [.ref (gad G k), .int (nI j)] mem (fun a u => a = some (.int (mem (k + 1) j)) ∧ u = mem) := by
  refine g_of (own := RX6) (L0 := [(0, .ref (gad G k)), (1, .int (nI j))]) (by decide +kernel) rfl (Nat.le_of_ble_eq_true rfl) rfl ?_
  intro p e s m args below meth c C Q hQ
  refine g_iload_n C 1 dX6_at_0 rfl ?_
  refine g_if_lt_f C 22 (nI_pos (by omega)) dX6_at_1 (by decide) ?_
  refine g_iload_n C 1 dX6_at_4 rfl ?_
  refine g_aload_n C 0 dX6_at_5 rfl ?_
  refine g_get_r C hk 0 (by decide) rfl wd_57 dX6_at_6 ?_
  refine g_alen C hn dX6_at_9 ?_
  refine g_icmp_ge_f C 22 (nI_ge hj h31) dX6_at_10 (by decide) ?_
  refine g_aload_n C 0 dX6_at_13 rfl ?_
  refine g_get_r C hk 0 (by decide) rfl wd_57 dX6_at_14 ?_
  refine g_iload_n C 1 dX6_at_17 rfl ?_
  refine g_iald_n C (j := j) hn rfl (hj) h31 dX6_at_18 ?_
  refine g_goto C 23 dX6_at_19 (by decide) ?_
  refine g_iret C hQ rfl dX6_at_23 ?_
  exact ⟨rfl, rfl⟩

def rm_X6_put : Room := { frames := 0, cells := 0, slots := 0, locals := 0 }
theorem iX6_put : gIv yX6_put cX6_put 3 none 2 := ⟨⟨wd_175, wd_25, by decide +kernel, by decide +kernel, by decide +kernel⟩, wd_173, wd_174⟩
set_option maxRecDepth 100000 in
set_option maxHeartbeats 4000000 in
theorem c_X6_put (l : Launch) (G : gG) (mem : gM) {k n : Nat} (hk : gO k 5 RX6 TX6 1 [some (k + 1)]) (hn : gAr (k + 1) n) (h31 : n < 2 ^ 31) {j : Nat} (hj : j < n) (v : Int32) : gMet l yX6_put cX6_put 3 none rm_X6_put G [.ref (gad G k), .int (nI j), .int v] mem (fun a u => a = none ∧ u = gr mem (k + 1) (upd (mem (k + 1)) j v)) := by
  refine g_of (own := RX6) (L0 := [(0, .ref (gad G k)), (1, .int (nI j)), (2, .int v)]) (by decide +kernel) rfl (Nat.le_of_ble_eq_true rfl) rfl ?_
  intro p e s m args below meth c C Q hQ
  refine g_iload_n C 1 dX6_put_0 rfl ?_
  refine g_if_lt_f C 20 (nI_pos (by omega)) dX6_put_1 (by decide) ?_
  refine g_iload_n C 1 dX6_put_4 rfl ?_
  refine g_aload_n C 0 dX6_put_5 rfl ?_
  refine g_get_r C hk 0 (by decide) rfl wd_57 dX6_put_6 ?_
  refine g_alen C hn dX6_put_9 ?_
  refine g_icmp_ge_f C 20 (nI_ge hj h31) dX6_put_10 (by decide) ?_
  refine g_aload_n C 0 dX6_put_13 rfl ?_
  refine g_get_r C hk 0 (by decide) rfl wd_57 dX6_put_14 ?_
  refine g_iload_n C 1 dX6_put_17 rfl ?_
  refine g_iload_n C 2 dX6_put_18 rfl ?_
  refine g_iast_n C (j := j) hn rfl (hj) h31 dX6_put_19 ?_
  refine g_vret C hQ rfl dX6_put_20 ?_
  exact ⟨rfl, rfl⟩

def rm_X6_add : Room := { frames := 1, cells := 0, slots := 0, locals := 22 }
theorem iX6_add : gIv yX6_add cX6_add 3 none 2 := ⟨⟨wd_494, wd_25, by decide +kernel, by decide +kernel, by decide +kernel⟩, wd_492, wd_493⟩
set_option maxRecDepth 100000 in
set_option maxHeartbeats 4000000 in
theorem c_X6_add (l : Launch) (G : gG) (mem : gM) {k n : Nat} (hk : gO k 5 RX6 TX6 1 [some (k + 1)]) (hn : gAr (k + 1) n) (h31 : n < 2 ^ 31) {j : Nat} (hj : j < n) (v : Int32) : gMet l yX6_add cX6_add 3 none rm_X6_add G [.ref (gad G k), .int (nI j), .int v] mem (fun a u => a = none ∧ u = gr mem (k + 1) (upd (mem (k + 1)) j (mem (k + 1) j + v))) := by
  refine g_of (own := RX6) (L0 := [(0, .ref (gad G k)), (1, .int (nI j)), (2, .int v)]) (by decide +kernel) rfl (Nat.le_of_ble_eq_true rfl) rfl ?_
  intro p e s m args below meth c C Q hQ
  refine g_aload_n C 0 dX6_add_0 rfl ?_
  refine g_iload_n C 1 dX6_add_1 rfl ?_
  refine g_aload_n C 0 dX6_add_2 rfl ?_
  refine g_iload_n C 1 dX6_add_3 rfl ?_
  refine g_cV1 C (As := [.int (nI j)]) (w := .int (mem (k + 1) j)) (mem3 := mem) iX6_at (c_X6_at l G mem hk hn h31 (by omega)) wd_381 hk rfl ⟨Nat.le_of_ble_eq_true rfl, Nat.le_of_ble_eq_true rfl⟩ ⟨rfl, rfl⟩ rfl (Nat.le_of_ble_eq_true rfl) dX6_add_4 (rfl) (rfl) ?_
  refine g_iload_n C 2 dX6_add_7 rfl ?_
  refine g_iadd C dX6_add_8 ?_
  refine g_cV0 C (As := [.int (nI j), .int ((mem (k + 1) j) + v)]) (mem3 := gr mem (k + 1) (upd (mem (k + 1)) j ((mem (k + 1) j) + v))) iX6_put (c_X6_put l G mem hk hn h31 (by omega) ((mem (k + 1) j) + v)) wd_385 hk rfl ⟨Nat.le_of_ble_eq_true rfl, Nat.le_of_ble_eq_true rfl⟩ ⟨rfl, rfl⟩ rfl (Nat.le_of_ble_eq_true rfl) dX6_add_9 (rfl) ?_
  refine g_vret C hQ rfl dX6_add_12 ?_
  exact ⟨rfl, rfl⟩

def rm_X6_swap : Room := { frames := 1, cells := 0, slots := 0, locals := 22 }
theorem iX6_swap : gIv yX6_swap cX6_swap 4 (some .int) 2 := ⟨⟨wd_380, wd_25, by decide +kernel, by decide +kernel, by decide +kernel⟩, wd_378, wd_379⟩
set_option maxRecDepth 100000 in
set_option maxHeartbeats 4000000 in
theorem c_X6_swap (l : Launch) (G : gG) (mem : gM) {k n : Nat} (hk : gO k 5 RX6 TX6 1 [some (k + 1)]) (hn : gAr (k + 1) n) (h31 : n < 2 ^ 31) {j : Nat} (hj : j < n) (v : Int32) : gMet l yX6_swap cX6_swap 4 (some .int) rm_X6_swap G [.ref (gad G k), .int (nI j), .int v] mem (fun a u => a = some (.int (mem (k + 1) j)) ∧ u = gr mem (k + 1) (upd (mem (k + 1)) j v)) := by
  refine g_of (own := RX6) (L0 := [(0, .ref (gad G k)), (1, .int (nI j)), (2, .int v)]) (by decide +kernel) rfl (Nat.le_of_ble_eq_true rfl) rfl ?_
  intro p e s m args below meth c C Q hQ
  refine g_aload_n C 0 dX6_swap_0 rfl ?_
  refine g_iload_n C 1 dX6_swap_1 rfl ?_
  refine g_cV1 C (As := [.int (nI j)]) (w := .int (mem (k + 1) j)) (mem3 := mem) iX6_at (c_X6_at l G mem hk hn h31 (by omega)) wd_381 hk rfl ⟨Nat.le_of_ble_eq_true rfl, Nat.le_of_ble_eq_true rfl⟩ ⟨rfl, rfl⟩ rfl (Nat.le_of_ble_eq_true rfl) dX6_swap_2 (rfl) (rfl) ?_
  refine g_istore_n C (L2 := [(3, .int (mem (k + 1) j)), (0, .ref (gad G k)), (1, .int (nI j)), (2, .int v)]) dX6_swap_5 (by decide) rfl ?_
  refine g_aload_n C 1 dX6_swap_6 rfl ?_
  refine g_iload_n C 2 dX6_swap_7 rfl ?_
  refine g_iload_n C 3 dX6_swap_8 rfl ?_
  refine g_cV0 C (As := [.int (nI j), .int v]) (mem3 := gr mem (k + 1) (upd (mem (k + 1)) j v)) iX6_put (c_X6_put l G mem hk hn h31 (by omega) v) wd_385 hk rfl ⟨Nat.le_of_ble_eq_true rfl, Nat.le_of_ble_eq_true rfl⟩ ⟨rfl, rfl⟩ rfl (Nat.le_of_ble_eq_true rfl) dX6_swap_9 (rfl) ?_
  refine g_iload_n C 0 dX6_swap_12 rfl ?_
  refine g_iret C hQ rfl dX6_swap_13 ?_
  exact ⟨rfl, rfl⟩

def rm_X6_copy : Room := { frames := 1, cells := 0, slots := 0, locals := 40 }
theorem iX6_copy : gIv yX6_copy cX6_copy 3 none 1 := ⟨⟨wd_342, wd_25, by decide +kernel, by decide +kernel, by decide +kernel⟩, wd_340, wd_341⟩
set_option maxRecDepth 100000 in
set_option maxHeartbeats 4000000 in
theorem c_X6_copy (l : Launch) (G : gG) (mem : gM) {k k2 n : Nat} (hk : gO k 5 RX6 TX6 1 [some (k + 1)]) (hn : gAr (k + 1) n) (hk2 : gO k2 5 RX6 TX6 1 [some (k2 + 1)]) (hn2 : gAr (k2 + 1) n) (h31 : n < 2 ^ 31) : gMet l yX6_copy cX6_copy 3 none rm_X6_copy G [.ref (gad G k), .ref (gad G k2)] mem (fun a u => a = none ∧ u = gr mem (k + 1) (cpy n (mem (k2 + 1)) (mem (k + 1)))) := by
  refine g_of (own := RX6) (L0 := [(0, .ref (gad G k)), (1, .ref (gad G k2))]) (by decide +kernel) rfl (Nat.le_of_ble_eq_true rfl) rfl ?_
  intro p e s m args below meth c C Q hQ
  refine g_aload_n C 0 dX6_copy_0 rfl ?_
  refine g_get_r C hk 0 (by decide) rfl wd_57 dX6_copy_1 ?_
  refine g_alen C hn dX6_copy_4 ?_
  refine g_aload_n C 1 dX6_copy_5 rfl ?_
  refine g_get_r C hk2 0 (by decide) rfl wd_57 dX6_copy_6 ?_
  refine g_alen C hn2 dX6_copy_9 ?_
  refine g_mmin C wd_343 wd_344 wd_33 wd_345 (by decide) (Nat.le_of_ble_eq_true rfl) dX6_copy_10 ?_
  refine g_top (y := nI n) (if_neg (fun q => absurd (Int32.le_refl _) (Int32.not_le.mpr q))) ?_
  refine g_istore_n C (L2 := [(2, .int (nI n)), (0, .ref (gad G k)), (1, .ref (gad G k2))]) dX6_copy_13 (by decide) rfl ?_
  refine g_aload_n C 2 dX6_copy_14 rfl ?_
  refine g_get_r C hk2 0 (by decide) rfl wd_57 dX6_copy_15 ?_
  refine g_iconst C (nI 0) dX6_copy_18 (by decide) ?_
  refine g_aload_n C 1 dX6_copy_19 rfl ?_
  refine g_get_r C hk 0 (by decide) rfl wd_57 dX6_copy_20 ?_
  refine g_iconst C (nI 0) dX6_copy_23 (by decide) ?_
  refine g_iload_n C 0 dX6_copy_24 rfl ?_
  refine g_copy C (N := n) wd_346 wd_348 wd_347 wd_34 hn2 hn (Nat.le_refl _) (Nat.le_refl _) (h31) (by decide) (Nat.le_of_ble_eq_true rfl) dX6_copy_25 ?_
  refine g_vret C hQ rfl dX6_copy_28 ?_
  exact ⟨rfl, by rw [cpy_eq]⟩
end
section
/-! ===== Int32 by its bits: bt x i ===== -/
def bt (x : Int32) (i : Nat) : Bool := x.toBitVec.getLsbD i
theorem b_ext {x y : Int32} (h : ∀ i, i < 32 → bt x i = bt y i) : x = y := Int32.toBitVec_inj.mp (BitVec.eq_of_getLsbD_eq (fun i hi => h i hi))
theorem b_or (x y : Int32) (i : Nat) : bt (x ||| y) i = (bt x i || bt y i) := by unfold bt; rw [Int32.toBitVec_or, BitVec.getLsbD_or]
theorem b_and (x y : Int32) (i : Nat) : bt (x &&& y) i = (bt x i && bt y i) := by unfold bt; rw [Int32.toBitVec_and, BitVec.getLsbD_and]
theorem b_xor (x y : Int32) (i : Nat) : bt (x ^^^ y) i = (bt x i ^^ bt y i) := by unfold bt; rw [Int32.toBitVec_xor, BitVec.getLsbD_xor]
theorem b_big {x : Int32} {i : Nat} (h : 32 ≤ i) : bt x i = false := BitVec.getLsbD_of_ge _ _ h
theorem b_255 (i : Nat) : bt 255 i = decide (i < 8) := by
  rcases Nat.lt_or_ge i 32 with h | h
  · exact (by decide +kernel : ∀ i, i < 32 → bt 255 i = decide (i < 8)) i h
  · rw [b_big h, decide_eq_false (by omega)]
theorem b_65535 (i : Nat) : bt 65535 i = decide (i < 16) := by
  rcases Nat.lt_or_ge i 32 with h | h
  · exact (by decide +kernel : ∀ i, i < 32 → bt 65535 i = decide (i < 16)) i h
  · rw [b_big h, decide_eq_false (by omega)]
theorem b_m1 : ∀ i, i < 32 → bt (-1) i = true := by decide +kernel
theorem b_0 (i : Nat) : bt 0 i = false := BitVec.getLsbD_zero
theorem s_l : ∀ n, n < 32 → ((nI n &&& 31).toBitVec.smod 32).toNat = n := by decide +kernel
theorem s_u : ∀ n, n < 32 → (((nI n).toUInt32 &&& Int32.toUInt32 31).toBitVec % 32).toNat = n := by decide +kernel
theorem b_shl (n : Nat) (hn : n < 32) (x : Int32) {i : Nat} (hi : i < 32) : bt (x <<< (nI n &&& 31)) i = (decide (n ≤ i) && bt x (i - n)) := by
  unfold bt
  rw [Int32.toBitVec_shiftLeft]
  show (x.toBitVec <<< ((nI n &&& 31).toBitVec.smod 32).toNat).getLsbD i = _
  rw [s_l n hn, BitVec.getLsbD_shiftLeft]
  rcases Nat.lt_or_ge i n with h | h
  · simp [h, Nat.not_le.mpr h]
  · simp [hi, h, Nat.not_lt.mpr h]
theorem b_ushr (n : Nat) (hn : n < 32) (x : Int32) (i : Nat) : bt ((x.toUInt32 >>> ((nI n).toUInt32 &&& Int32.toUInt32 31)).toInt32) i = bt x (n + i) := by
  show (x.toUInt32 >>> ((nI n).toUInt32 &&& Int32.toUInt32 31)).toBitVec.getLsbD i = x.toUInt32.toBitVec.getLsbD (n + i)
  rw [UInt32.toBitVec_shiftRight]
  show (x.toUInt32.toBitVec >>> (((nI n).toUInt32 &&& Int32.toUInt32 31).toBitVec % 32).toNat).getLsbD i = _
  rw [s_u n hn, BitVec.getLsbD_ushiftRight]
theorem b_sshr (n : Nat) (hn : n < 32) (x : Int32) {i : Nat} (hi : i < 32) : bt (x >>> (nI n &&& 31)) i = if n + i < 32 then bt x (n + i) else bt x 31 := by
  unfold bt
  rw [Int32.toBitVec_shiftRight]
  show (x.toBitVec.sshiftRight ((nI n &&& 31).toBitVec.smod 32).toNat).getLsbD i = _
  rw [s_l n hn, BitVec.getLsbD_sshiftRight, BitVec.msb_eq_getLsbD_last]
  simp [hi]
theorem b_shl8 (x : Int32) {i : Nat} (hi : i < 32) : bt (x <<< ((8 : Int32) &&& 31)) i = (decide (8 ≤ i) && bt x (i - 8)) := b_shl 8 (by omega) x hi
theorem b_shl16 (x : Int32) {i : Nat} (hi : i < 32) : bt (x <<< ((16 : Int32) &&& 31)) i = (decide (16 ≤ i) && bt x (i - 16)) := b_shl 16 (by omega) x hi
theorem b_shl24 (x : Int32) {i : Nat} (hi : i < 32) : bt (x <<< ((24 : Int32) &&& 31)) i = (decide (24 ≤ i) && bt x (i - 24)) := b_shl 24 (by omega) x hi
theorem b_sshr8 (x : Int32) {i : Nat} (hi : i < 32) : bt (x >>> ((8 : Int32) &&& 31)) i = if 8 + i < 32 then bt x (8 + i) else bt x 31 := b_sshr 8 (by omega) x hi
/-! ===== the first index with a property; a count ===== -/
/-- the first k < n with p k, n if there is none -/
def fa_first (p : Nat → Bool) : Nat → Nat
  | 0 => 0
  | n + 1 => if fa_first p n < n then fa_first p n else if p n then n else n + 1
theorem fa_first_le (p : Nat → Bool) : ∀ n, fa_first p n ≤ n
  | 0 => Nat.le_refl 0
  | n + 1 => by
    have ih := fa_first_le p n
    unfold fa_first
    split
    · omega
    · split
      · omega
      · omega
theorem fa_first_no (p : Nat → Bool) : ∀ n k, k < fa_first p n → p k = false
  | 0, k, h => absurd h (Nat.not_lt_zero k)
  | n + 1, k, h => by
    have ih := fa_first_no p n
    have hl := fa_first_le p n
    unfold fa_first at h
    split at h
    · exact ih k h
    · rename_i h1
      split at h
      · exact ih k (by omega)
      · rename_i h2
        by_cases e : k = n
        · subst e
          exact Bool.eq_false_iff.mpr h2
        · exact ih k (by omega)
theorem fa_first_yes (p : Nat → Bool) : ∀ n, fa_first p n < n → p (fa_first p n) = true
  | 0, h => absurd h (Nat.not_lt_zero _)
  | n + 1, h => by
    have ih := fa_first_yes p n
    have hl := fa_first_le p n
    unfold fa_first at h ⊢
    split at h
    · rename_i h1
      rw [if_pos h1]
      exact ih h1
    · rename_i h1
      rw [if_neg h1]
      split at h
      · rename_i h2
        rw [if_pos h2]
        exact h2
      · omega
/-- how many k < n have p k -/
def fa_cnt (p : Nat → Bool) : Nat → Nat
  | 0 => 0
  | n + 1 => fa_cnt p n + if p n then 1 else 0
theorem fa_cnt_le (p : Nat → Bool) : ∀ n, fa_cnt p n ≤ n
  | 0 => Nat.le_refl 0
  | n + 1 => by
    have ih := fa_cnt_le p n
    unfold fa_cnt
    split
    · omega
    · omega
theorem fa_cnt_yes {p : Nat → Bool} {n : Nat} (h : p n = true) : fa_cnt p (n + 1) = fa_cnt p n + 1 := by rw [fa_cnt, if_pos h]
theorem fa_cnt_no {p : Nat → Bool} {n : Nat} (h : p n = false) : fa_cnt p (n + 1) = fa_cnt p n := by rw [fa_cnt, if_neg (by rw [h]; decide)]; rfl
theorem fa_cnt_cong {p q : Nat → Bool} : ∀ {n : Nat}, (∀ k, k < n → p k = q k) → fa_cnt p n = fa_cnt q n
  | 0, _ => rfl
  | n + 1, h => by rw [fa_cnt, fa_cnt, fa_cnt_cong (fun k hk => h k (Nat.lt_succ_of_lt hk)), h n (Nat.lt_succ_self n)]
theorem fb_holes : ∀ (m n : Nat) (f : Nat → Nat), (∀ i, i < n → f i < m) → (∀ i j, i < j → j < n → f i ≠ f j) → n ≤ m := by
  intro m
  induction m with
  | zero =>
    intro n f h1 _
    rcases Nat.eq_zero_or_pos n with h | h
    · omega
    · exact absurd (h1 0 h) (Nat.not_lt_zero _)
  | succ m ih =>
    intro n f h1 h2
    by_cases hx : ∃ i, i < n ∧ f i = m
    · obtain ⟨a, ha, hfa⟩ := hx
      have hg := ih (n - 1) (fun i => if i < a then f i else f (i + 1)) (by
        intro i hi
        by_cases q : i < a
        · simp only [if_pos q]
          have b1 := h1 i (by omega)
          have b2 := h2 i a q ha
          omega
        · simp only [if_neg q]
          have b1 := h1 (i + 1) (by omega)
          have b2 := h2 a (i + 1) (by omega) (by omega)
          omega) (by
        intro i j hij hj
        by_cases q : i < a
        · by_cases r : j < a
          · simp only [if_pos q, if_pos r]
            exact h2 i j hij (by omega)
          · simp only [if_pos q, if_neg r]
            exact h2 i (j + 1) (by omega) (by omega)
        · have r : ¬ j < a := by omega
          simp only [if_neg q, if_neg r]
          exact h2 (i + 1) (j + 1) (by omega) (by omega))
      omega
    · have hg := ih n f (fun i hi => by
        have b1 := h1 i hi
        have b2 : f i ≠ m := fun e => hx ⟨i, hi, e⟩
        omega) h2
      omega
/-! sets of members as ints -/
abbrev kNone : Int32 := (-1000009 : Int32)
def bit (m : Nat) : Int32 := nI 1 <<< (nI m &&& 31)
theorem b_1 : ∀ i, i < 32 → bt (nI 1) i = decide (i = 0) := by decide +kernel
theorem bt_bit {m i : Nat} (hm : m < 32) (hi : i < 32) : bt (bit m) i = decide (i = m) := by
  unfold bit
  rw [b_shl m hm _ hi]
  by_cases h : m ≤ i
  · rw [b_1 _ (by omega), decide_eq_true h, Bool.true_and]
    apply decide_eq_decide.mpr
    omega
  · rw [decide_eq_false h, Bool.false_and, decide_eq_false (by omega)]
theorem and_1 (x : Int32) : x &&& nI 1 = if bt x 0 = true then nI 1 else nI 0 := by
  apply b_ext
  intro i hi
  rw [b_and, b_1 i hi]
  by_cases h0 : i = 0
  · subst h0
    cases h : bt x 0 <;> simp <;> decide
  · rw [decide_eq_false h0, Bool.and_false]
    split
    · rw [b_1 i hi, decide_eq_false h0]
    · exact (b_0 i).symm
theorem bt_shr {x : Int32} {m : Nat} (hm : m < 32) : bt (x >>> (nI m &&& 31)) 0 = bt x m := by
  rw [b_sshr m hm x (by omega), Nat.add_zero, if_pos hm]
theorem hs_bt {x : Int32} {m : Nat} (hm : m < 32) : hs x m ↔ bt x m = true := by
  unfold hs
  rw [and_1, bt_shr hm]
  split
  · rename_i h; exact ⟨fun _ => h, fun _ => rfl⟩
  · rename_i h; exact ⟨fun q => absurd q (by decide), fun q => absurd q h⟩
theorem nhs_bt {x : Int32} {m : Nat} (hm : m < 32) : ¬ hs x m ↔ bt x m = false := by rw [hs_bt hm, Bool.not_eq_true]
theorem sh1_eq {x : Int32} {m : Nat} (hm : m < 32) : (x >>> (nI m &&& 31)) &&& nI 1 = if bt x m = true then nI 1 else nI 0 := by rw [and_1, bt_shr hm]
def mk (p : Nat → Bool) : Nat → Int32
  | 0 => nI 0
  | m + 1 => if p m = true then mk p m ||| bit m else mk p m
theorem mk_t {p : Nat → Bool} {m : Nat} (h : p m = true) : mk p (m + 1) = mk p m ||| bit m := by rw [mk, if_pos h]
theorem mk_f {p : Nat → Bool} {m : Nat} (h : p m = false) : mk p (m + 1) = mk p m := by rw [mk, if_neg (by rw [h]; decide)]
theorem bt_mk (p : Nat → Bool) : ∀ n, n ≤ 32 → ∀ i, i < 32 → bt (mk p n) i = (decide (i < n) && p i)
  | 0, _, i, _ => by rw [mk, decide_eq_false (Nat.not_lt_zero i), Bool.false_and]; exact b_0 i
  | n + 1, h, i, hi => by
    have ih := bt_mk p n (by omega) i hi
    unfold mk
    by_cases hp : p n = true
    · rw [if_pos hp, b_or, ih, bt_bit (by omega) hi]
      by_cases e : i = n
      · subst e; simp [hp]
      · rw [decide_eq_false e, Bool.or_false]
        congr 1
        apply decide_eq_decide.mpr
        omega
    · rw [if_neg hp, ih]
      by_cases e : i = n
      · subst e
        rw [decide_eq_false (Nat.lt_irrefl i), Bool.false_and]
        simp only [Bool.not_eq_true] at hp
        rw [hp, Bool.and_false]
      · congr 1
        apply decide_eq_decide.mpr
        omega
theorem mk_ext {x : Int32} {p : Nat → Bool} {n : Nat} (hn : n ≤ 32) (h : ∀ i, i < 32 → bt x i = (decide (i < n) && p i)) : x = mk p n := b_ext fun i hi => (h i hi).trans (bt_mk p n hn i hi).symm
theorem mk_cong {p q : Nat → Bool} : ∀ {n : Nat}, (∀ i, i < n → p i = q i) → mk p n = mk q n
  | 0, _ => rfl
  | n + 1, h => by unfold mk; rw [mk_cong (fun i hi => h i (Nat.lt_succ_of_lt hi)), h n (Nat.lt_succ_self n)]
theorem mk_and {p q : Nat → Bool} {n : Nat} (hn : n ≤ 32) : mk p n &&& mk q n = mk (fun i => p i && q i) n := mk_ext hn fun i hi => by
  rw [b_and, bt_mk p n hn i hi, bt_mk q n hn i hi]
  cases decide (i < n) <;> simp
theorem bt_not (x : Int32) {i : Nat} (hi : i < 32) : bt (x ^^^ (-1)) i = !bt x i := by rw [b_xor, b_m1 i hi]; simp
theorem mk_andn {p q : Nat → Bool} {n : Nat} (hn : n ≤ 32) : mk p n &&& (mk q n ^^^ (-1)) = mk (fun i => p i && !q i) n := mk_ext hn fun i hi => by
  rw [b_and, bt_not _ hi, bt_mk p n hn i hi, bt_mk q n hn i hi]
  cases decide (i < n) <;> simp
theorem mk_wide {p : Nat → Bool} {n k : Nat} (h : n ≤ k) (hk : k ≤ 32) : mk p n = mk (fun i => decide (i < n) && p i) k := mk_ext hk fun i hi => by
  rw [bt_mk p n (by omega) i hi]
  by_cases e : i < n
  · rw [decide_eq_true e, decide_eq_true (Nat.lt_of_lt_of_le e h)]; simp
  · rw [decide_eq_false e]; simp
theorem mk_hs {p : Nat → Bool} {n m : Nat} (hn : n ≤ 32) (hm : m < n) : hs (mk p n) m ↔ p m = true := by
  rw [hs_bt (by omega), bt_mk p n hn m (by omega), decide_eq_true hm, Bool.true_and]
theorem mk_hs_out {p : Nat → Bool} {n m : Nat} (hn : n ≤ 32) (hm : m < 32) (h : n ≤ m) : ¬ hs (mk p n) m := by
  rw [nhs_bt hm, bt_mk p n hn m hm, decide_eq_false (by omega), Bool.false_and]
theorem hs_or {x : Int32} {k m : Nat} (hk : k < 32) (hm : m < 32) : hs (x ||| bit k) m ↔ (hs x m ∨ m = k) := by
  rw [hs_bt hm, hs_bt hm, b_or, bt_bit hk hm]
  simp
theorem mk_0 {p : Nat → Bool} {n : Nat} (hn : n ≤ 32) : mk p n = 0 ↔ ∀ i, i < n → p i = false := by
  constructor
  · intro h i hi
    have := bt_mk p n hn i (by omega)
    rw [h, b_0, decide_eq_true hi, Bool.true_and] at this
    exact this.symm
  · intro h
    rw [mk_cong h]
    clear h
    induction n with
    | zero => rfl
    | succ n ih => unfold mk; exact ih (by omega)
/-! bitCount -/
def bcI (x : Int32) : Int32 :=
  let a := x - (g_ushr x (nI 1) &&& (1431655765 : Int32))
  let b := (a &&& (858993459 : Int32)) + (g_ushr a (nI 2) &&& (858993459 : Int32))
  let c := (b + g_ushr b (nI 4)) &&& (252645135 : Int32)
  let d := c + g_ushr c (nI 8)
  let e := d + g_ushr d (nI 16)
  e &&& nI 63
theorem bc_dec : ∀ b0 b1 b2 b3 b4 b5 b6 b7 b8 b9 : Bool, bcI (mk (fun m => ([b0, b1, b2, b3, b4, b5, b6, b7, b8, b9] : List Bool).getD m false) 10) = nI (fa_cnt (fun m => ([b0, b1, b2, b3, b4, b5, b6, b7, b8, b9] : List Bool).getD m false) 10) := by decide +kernel
theorem bc_10 (p : Nat → Bool) : bcI (mk p 10) = nI (fa_cnt p 10) := by
  have h := bc_dec (p 0) (p 1) (p 2) (p 3) (p 4) (p 5) (p 6) (p 7) (p 8) (p 9)
  have e : ∀ i, i < 10 → p i = ([p 0, p 1, p 2, p 3, p 4, p 5, p 6, p 7, p 8, p 9] : List Bool).getD i false := by
    intro i hi
    match i, hi with
    | 0, _ => rfl
    | 1, _ => rfl
    | 2, _ => rfl
    | 3, _ => rfl
    | 4, _ => rfl
    | 5, _ => rfl
    | 6, _ => rfl
    | 7, _ => rfl
    | 8, _ => rfl
    | 9, _ => rfl
    | k + 10, h => omega
  rw [mk_cong e, fa_cnt_cong e]
  exact h
theorem fa_cnt_wide {p : Nat → Bool} {n : Nat} : ∀ {k : Nat}, n ≤ k → fa_cnt (fun i => decide (i < n) && p i) k = fa_cnt p n
  | 0, h => by rw [Nat.le_zero.mp h]; rfl
  | k + 1, h => by
    by_cases e : n = k + 1
    · rw [e]
      exact fa_cnt_cong fun i hi => by rw [decide_eq_true hi, Bool.true_and]
    · rw [fa_cnt_no (by rw [decide_eq_false (by omega), Bool.false_and])]
      exact fa_cnt_wide (by omega)
theorem bc_mk {p : Nat → Bool} {n : Nat} (hn : n ≤ 10) : bcI (mk p n) = nI (fa_cnt p n) := by
  rw [mk_wide hn (by omega), bc_10, fa_cnt_wide hn]
/-! numbers -/
abbrev toN (x : Int32) : Nat := x.toNatClampNeg
theorem toN_nI {n : Nat} (h : n < 2 ^ 31) : toN (nI n) = n := nI_clamp h
theorem nI_toN {x : Int32} (h : 0 ≤ x.toInt) : x = nI (toN x) := by
  apply Int32.toInt_inj.mp
  rw [nI_toInt (Int32.toNatClampNeg_lt x)]
  show x.toInt = ((x.toInt.toNat : Nat) : Int)
  omega
/-- an int within bounds is its number -/
theorem nI_range {x : Int32} {a b : Nat} (ha : a < 2 ^ 31) (hb : b < 2 ^ 31) (h1 : nI a ≤ x) (h2 : x ≤ nI b) : x = nI (toN x) ∧ a ≤ toN x ∧ toN x ≤ b := by
  rw [Int32.le_iff_toInt_le, nI_toInt ha] at h1
  rw [Int32.le_iff_toInt_le, nI_toInt hb] at h2
  refine ⟨nI_toN (by omega), ?_, ?_⟩
  · show a ≤ x.toInt.toNat; omega
  · show x.toInt.toNat ≤ b; omega
theorem nI_iff {a b : Nat} (ha : a < 2 ^ 31) (hb : b < 2 ^ 31) : nI a = nI b ↔ a = b := nI_eq ha hb
def hi16 (s : Int32) : Nat := s.toBitVec.toNat / 65536
theorem hi16_lt (s : Int32) : hi16 s < 65536 := by
  have := s.toBitVec.isLt
  unfold hi16
  omega
theorem ushr16 (s : Int32) : g_ushr s (nI 16) = nI (hi16 s) := by
  have h := pk_ushr s (nI 16) 16 (by decide)
  unfold g_ushr
  apply Int32.toBitVec_inj.mp
  apply BitVec.eq_of_toNat_eq
  rw [h, pk_tn (by have := hi16_lt s; omega)]
  rfl
def lotN (s : Int32) (k : Nat) : Nat := hi16 s % k
theorem lot_n (s : Int32) {k : Nat} (h0 : 0 < k) (h : k < 2 ^ 31) : lotI s (nI k) = nI (lotN s k) := by
  unfold lotI
  have h1 := hi16_lt s
  rw [if_pos (show (0 : Int32) < nI k from nI_lt (a := 0) h0 h), ushr16, pk_rem (by omega) h0 h]
  rfl
theorem lotN_lt (s : Int32) {k : Nat} (h0 : 0 < k) : lotN s k < k := Nat.mod_lt _ h0
/-- the distance of two numbers -/
def dN (a b : Nat) : Nat := if a ≤ b then b - a else a - b
theorem dN_comm (a b : Nat) : dN a b = dN b a := by unfold dN; split <;> split <;> omega
theorem dN_le {a b c : Nat} (ha : a ≤ c) (hb : b ≤ c) : dN a b ≤ c := by unfold dN; split <;> omega
theorem dN_self (a : Nat) : dN a a = 0 := by unfold dN; simp
theorem abs_n {a b : Nat} (ha : a < 2 ^ 30) (hb : b < 2 ^ 30) : (if 0 ≤ nI a - nI b then nI a - nI b else 0 - (nI a - nI b)) = nI (dN a b) := by
  have h := pk_sub_toInt ha hb
  by_cases hab : a < b
  · have hn : ¬ 0 ≤ nI a - nI b := by rw [Int32.le_iff_toInt_le, h, Int32.toInt_zero]; omega
    rw [if_neg hn]
    have : nI a - nI b = - nI (b - a) := by rw [← pk_sub (by omega : a ≤ b)]; exact (Int32.neg_sub ..).symm
    rw [this, Int32.zero_sub, Int32.neg_neg, dN, if_pos (by omega)]
  · have hn : 0 ≤ nI a - nI b := by rw [Int32.le_iff_toInt_le, h, Int32.toInt_zero]; omega
    rw [if_pos hn, pk_sub (by omega), dN]
    by_cases e : a ≤ b
    · rw [if_pos e, show a = b by omega]
    · rw [if_neg e]
/-! a row laid up to n -/
theorem cpy_0 (f g : Nat → Int32) : cpy 0 f g = g := by funext j; unfold cpy; rw [if_neg (Nat.not_lt_zero j)]
theorem cpy_s {i : Nat} {f g : Nat → Int32} {x : Int32} (h : x = f i) : upd (cpy i f g) i x = cpy (i + 1) f g := by
  funext j
  unfold upd cpy
  by_cases e : j = i
  · subst e; rw [if_pos rfl, if_pos (Nat.lt_succ_self j), h]
  · rw [if_neg e]
    by_cases e2 : j < i
    · rw [if_pos e2, if_pos (by omega)]
    · rw [if_neg e2, if_neg (by omega)]
theorem cpy_k {i : Nat} {f g : Nat → Int32} (h : g i = f i) : cpy i f g = cpy (i + 1) f g := by
  funext j
  unfold cpy
  by_cases e : j = i
  · subst e; rw [if_neg (Nat.lt_irrefl j), if_pos (Nat.lt_succ_self j), h]
  · by_cases e2 : j < i
    · rw [if_pos e2, if_pos (by omega)]
    · rw [if_neg e2, if_neg (by omega)]
theorem cpy_in {n j : Nat} {f g : Nat → Int32} (h : j < n) : cpy n f g j = f j := if_pos h
theorem cpy_out {n j : Nat} {f g : Nat → Int32} (h : n ≤ j) : cpy n f g j = g j := if_neg (by omega)
theorem upd_s (f : Nat → Int32) (k : Nat) (x : Int32) : upd f k x k = x := if_pos rfl
theorem upd_n {f : Nat → Int32} {k j : Nat} {x : Int32} (h : j ≠ k) : upd f k x j = f j := if_neg h
theorem upd_upd (f : Nat → Int32) (k : Nat) (x y : Int32) : upd (upd f k x) k y = upd f k y := by
  funext j
  unfold upd
  split <;> rfl
theorem upd_comm (f : Nat → Int32) {i k : Nat} (h : i ≠ k) (x y : Int32) : upd (upd f i x) k y = upd (upd f k y) i x := by
  funext j
  unfold upd
  by_cases h1 : j = k
  · subst h1; rw [if_pos rfl, if_neg (Ne.symm h), if_pos rfl]
  · rw [if_neg h1, if_neg h1]
theorem fa_first_is {p : Nat → Bool} {i : Nat} (h1 : ∀ k, k < i → p k = false) (h2 : p i = true) : ∀ {n : Nat}, i < n → fa_first p n = i := by
  intro n hn
  have e := fa_first_le p n
  rcases Nat.lt_trichotomy (fa_first p n) i with h | h | h
  · have := fa_first_yes p n (by omega)
    rw [h1 _ h] at this
    exact absurd this (by decide)
  · exact h
  · have := fa_first_no p n i h
    rw [h2] at this
    exact absurd this (by decide)
theorem fa_first_all {p : Nat → Bool} {n : Nat} (h : ∀ k, k < n → p k = false) : fa_first p n = n := by
  have e := fa_first_le p n
  by_cases q : fa_first p n < n
  · have := fa_first_yes p n q
    rw [h _ q] at this
    exact absurd this (by decide)
  · omega
/-! the seed, the list -/
def sdF (rev : Int32) (sec : Nat → Int32) (s0 : Int32) : Nat → Int32
  | 0 => s0
  | m + 1 => if hs rev m then mixI (sdF rev sec s0 m ^^^ sec m) else sdF rev sec s0 m
theorem sd_t {rev : Int32} {sec : Nat → Int32} {s0 : Int32} {m : Nat} (h : hs rev m) : sdF rev sec s0 (m + 1) = mixI (sdF rev sec s0 m ^^^ sec m) := by rw [sdF, if_pos h]
theorem sd_f {rev : Int32} {sec : Nat → Int32} {s0 : Int32} {m : Nat} (h : ¬ hs rev m) : sdF rev sec s0 (m + 1) = sdF rev sec s0 m := by rw [sdF, if_neg h]
def wSum (W : Nat → Nat) (ls : Int32) : Nat → Nat
  | 0 => 0
  | m + 1 => if hs ls m then wSum W ls m else wSum W ls m + W m
theorem wS_t {W : Nat → Nat} {ls : Int32} {m : Nat} (h : hs ls m) : wSum W ls (m + 1) = wSum W ls m := by rw [wSum, if_pos h]
theorem wS_f {W : Nat → Nat} {ls : Int32} {m : Nat} (h : ¬ hs ls m) : wSum W ls (m + 1) = wSum W ls m + W m := by rw [wSum, if_neg h]
theorem wS_le {W : Nat → Nat} {ls : Int32} {c : Nat} : ∀ {n : Nat}, (∀ m, m < n → W m ≤ c) → wSum W ls n ≤ n * c
  | 0, _ => Nat.zero_le _
  | n + 1, h => by
    have ih := wS_le (ls := ls) (n := n) fun m hm => h m (Nat.lt_succ_of_lt hm)
    have h1 := h n (Nat.lt_succ_self n)
    rw [Nat.succ_mul]
    unfold wSum
    split <;> omega
theorem wS_mono {W : Nat → Nat} {ls : Int32} {a : Nat} : ∀ {n : Nat}, a ≤ n → wSum W ls a ≤ wSum W ls n
  | 0, h => by rw [Nat.le_zero.mp h]; exact Nat.le_refl _
  | n + 1, h => by
    by_cases e : a = n + 1
    · rw [e]; exact Nat.le_refl _
    · have ih := wS_mono (W := W) (ls := ls) (a := a) (n := n) (by omega)
      by_cases q : hs ls n
      · rw [wS_t q]; exact ih
      · rw [wS_f q]; omega
/-- whom a lot draws -/
def pkP (W : Nat → Nat) (ls : Int32) (lot : Nat) (m : Nat) : Bool := !bt ls m && decide (lot < wSum W ls (m + 1))
def pkM (W : Nat → Nat) (ls : Int32) (lot n : Nat) : Nat := fa_first (pkP W ls lot) n
theorem pkm_no {W : Nat → Nat} {ls : Int32} {lot : Nat} : ∀ {n : Nat}, n ≤ 32 → (∀ k, k < n → pkP W ls lot k = false) → wSum W ls n ≤ lot
  | 0, _, _ => Nat.zero_le _
  | n + 1, hn, h => by
    have ih := pkm_no (n := n) (by omega) fun k hk => h k (Nat.lt_succ_of_lt hk)
    have h1 := h n (Nat.lt_succ_self n)
    by_cases e : hs ls n
    · rw [wS_t e]; exact ih
    · have e2 := (nhs_bt (by omega)).mp e
      unfold pkP at h1
      rw [e2] at h1
      simp only [Bool.not_false, Bool.true_and, decide_eq_false_iff_not] at h1
      omega
theorem pkm_lt {W : Nat → Nat} {ls : Int32} {lot n : Nat} (hn : n ≤ 32) (h : lot < wSum W ls n) : pkM W ls lot n < n ∧ ¬ hs ls (pkM W ls lot n) := by
  have hlt : pkM W ls lot n < n := by
    apply Nat.lt_of_le_of_ne (fa_first_le _ n)
    intro e
    have := pkm_no (W := W) (ls := ls) (lot := lot) hn fun k hk => fa_first_no _ n k (by rw [show fa_first (pkP W ls lot) n = n from e]; exact hk)
    omega
  refine ⟨hlt, ?_⟩
  have := fa_first_yes (pkP W ls lot) n hlt
  rw [nhs_bt (by omega)]
  unfold pkP at this
  simp only [Bool.and_eq_true, Bool.not_eq_true'] at this
  exact this.1
def dSt (seed : Int32) : Nat → Int32
  | 0 => seed
  | k + 1 => mixI (dSt seed k)
def dPk (W : Nat → Nat) (n : Nat) (ls s : Int32) : Nat := pkM W ls (lotN s (wSum W ls n)) n
def dLs (W : Nat → Nat) (n : Nat) (seed : Int32) : Nat → Int32
  | 0 => nI 0
  | k + 1 => dLs W n seed k ||| bit (dPk W n (dLs W n seed k) (dSt seed (k + 1)))
/-- the member at rank k of the list that a seed draws -/
def dM (W : Nat → Nat) (n : Nat) (seed : Int32) (k : Nat) : Nat := dPk W n (dLs W n seed k) (dSt seed (k + 1))
theorem dr_all {W : Nat → Nat} {n : Nat} (hn : n ≤ 32) (hW : ∀ m, m < n → 1 ≤ W m) (seed : Int32) : ∀ k, k ≤ n →
    (∀ j, j < k → dM W n seed j < n) ∧ (∀ m, m < 32 → (hs (dLs W n seed k) m ↔ ∃ j, j < k ∧ dM W n seed j = m)) ∧ (∀ i j, i < j → j < k → dM W n seed i ≠ dM W n seed j) ∧ (k < n → 0 < wSum W (dLs W n seed k) n) := by
  have pos : ∀ k, k < n → (∀ j, j < k → dM W n seed j < n) → (∀ m, m < 32 → (hs (dLs W n seed k) m ↔ ∃ j, j < k ∧ dM W n seed j = m)) → 0 < wSum W (dLs W n seed k) n := by
    intro k hk h1 h2
    by_cases e : ∃ m, m < n ∧ ¬ hs (dLs W n seed k) m
    · obtain ⟨m, hm, hno⟩ := e
      have a := wS_f (W := W) hno
      have b := wS_mono (W := W) (ls := dLs W n seed k) (a := m + 1) (n := n) hm
      have c := hW m hm
      omega
    · exfalso
      have all : ∀ m, m < n → ∃ j, j < k ∧ dM W n seed j = m := fun m hm => (h2 m (by omega)).mp (Classical.not_not.mp fun z => e ⟨m, hm, z⟩)
      have := fb_holes k n (fun m => if h : m < n then (all m h).choose else 0) (fun i hi => by simp only [dif_pos hi]; exact (all i hi).choose_spec.1) (fun i j hij hj => by
        simp only [dif_pos (Nat.lt_trans hij hj), dif_pos hj]
        intro q
        have e1 := (all i (Nat.lt_trans hij hj)).choose_spec.2
        have e2 := (all j hj).choose_spec.2
        rw [q] at e1
        omega)
      omega
  intro k
  induction k with
  | zero =>
    intro _
    have z2 : ∀ m, m < 32 → (hs (dLs W n seed 0) m ↔ ∃ j, j < 0 ∧ dM W n seed j = m) := fun m hm => by
      rw [hs_bt hm]
      show bt (nI 0) m = true ↔ _
      rw [show bt (nI 0) m = false from b_0 m]
      exact ⟨fun q => absurd q (by decide), fun ⟨j, hj, _⟩ => absurd hj (Nat.not_lt_zero j)⟩
    exact ⟨fun j hj => absurd hj (Nat.not_lt_zero j), z2, fun i j _ hj => absurd hj (Nat.not_lt_zero j), fun h => pos 0 h (fun j hj => absurd hj (Nat.not_lt_zero j)) z2⟩
  | succ k ih =>
    intro hk
    obtain ⟨i1, i2, i3, i4⟩ := ih (by omega)
    have hw := i4 (by omega)
    have hp := pkm_lt (W := W) (ls := dLs W n seed k) (lot := lotN (dSt seed (k + 1)) (wSum W (dLs W n seed k) n)) hn (lotN_lt _ hw)
    have hlt : dM W n seed k < n := hp.1
    have hno : ¬ hs (dLs W n seed k) (dM W n seed k) := hp.2
    have c1 : ∀ j, j < k + 1 → dM W n seed j < n := fun j hj => by
      by_cases e : j = k
      · rw [e]; exact hlt
      · exact i1 j (by omega)
    have c2 : ∀ m, m < 32 → (hs (dLs W n seed (k + 1)) m ↔ ∃ j, j < k + 1 ∧ dM W n seed j = m) := fun m hm => by
      show hs (dLs W n seed k ||| bit (dM W n seed k)) m ↔ _
      rw [hs_or (by omega) hm, i2 m hm]
      constructor
      · rintro (⟨j, hj, e⟩ | e)
        · exact ⟨j, by omega, e⟩
        · exact ⟨k, by omega, e.symm⟩
      · rintro ⟨j, hj, e⟩
        by_cases ejk : j = k
        · subst ejk; exact Or.inr e.symm
        · exact Or.inl ⟨j, by omega, e⟩
    refine ⟨c1, c2, fun i j hij hj e => ?_, fun h => pos (k + 1) h c1 c2⟩
    by_cases ejk : j = k
    · subst ejk
      exact hno ((i2 _ (by omega)).mpr ⟨i, hij, e⟩)
    · exact i3 i j hij (by omega) e
end
section
/-! the state that both sides stand for: V, the model's row. Its numbers: -/
abbrev vN (V : Nat → Int32) : Nat := toN (V 5)
abbrev vZ (V : Nat → Int32) : Nat := toN (V 11)
abbrev vL (V : Nat → Int32) (r : Nat) : Nat := toN (V (12 + r))
abbrev vW (V : Nat → Int32) (m : Nat) : Nat := toN (V (30 + 12 * m))
abbrev vP (V : Nat → Int32) (m : Nat) : Nat := toN (V (31 + 12 * m))
abbrev vLv (V : Nat → Int32) (m : Nat) : Bool := decide (V (32 + 12 * m) = nI 1)
abbrev vLo (V : Nat → Int32) (b m : Nat) : Bool := bt (V (150 + b)) m
/-- what holds of V after T calls -/
def Good (T : Nat) (V : Nat → Int32) : Prop :=
  (V 5 = nI (vN V) ∧ vN V ≤ 10) ∧
  (V 0 = nI (toN (V 0)) ∧ 1 ≤ toN (V 0) ∧ toN (V 0) ≤ 1000) ∧
  (V 1 = nI (toN (V 1)) ∧ toN (V 1) ≤ 500) ∧
  (V 2 = nI (toN (V 2)) ∧ 1 ≤ toN (V 2) ∧ toN (V 2) ≤ 10) ∧
  (∀ m, m < vN V → V (30 + 12 * m) = nI (vW V m) ∧ 1 ≤ vW V m ∧ vW V m ≤ 9 ∧ V (31 + 12 * m) = nI (vP V m) ∧ vP V m ≤ 1000 ∧ (V (32 + 12 * m) = nI 0 ∨ V (32 + 12 * m) = nI 1)) ∧
  (V 11 = nI (vZ V) ∧ vZ V ≤ vN V) ∧
  (∀ r, r < vZ V → V (12 + r) = nI (vL V r) ∧ vL V r < vN V ∧ V (34 + 12 * vL V r) = nI r) ∧
  (∀ m, m < vN V → (∀ r, r < vZ V → vL V r ≠ m) → V (34 + 12 * m) = kNone) ∧
  (∀ b, b < 200 → ∀ i, vN V ≤ i → i < 32 → bt (V (150 + b)) i = false) ∧
  (V 7 = nI (toN (V 7)) ∧ toN (V 7) ≤ 200 * T) ∧ (V 8 = nI (toN (V 8)) ∧ V 9 = nI (toN (V 9)) ∧ toN (V 8) + toN (V 9) ≤ 2000 * T)
section GOOD
variable {T : Nat} {V : Nat → Int32}
theorem gd_n (g : Good T V) : V 5 = nI (vN V) := g.1.1
theorem gd_n10 (g : Good T V) : vN V ≤ 10 := g.1.2
theorem gd_wait (g : Good T V) : V 0 = nI (toN (V 0)) ∧ 1 ≤ toN (V 0) ∧ toN (V 0) ≤ 1000 := g.2.1
theorem gd_step (g : Good T V) : V 1 = nI (toN (V 1)) ∧ toN (V 1) ≤ 500 := g.2.2.1
theorem gd_least (g : Good T V) : V 2 = nI (toN (V 2)) ∧ 1 ≤ toN (V 2) ∧ toN (V 2) ≤ 10 := g.2.2.2.1
theorem gd_w (g : Good T V) {m : Nat} (h : m < vN V) : V (30 + 12 * m) = nI (vW V m) ∧ 1 ≤ vW V m ∧ vW V m ≤ 9 := ⟨(g.2.2.2.2.1 m h).1, (g.2.2.2.2.1 m h).2.1, (g.2.2.2.2.1 m h).2.2.1⟩
theorem gd_p (g : Good T V) {m : Nat} (h : m < vN V) : V (31 + 12 * m) = nI (vP V m) ∧ vP V m ≤ 1000 := ⟨(g.2.2.2.2.1 m h).2.2.2.1, (g.2.2.2.2.1 m h).2.2.2.2.1⟩
theorem gd_lv (g : Good T V) {m : Nat} (h : m < vN V) : V (32 + 12 * m) = nI 0 ∨ V (32 + 12 * m) = nI 1 := (g.2.2.2.2.1 m h).2.2.2.2.2
theorem gd_z (g : Good T V) : V 11 = nI (vZ V) ∧ vZ V ≤ vN V := g.2.2.2.2.2.1
theorem gd_l (g : Good T V) {r : Nat} (h : r < vZ V) : V (12 + r) = nI (vL V r) ∧ vL V r < vN V ∧ V (34 + 12 * vL V r) = nI r := g.2.2.2.2.2.2.1 r h
theorem gd_none (g : Good T V) {m : Nat} (h : m < vN V) (h2 : ∀ r, r < vZ V → vL V r ≠ m) : V (34 + 12 * m) = kNone := g.2.2.2.2.2.2.2.1 m h h2
theorem gd_lo (g : Good T V) {b i : Nat} (h : b < 200) (h1 : vN V ≤ i) (h2 : i < 32) : bt (V (150 + b)) i = false := g.2.2.2.2.2.2.2.2.1 b h i h1 h2
theorem gd_made (g : Good T V) : V 7 = nI (toN (V 7)) ∧ toN (V 7) ≤ 200 * T := g.2.2.2.2.2.2.2.2.2.1
theorem gd_asks (g : Good T V) : V 8 = nI (toN (V 8)) ∧ V 9 = nI (toN (V 9)) ∧ toN (V 8) + toN (V 9) ≤ 2000 * T := g.2.2.2.2.2.2.2.2.2.2
theorem gd_lomk (g : Good T V) {b : Nat} (h : b < 200) : V (150 + b) = mk (vLo V b) (vN V) := mk_ext (by have := gd_n10 g; omega) fun i hi => by
  by_cases e : i < vN V
  · rw [decide_eq_true e, Bool.true_and]
  · rw [decide_eq_false e, Bool.false_and]; exact gd_lo g h (by omega) hi
theorem gd_linj (g : Good T V) {r q : Nat} (hr : r < vZ V) (hq : q < vZ V) (h : vL V r = vL V q) : r = q := by
  have h1 := (gd_l g hr).2.2
  have h2 := (gd_l g hq).2.2
  rw [h] at h1
  have n1 := gd_n10 g
  have n2 := (gd_z g).2
  exact (nI_iff (by omega) (by omega)).mp (h1.symm.trans h2)
end GOOD
/-- the class's state with the places from b on stands for V -/
def RelS (b : Nat) (V : Nat → Int32) (mem : gM) : Prop :=
  (∀ k, k < 5 → mem (b + 2) k = V k) ∧ (mem (b + 3) 0 = V 5 ∧ mem (b + 3) 1 = mk (vLv V) (vN V)) ∧
  (∀ m, m < vN V → mem (b + 5) m = V (30 + 12 * m) ∧ mem (b + 7) m = V (31 + 12 * m) ∧ mem (b + 9) m = V (33 + 12 * m) ∧ mem (b + 11) m = V (36 + 12 * m) ∧ mem (b + 13) m = V (37 + 12 * m) ∧ mem (b + 15) m = V (38 + 12 * m) ∧ mem (b + 17) m = V (39 + 12 * m) ∧ mem (b + 19) m = V (40 + 12 * m)) ∧
  (∀ m, vN V ≤ m → m < 10 → mem (b + 9) m = 0 ∧ mem (b + 11) m = 0 ∧ mem (b + 13) m = 0 ∧ mem (b + 15) m = 0 ∧ mem (b + 17) m = 0 ∧ mem (b + 19) m = 0) ∧
  (mem (b + 20) 0 = V 6 ∧ mem (b + 20) 1 = V 10 ∧ mem (b + 20) 2 = V 11) ∧ (∀ r, r < vZ V → mem (b + 22) r = V (12 + r)) ∧
  (∀ q, q < 200 → mem (b + 24) q = V (150 + q)) ∧
  (mem (b + 25) 0 = V 7 ∧ mem (b + 25) 1 = V 8 ∧ mem (b + 25) 2 = V 9) ∧ (∀ j, j < 140 → mem (b + 27) j = V (360 + j))
/-- the part of a memory where a state lies -/
theorem RelS.keep {b : Nat} {V : Nat → Int32} {mem mem2 : gM} (h : RelS b V mem) (e : ∀ k, b ≤ k → k < b + 28 → mem2 k = mem k) : RelS b V mem2 := by
  unfold RelS at h ⊢
  rw [e (b + 2) (by omega) (by omega), e (b + 3) (by omega) (by omega), e (b + 5) (by omega) (by omega), e (b + 7) (by omega) (by omega), e (b + 9) (by omega) (by omega), e (b + 11) (by omega) (by omega), e (b + 13) (by omega) (by omega), e (b + 15) (by omega) (by omega), e (b + 17) (by omega) (by omega), e (b + 19) (by omega) (by omega), e (b + 20) (by omega) (by omega), e (b + 22) (by omega) (by omega), e (b + 24) (by omega) (by omega), e (b + 25) (by omega) (by omega), e (b + 27) (by omega) (by omega)]
  exact h
/-- the class's own state, the one that it works on -/
abbrev Rel (V : Nat → Int32) (mem : gM) : Prop := RelS 1 V mem
theorem r_gr {V : Nat → Int32} {mem : gM} {k : Nat} {f : Nat → Int32} (h : 29 ≤ k) (r : Rel V mem) : Rel V (gr mem k f) := r.keep fun _ _ h2 => gr_n (by omega)
section REL
variable {V : Nat → Int32} {mem : gM}
theorem r_set (r : Rel V mem) {k : Nat} (h : k < 5) : mem 3 k = V k := r.1 k h
theorem r_n {T : Nat} (r : Rel V mem) (g : Good T V) : mem 4 0 = nI (vN V) := r.2.1.1.trans (gd_n g)
theorem r_lv (r : Rel V mem) : mem 4 1 = mk (vLv V) (vN V) := r.2.1.2
theorem r_w (r : Rel V mem) {m : Nat} (h : m < vN V) : mem 6 m = V (30 + 12 * m) := (r.2.2.1 m h).1
theorem r_p (r : Rel V mem) {m : Nat} (h : m < vN V) : mem 8 m = V (31 + 12 * m) := (r.2.2.1 m h).2.1
theorem r_cr (r : Rel V mem) {m : Nat} (h : m < vN V) : mem 10 m = V (33 + 12 * m) := (r.2.2.1 m h).2.2.1
theorem r_mk (r : Rel V mem) {m : Nat} (h : m < vN V) : mem 12 m = V (36 + 12 * m) := (r.2.2.1 m h).2.2.2.1
theorem r_mi (r : Rel V mem) {m : Nat} (h : m < vN V) : mem 14 m = V (37 + 12 * m) := (r.2.2.1 m h).2.2.2.2.1
theorem r_st (r : Rel V mem) {m : Nat} (h : m < vN V) : mem 16 m = V (38 + 12 * m) := (r.2.2.1 m h).2.2.2.2.2.1
theorem r_to (r : Rel V mem) {m : Nat} (h : m < vN V) : mem 18 m = V (39 + 12 * m) := (r.2.2.1 m h).2.2.2.2.2.2.1
theorem r_se (r : Rel V mem) {m : Nat} (h : m < vN V) : mem 20 m = V (40 + 12 * m) := (r.2.2.1 m h).2.2.2.2.2.2.2
theorem r_0 (r : Rel V mem) {m : Nat} (h : vN V ≤ m) (h2 : m < 10) : mem 10 m = 0 ∧ mem 12 m = 0 ∧ mem 14 m = 0 ∧ mem 16 m = 0 ∧ mem 18 m = 0 ∧ mem 20 m = 0 := r.2.2.2.1 m h h2
theorem r_rd (r : Rel V mem) : mem 21 0 = V 6 := r.2.2.2.2.1.1
theorem r_sd (r : Rel V mem) : mem 21 1 = V 10 := r.2.2.2.2.1.2.1
theorem r_z {T : Nat} (r : Rel V mem) (g : Good T V) : mem 21 2 = nI (vZ V) := r.2.2.2.2.1.2.2.trans (gd_z g).1
theorem r_l {T : Nat} (r : Rel V mem) (g : Good T V) {q : Nat} (h : q < vZ V) : mem 23 q = nI (vL V q) := (r.2.2.2.2.2.1 q h).trans (gd_l g h).1
theorem r_lo (r : Rel V mem) {q : Nat} (h : q < 200) : mem 25 q = V (150 + q) := r.2.2.2.2.2.2.1 q h
theorem r_made {T : Nat} (r : Rel V mem) (g : Good T V) : mem 26 0 = nI (toN (V 7)) := r.2.2.2.2.2.2.2.1.1.trans (gd_made g).1
theorem r_ask {T : Nat} (r : Rel V mem) (g : Good T V) : mem 26 1 = nI (toN (V 8)) := r.2.2.2.2.2.2.2.1.2.1.trans (gd_asks g).1
theorem r_sil {T : Nat} (r : Rel V mem) (g : Good T V) : mem 26 2 = nI (toN (V 9)) := r.2.2.2.2.2.2.2.1.2.2.trans (gd_asks g).2.1
theorem r_num (r : Rel V mem) {j : Nat} (h : j < 140) : mem 28 j = V (360 + j) := r.2.2.2.2.2.2.2.2 j h
end REL
end
section
def rm_J6_bitCount_0f7a4 : Room := { frames := 0, cells := 0, slots := 0, locals := 0 }
theorem iJ6_bitCount_0f7a4 : gIs yJ6_bitCount_0f7a4 cJ6_bitCount_0f7a4 1 (some .int) 1 := ⟨⟨wd_462, wd_36, by decide +kernel, by decide +kernel, by decide +kernel⟩, wd_461⟩
set_option maxRecDepth 100000 in
set_option maxHeartbeats 4000000 in
theorem c_bc (l : Launch) (G : gG) (mem : gM) (x : Int32) : gMet l yJ6_bitCount_0f7a4 cJ6_bitCount_0f7a4 1 (some .int) rm_J6_bitCount_0f7a4 G [.int x] mem (fun a u => a = some (.int (bcI x)) ∧ u = mem) := by
  refine g_of (own := RJ6) (L0 := [(0, .int x)]) (by decide +kernel) rfl (Nat.le_of_ble_eq_true rfl) rfl ?_
  intro p e s m args below meth c C Q hQ
  refine g_iload_n C 0 dJ6_bitCount_0f7a4_0 rfl ?_
  refine g_iload_n C 0 dJ6_bitCount_0f7a4_1 rfl ?_
  refine g_iconst C (nI 1) dJ6_bitCount_0f7a4_2 (by decide) ?_
  refine g_iushr C dJ6_bitCount_0f7a4_3 ?_
  refine g_ldcw C wd_463 dJ6_bitCount_0f7a4_4 ?_
  refine g_iand C dJ6_bitCount_0f7a4_7 ?_
  refine g_isub C dJ6_bitCount_0f7a4_8 ?_
  refine g_istore_n C (L2 := [(0, .int (x - ((g_ushr x (nI 1)) &&& (1431655765 : Int32))))]) dJ6_bitCount_0f7a4_9 (by decide) rfl ?_
  refine g_iload_n C 0 dJ6_bitCount_0f7a4_10 rfl ?_
  refine g_ldcw C wd_464 dJ6_bitCount_0f7a4_11 ?_
  refine g_iand C dJ6_bitCount_0f7a4_14 ?_
  refine g_iload_n C 0 dJ6_bitCount_0f7a4_15 rfl ?_
  refine g_iconst C (nI 2) dJ6_bitCount_0f7a4_16 (by decide) ?_
  refine g_iushr C dJ6_bitCount_0f7a4_17 ?_
  refine g_ldcw C wd_464 dJ6_bitCount_0f7a4_18 ?_
  refine g_iand C dJ6_bitCount_0f7a4_21 ?_
  refine g_iadd C dJ6_bitCount_0f7a4_22 ?_
  refine g_istore_n C (L2 := [(0, .int (((x - ((g_ushr x (nI 1)) &&& (1431655765 : Int32))) &&& (858993459 : Int32)) + ((g_ushr (x - ((g_ushr x (nI 1)) &&& (1431655765 : Int32))) (nI 2)) &&& (858993459 : Int32))))]) dJ6_bitCount_0f7a4_23 (by decide) rfl ?_
  refine g_iload_n C 0 dJ6_bitCount_0f7a4_24 rfl ?_
  refine g_iload_n C 0 dJ6_bitCount_0f7a4_25 rfl ?_
  refine g_iconst C (nI 4) dJ6_bitCount_0f7a4_26 (by decide) ?_
  refine g_iushr C dJ6_bitCount_0f7a4_27 ?_
  refine g_iadd C dJ6_bitCount_0f7a4_28 ?_
  refine g_ldcw C wd_465 dJ6_bitCount_0f7a4_29 ?_
  refine g_iand C dJ6_bitCount_0f7a4_32 ?_
  refine g_istore_n C (L2 := [(0, .int (((((x - ((g_ushr x (nI 1)) &&& (1431655765 : Int32))) &&& (858993459 : Int32)) + ((g_ushr (x - ((g_ushr x (nI 1)) &&& (1431655765 : Int32))) (nI 2)) &&& (858993459 : Int32))) + (g_ushr (((x - ((g_ushr x (nI 1)) &&& (1431655765 : Int32))) &&& (858993459 : Int32)) + ((g_ushr (x - ((g_ushr x (nI 1)) &&& (1431655765 : Int32))) (nI 2)) &&& (858993459 : Int32))) (nI 4))) &&& (252645135 : Int32)))]) dJ6_bitCount_0f7a4_33 (by decide) rfl ?_
  refine g_iload_n C 0 dJ6_bitCount_0f7a4_34 rfl ?_
  refine g_iload_n C 0 dJ6_bitCount_0f7a4_35 rfl ?_
  refine g_bipush C (nI 8) dJ6_bitCount_0f7a4_36 (by decide) ?_
  refine g_iushr C dJ6_bitCount_0f7a4_38 ?_
  refine g_iadd C dJ6_bitCount_0f7a4_39 ?_
  refine g_istore_n C (L2 := [(0, .int ((((((x - ((g_ushr x (nI 1)) &&& (1431655765 : Int32))) &&& (858993459 : Int32)) + ((g_ushr (x - ((g_ushr x (nI 1)) &&& (1431655765 : Int32))) (nI 2)) &&& (858993459 : Int32))) + (g_ushr (((x - ((g_ushr x (nI 1)) &&& (1431655765 : Int32))) &&& (858993459 : Int32)) + ((g_ushr (x - ((g_ushr x (nI 1)) &&& (1431655765 : Int32))) (nI 2)) &&& (858993459 : Int32))) (nI 4))) &&& (252645135 : Int32)) + (g_ushr (((((x - ((g_ushr x (nI 1)) &&& (1431655765 : Int32))) &&& (858993459 : Int32)) + ((g_ushr (x - ((g_ushr x (nI 1)) &&& (1431655765 : Int32))) (nI 2)) &&& (858993459 : Int32))) + (g_ushr (((x - ((g_ushr x (nI 1)) &&& (1431655765 : Int32))) &&& (858993459 : Int32)) + ((g_ushr (x - ((g_ushr x (nI 1)) &&& (1431655765 : Int32))) (nI 2)) &&& (858993459 : Int32))) (nI 4))) &&& (252645135 : Int32)) (nI 8))))]) dJ6_bitCount_0f7a4_40 (by decide) rfl ?_
  refine g_iload_n C 0 dJ6_bitCount_0f7a4_41 rfl ?_
  refine g_iload_n C 0 dJ6_bitCount_0f7a4_42 rfl ?_
  refine g_bipush C (nI 16) dJ6_bitCount_0f7a4_43 (by decide) ?_
  refine g_iushr C dJ6_bitCount_0f7a4_45 ?_
  refine g_iadd C dJ6_bitCount_0f7a4_46 ?_
  refine g_istore_n C (L2 := [(0, .int (((((((x - ((g_ushr x (nI 1)) &&& (1431655765 : Int32))) &&& (858993459 : Int32)) + ((g_ushr (x - ((g_ushr x (nI 1)) &&& (1431655765 : Int32))) (nI 2)) &&& (858993459 : Int32))) + (g_ushr (((x - ((g_ushr x (nI 1)) &&& (1431655765 : Int32))) &&& (858993459 : Int32)) + ((g_ushr (x - ((g_ushr x (nI 1)) &&& (1431655765 : Int32))) (nI 2)) &&& (858993459 : Int32))) (nI 4))) &&& (252645135 : Int32)) + (g_ushr (((((x - ((g_ushr x (nI 1)) &&& (1431655765 : Int32))) &&& (858993459 : Int32)) + ((g_ushr (x - ((g_ushr x (nI 1)) &&& (1431655765 : Int32))) (nI 2)) &&& (858993459 : Int32))) + (g_ushr (((x - ((g_ushr x (nI 1)) &&& (1431655765 : Int32))) &&& (858993459 : Int32)) + ((g_ushr (x - ((g_ushr x (nI 1)) &&& (1431655765 : Int32))) (nI 2)) &&& (858993459 : Int32))) (nI 4))) &&& (252645135 : Int32)) (nI 8))) + (g_ushr ((((((x - ((g_ushr x (nI 1)) &&& (1431655765 : Int32))) &&& (858993459 : Int32)) + ((g_ushr (x - ((g_ushr x (nI 1)) &&& (1431655765 : Int32))) (nI 2)) &&& (858993459 : Int32))) + (g_ushr (((x - ((g_ushr x (nI 1)) &&& (1431655765 : Int32))) &&& (858993459 : Int32)) + ((g_ushr (x - ((g_ushr x (nI 1)) &&& (1431655765 : Int32))) (nI 2)) &&& (858993459 : Int32))) (nI 4))) &&& (252645135 : Int32)) + (g_ushr (((((x - ((g_ushr x (nI 1)) &&& (1431655765 : Int32))) &&& (858993459 : Int32)) + ((g_ushr (x - ((g_ushr x (nI 1)) &&& (1431655765 : Int32))) (nI 2)) &&& (858993459 : Int32))) + (g_ushr (((x - ((g_ushr x (nI 1)) &&& (1431655765 : Int32))) &&& (858993459 : Int32)) + ((g_ushr (x - ((g_ushr x (nI 1)) &&& (1431655765 : Int32))) (nI 2)) &&& (858993459 : Int32))) (nI 4))) &&& (252645135 : Int32)) (nI 8))) (nI 16))))]) dJ6_bitCount_0f7a4_47 (by decide) rfl ?_
  refine g_iload_n C 0 dJ6_bitCount_0f7a4_48 rfl ?_
  refine g_bipush C (nI 63) dJ6_bitCount_0f7a4_49 (by decide) ?_
  refine g_iand C dJ6_bitCount_0f7a4_51 ?_
  refine g_iret C hQ rfl dJ6_bitCount_0f7a4_52 ?_
  exact ⟨rfl, rfl⟩

def rm_X3_lives : Room := { frames := 1, cells := 0, slots := 0, locals := 21 }
theorem iX3_lives : gIv yX3_lives cX3_lives 2 (some .boolean) 1 := ⟨⟨wd_393, wd_26, by decide +kernel, by decide +kernel, by decide +kernel⟩, wd_391, wd_392⟩
set_option maxRecDepth 100000 in
set_option maxHeartbeats 4000000 in
theorem c_X3_lives (l : Launch) (G : gG) {T : Nat} {V : Nat → Int32} (g : Good T V) (mem : gM) (r : Rel V mem) {m1 : Nat} (hm : m1 < vN V) : gMet l yX3_lives cX3_lives 2 (some .boolean) rm_X3_lives G [.ref (gad G 4), .int (nI m1)] mem (fun a u => a = some (.int (b2i (vLv V m1 = true))) ∧ u = mem) := by
  refine g_of (own := RX3) (L0 := [(0, .ref (gad G 4)), (1, .int (nI m1))]) (by decide +kernel) rfl (Nat.le_of_ble_eq_true rfl) rfl ?_
  intro p e s m args below meth c C Q hQ
  refine g_aload_n C 0 dX3_lives_0 rfl ?_
  refine g_get_i C ob_4 1 (by decide) rfl wd_76 dX3_lives_1 ?_
  refine g_iload_n C 1 dX3_lives_4 rfl ?_
  refine g_cS1 C (As := [.int (mem 4 1), .int (nI m1)]) (w := .int (b2i (hs (mem 4 1) m1))) (mem3 := mem) iX4_has (c_X4_has l G mem (mem 4 1) m1) wd_394 rfl ⟨Nat.le_of_ble_eq_true rfl, Nat.le_of_ble_eq_true rfl⟩ ⟨rfl, rfl⟩ rfl (Nat.le_of_ble_eq_true rfl) dX3_lives_5 (rfl) (rfl) ?_
  refine g_zret C hQ rfl (b2i_01 _) dX3_lives_8 ?_
  exact ⟨by rw [b2i_congr (P2 := vLv V m1 = true) (by rw [r_lv r]; exact mk_hs (by have := gd_n10 g; omega) hm)], rfl⟩

def rm_X3_distance : Room := { frames := 1, cells := 0, slots := 0, locals := 23 }
theorem iX3_distance : gIv yX3_distance cX3_distance 3 (some .int) 2 := ⟨⟨wd_604, wd_26, by decide +kernel, by decide +kernel, by decide +kernel⟩, wd_602, wd_603⟩
set_option maxRecDepth 100000 in
set_option maxHeartbeats 4000000 in
theorem c_X3_distance (l : Launch) (G : gG) {T : Nat} {V : Nat → Int32} (g : Good T V) (mem : gM) (r : Rel V mem) {m1 m2 : Nat} (h1 : m1 < vN V) (h2 : m2 < vN V) : gMet l yX3_distance cX3_distance 3 (some .int) rm_X3_distance G [.ref (gad G 4), .int (nI m1), .int (nI m2)] mem (fun a u => a = some (.int (nI (dN (vP V m1) (vP V m2)))) ∧ u = mem) := by
  refine g_of (own := RX3) (L0 := [(0, .ref (gad G 4)), (1, .int (nI m1)), (2, .int (nI m2))]) (by decide +kernel) rfl (Nat.le_of_ble_eq_true rfl) rfl ?_
  intro p e s m args below meth c C Q hQ
  have hn10 := gd_n10 g
  have q1 := (gd_p g h1).2
  have q2 := (gd_p g h2).2
  refine g_aload_n C 0 dX3_distance_0 rfl ?_
  refine g_get_r C ob_4 3 (by decide) rfl wd_81 dX3_distance_1 ?_
  refine g_iload_n C 1 dX3_distance_4 rfl ?_
  refine g_cV1 C (As := [.int (nI m1)]) (w := .int (mem 8 m1)) (mem3 := mem) iX6_at (c_X6_at l G mem ob_7 ar_8 (by decide) (by omega)) wd_455 ob_7 rfl ⟨Nat.le_of_ble_eq_true rfl, Nat.le_of_ble_eq_true rfl⟩ ⟨rfl, rfl⟩ rfl (Nat.le_of_ble_eq_true rfl) dX3_distance_5 (rfl) (rfl) ?_
  refine g_top (y := nI (vP V m1)) ((r_p r h1).trans (gd_p g h1).1) ?_
  refine g_aload_n C 0 dX3_distance_8 rfl ?_
  refine g_get_r C ob_4 3 (by decide) rfl wd_81 dX3_distance_9 ?_
  refine g_iload_n C 2 dX3_distance_12 rfl ?_
  refine g_cV1 C (As := [.int (nI m2)]) (w := .int (mem 8 m2)) (mem3 := mem) iX6_at (c_X6_at l G mem ob_7 ar_8 (by decide) (by omega)) wd_455 ob_7 rfl ⟨Nat.le_of_ble_eq_true rfl, Nat.le_of_ble_eq_true rfl⟩ ⟨rfl, rfl⟩ rfl (Nat.le_of_ble_eq_true rfl) dX3_distance_13 (rfl) (rfl) ?_
  refine g_top (y := nI (vP V m2)) ((r_p r h2).trans (gd_p g h2).1) ?_
  refine g_isub C dX3_distance_16 ?_
  refine g_mabs C wd_605 wd_606 wd_33 wd_607 (by decide) (Nat.le_of_ble_eq_true rfl) dX3_distance_17 ?_
  refine g_iret C hQ rfl dX3_distance_20 ?_
  exact ⟨by rw [abs_n (by omega) (by omega)], rfl⟩

def vRR (V : Nat → Int32) (m : Nat) : Bool := decide (V (38 + 12 * m) = nI 2)

def rm_X3_rightReveals : Room := { frames := 1, cells := 0, slots := 0, locals := 21 }
theorem iX3_rightReveals : gIv yX3_rightReveals cX3_rightReveals 3 (some .int) 0 := ⟨⟨wd_454, wd_26, by decide +kernel, by decide +kernel, by decide +kernel⟩, wd_452, wd_453⟩
set_option maxRecDepth 100000 in
set_option maxHeartbeats 4000000 in
theorem c_X3_rightReveals (l : Launch) (G : gG) {T : Nat} {V : Nat → Int32} (g : Good T V) (mem : gM) (r : Rel V mem) : gMet l yX3_rightReveals cX3_rightReveals 3 (some .int) rm_X3_rightReveals G [.ref (gad G 4)] mem (fun a u => a = some (.int (mk (vRR V) (vN V))) ∧ u = mem) := by
  refine g_of (own := RX3) (L0 := [(0, .ref (gad G 4))]) (by decide +kernel) rfl (Nat.le_of_ble_eq_true rfl) rfl ?_
  intro p e s m args below meth c C Q hQ
  have hn10 := gd_n10 g
  refine g_iconst C (nI 0) dX3_rightReveals_0 (by decide) ?_
  refine g_istore_n C (L2 := [(1, .int (nI 0)), (0, .ref (gad G 4))]) dX3_rightReveals_1 (by decide) rfl ?_
  refine g_iconst C (nI 0) dX3_rightReveals_2 (by decide) ?_
  refine g_istore_n C (L2 := [(2, .int (nI 0)), (1, .int (nI 0)), (0, .ref (gad G 4))]) dX3_rightReveals_3 (by decide) rfl ?_
  have lp_4 : ∀ (fu : Nat) (i : Nat), (i ≤ vN V) → vN V - i < fu → gV p l e rm_X3_rightReveals s m args below meth c 0 0 Q G 3 mem 4 [(0, .ref (gad G 4)), (1, .int (mk (vRR V) i)), (2, .int (nI i))] [] := by
    intro fu
    induction fu with
    | zero => intro i _ hfu; exact absurd hfu (Nat.not_lt_zero _)
    | succ fu ih_4 =>
      intro i hi hfu_4
      refine g_iload_n C 2 dX3_rightReveals_4 rfl ?_
      refine g_aload_n C 0 dX3_rightReveals_5 rfl ?_
      refine g_get_i C ob_4 0 (by decide) rfl wd_70 dX3_rightReveals_6 ?_
      refine g_top (y := nI (vN V)) (r_n r g) ?_
      refine g_icmp_ge C 36 dX3_rightReveals_9 (by decide) (fun c_9 => ?_) (fun c_9 => ?_)
      · have hin : i = vN V := by have q := (nI_leI (a := vN V) (b := i) (by omega) (by omega)).mp c_9; omega
        refine g_iload_n C 1 dX3_rightReveals_36 rfl ?_
        refine g_iret C hQ rfl dX3_rightReveals_37 ?_
        exact ⟨by rw [hin], rfl⟩
      · have hi2 : i < vN V := by have q := mt (nI_leI (a := vN V) (b := i) (by omega) (by omega)).mpr c_9; omega
        refine g_aload_n C 0 dX3_rightReveals_12 rfl ?_
        refine g_get_r C ob_4 7 (by decide) rfl wd_92 dX3_rightReveals_13 ?_
        refine g_iload_n C 2 dX3_rightReveals_16 rfl ?_
        refine g_cV1 C (As := [.int (nI i)]) (w := .int (mem 16 i)) (mem3 := mem) iX6_at (c_X6_at l G mem ob_15 ar_16 (by decide) (by omega)) wd_455 ob_15 rfl ⟨Nat.le_of_ble_eq_true rfl, Nat.le_of_ble_eq_true rfl⟩ ⟨rfl, rfl⟩ rfl (Nat.le_of_ble_eq_true rfl) dX3_rightReveals_17 (rfl) (rfl) ?_
        refine g_top (y := V (38 + 12 * i)) (r_st r hi2) ?_
        refine g_iconst C (nI 2) dX3_rightReveals_20 (by decide) ?_
        refine g_icmp_ne C 30 dX3_rightReveals_21 (by decide) (fun c_21 => ?_) (fun c_21 => ?_)
        · refine g_iinc C (v := nI (i + 1)) (L2 := [(2, .int (nI (i + 1))), (0, .ref (gad G 4)), (1, .int (mk (vRR V) i))]) 2 dX3_rightReveals_30 rfl (nI_1 _) (by decide) rfl ?_
          refine g_goto C 4 dX3_rightReveals_33 (by decide) ?_
          refine g_loc (L2 := [(0, .ref (gad G 4)), (1, .int (mk (vRR V) i)), (2, .int (nI (i + 1)))]) [1, 2, 0] rfl ?_
          exact g_eq (ih_4 (i + 1) (hi2) (by omega)) (rfl) (gLc rfl (gLc (congrArg Value.int (by first | exact (mk_t (decide_eq_true c_21)).symm | exact (mk_f (decide_eq_false c_21)).symm)) (rfl))) rfl
        · refine g_iload_n C 1 dX3_rightReveals_24 rfl ?_
          refine g_iconst C (nI 1) dX3_rightReveals_25 (by decide) ?_
          refine g_iload_n C 2 dX3_rightReveals_26 rfl ?_
          refine g_ishl C dX3_rightReveals_27 ?_
          refine g_ior C dX3_rightReveals_28 ?_
          refine g_istore_n C (L2 := [(1, .int ((mk (vRR V) i) ||| ((nI 1) <<< ((nI i) &&& 31)))), (0, .ref (gad G 4)), (2, .int (nI i))]) dX3_rightReveals_29 (by decide) rfl ?_
          refine g_iinc C (v := nI (i + 1)) (L2 := [(2, .int (nI (i + 1))), (1, .int ((mk (vRR V) i) ||| ((nI 1) <<< ((nI i) &&& 31)))), (0, .ref (gad G 4))]) 2 dX3_rightReveals_30 rfl (nI_1 _) (by decide) rfl ?_
          refine g_goto C 4 dX3_rightReveals_33 (by decide) ?_
          refine g_loc (L2 := [(0, .ref (gad G 4)), (1, .int ((mk (vRR V) i) ||| ((nI 1) <<< ((nI i) &&& 31)))), (2, .int (nI (i + 1)))]) [2, 1, 0] rfl ?_
          exact g_eq (ih_4 (i + 1) (hi2) (by omega)) (rfl) (gLc rfl (gLc (congrArg Value.int (by first | exact (mk_t (decide_eq_true c_21)).symm | exact (mk_f (decide_eq_false c_21)).symm)) (rfl))) rfl
  refine g_loc (L2 := [(0, .ref (gad G 4)), (1, .int (nI 0)), (2, .int (nI 0))]) [2, 1, 0] rfl ?_
  exact g_eq (lp_4 (_ + 1) 0 (Nat.zero_le _) (Nat.lt_succ_self _)) (rfl) (gLc rfl (gLc (congrArg Value.int (rfl)) (rfl))) rfl

/-- credits behind a draw -/
def elC (st cr : Nat → Int32) (fine : Int32) (j : Nat) : Int32 := if st j = nI 1 ∨ st j = nI 3 then cr j + -fine else cr j

def rm_X3_endLottery : Room := { frames := 2, cells := 0, slots := 0, locals := 45 }
theorem iX3_endLottery : gIv yX3_endLottery cX3_endLottery 4 none 1 := ⟨⟨wd_489, wd_26, by decide +kernel, by decide +kernel, by decide +kernel⟩, wd_487, wd_488⟩
set_option maxRecDepth 100000 in
set_option maxHeartbeats 4000000 in
theorem c_X3_endLottery (l : Launch) (G : gG) {T : Nat} {V : Nat → Int32} (g : Good T V) (mem : gM) (r : Rel V mem) (x : Int32) : gMet l yX3_endLottery cX3_endLottery 4 none rm_X3_endLottery G [.ref (gad G 4), .int x] mem (fun a u => a = none ∧ u = gr (gr mem 16 (cpy (vN V) (fun _ => nI 0) (mem 16))) 10 (cpy (vN V) (elC (mem 16) (mem 10) x) (mem 10))) := by
  refine g_of (own := RX3) (L0 := [(0, .ref (gad G 4)), (1, .int x)]) (by decide +kernel) rfl (Nat.le_of_ble_eq_true rfl) rfl ?_
  intro p e s m args below meth c C Q hQ
  have hn10 := gd_n10 g
  refine g_iconst C (nI 0) dX3_endLottery_0 (by decide) ?_
  refine g_istore_n C (L2 := [(2, .int (nI 0)), (0, .ref (gad G 4)), (1, .int x)]) dX3_endLottery_1 (by decide) rfl ?_
  have lp_2 : ∀ (fu : Nat) (i : Nat), (i ≤ vN V) → vN V - i < fu → gV p l e rm_X3_endLottery s m args below meth c 0 0 Q G 4 (gr (gr mem 16 (cpy i (fun _ => nI 0) (mem 16))) 10 (cpy i (elC (mem 16) (mem 10) x) (mem 10))) 2 [(0, .ref (gad G 4)), (1, .int x), (2, .int (nI i))] [] := by
    intro fu
    induction fu with
    | zero => intro i _ hfu; exact absurd hfu (Nat.not_lt_zero _)
    | succ fu ih_2 =>
      intro i hi hfu_2
      refine g_iload_n C 2 dX3_endLottery_2 rfl ?_
      refine g_aload_n C 0 dX3_endLottery_3 rfl ?_
      refine g_get_i C ob_4 0 (by decide) rfl wd_70 dX3_endLottery_4 ?_
      refine g_top (y := mem 4 0) (rfl) ?_
      refine g_top (y := nI (vN V)) (r_n r g) ?_
      refine g_icmp_ge C 46 dX3_endLottery_7 (by decide) (fun c_7 => ?_) (fun c_7 => ?_)
      · have hin : i = vN V := by have q := (nI_leI (a := vN V) (b := i) (by omega) (by omega)).mp c_7; omega
        refine g_vret C hQ rfl dX3_endLottery_46 ?_
        exact ⟨rfl, by rw [hin]⟩
      · have hi2 : i < vN V := by have q := mt (nI_leI (a := vN V) (b := i) (by omega) (by omega)).mpr c_7; omega
        refine g_aload_n C 0 dX3_endLottery_10 rfl ?_
        refine g_get_r C ob_4 7 (by decide) rfl wd_92 dX3_endLottery_11 ?_
        refine g_iload_n C 2 dX3_endLottery_14 rfl ?_
        refine g_iconst C (nI 0) dX3_endLottery_15 (by decide) ?_
        refine g_cV1 C (As := [.int (nI i), .int (nI 0)]) (w := .int (cpy i (fun _ => nI 0) (mem 16) i)) (mem3 := gr (gr (gr mem 16 (cpy i (fun _ => nI 0) (mem 16))) 10 (cpy i (elC (mem 16) (mem 10) x) (mem 10))) 16 (upd (cpy i (fun _ => nI 0) (mem 16)) i (nI 0))) iX6_swap (c_X6_swap l G (gr (gr mem 16 (cpy i (fun _ => nI 0) (mem 16))) 10 (cpy i (elC (mem 16) (mem 10) x) (mem 10))) ob_15 ar_16 (by decide) (by omega) (nI 0)) wd_490 ob_15 rfl ⟨Nat.le_of_ble_eq_true rfl, Nat.le_of_ble_eq_true rfl⟩ ⟨rfl, rfl⟩ rfl (Nat.le_of_ble_eq_true rfl) dX3_endLottery_16 (rfl) (rfl) ?_
        refine g_mem (mem2 := gr (gr mem 16 (upd (cpy i (fun _ => nI 0) (mem 16)) i (nI 0))) 10 (cpy i (elC (mem 16) (mem 10) x) (mem 10))) ((gr_comm _ (by decide) _ _).trans (congrArg (fun z => gr z 10 (cpy i (elC (mem 16) (mem 10) x) (mem 10))) (gr_gr _ _ _ _))) ?_
        refine g_top (y := mem 16 i) (cpy_out (Nat.le_refl i)) ?_
        refine g_istore_n C (L2 := [(3, .int (mem 16 i)), (0, .ref (gad G 4)), (1, .int x), (2, .int (nI i))]) dX3_endLottery_19 (by decide) rfl ?_
        refine g_iload_n C 0 dX3_endLottery_20 rfl ?_
        refine g_iconst C (nI 1) dX3_endLottery_21 (by decide) ?_
        refine g_icmp_eq C 30 dX3_endLottery_22 (by decide) (fun c_22 => ?_) (fun c_22 => ?_)
        · refine g_aload_n C 1 dX3_endLottery_30 rfl ?_
          refine g_get_r C ob_4 4 (by decide) rfl wd_83 dX3_endLottery_31 ?_
          refine g_iload_n C 3 dX3_endLottery_34 rfl ?_
          refine g_iload_n C 2 dX3_endLottery_35 rfl ?_
          refine g_ineg C dX3_endLottery_36 ?_
          refine g_cV0 C (As := [.int (nI i), .int (-x)]) (mem3 := gr (gr (gr mem 16 (upd (cpy i (fun _ => nI 0) (mem 16)) i (nI 0))) 10 (cpy i (elC (mem 16) (mem 10) x) (mem 10))) 10 (upd (cpy i (elC (mem 16) (mem 10) x) (mem 10)) i (cpy i (elC (mem 16) (mem 10) x) (mem 10) i + (-x)))) iX6_add (c_X6_add l G (gr (gr mem 16 (upd (cpy i (fun _ => nI 0) (mem 16)) i (nI 0))) 10 (cpy i (elC (mem 16) (mem 10) x) (mem 10))) ob_9 ar_10 (by decide) (by omega) (-x)) wd_491 ob_9 rfl ⟨Nat.le_of_ble_eq_true rfl, Nat.le_of_ble_eq_true rfl⟩ ⟨rfl, rfl⟩ rfl (Nat.le_of_ble_eq_true rfl) dX3_endLottery_37 (rfl) ?_
          refine g_mem (mem2 := gr (gr mem 16 (upd (cpy i (fun _ => nI 0) (mem 16)) i (nI 0))) 10 (upd (cpy i (elC (mem 16) (mem 10) x) (mem 10)) i (cpy i (elC (mem 16) (mem 10) x) (mem 10) i + (-x)))) (gr_gr _ _ _ _) ?_
          refine g_iinc C (v := nI (i + 1)) (L2 := [(2, .int (nI (i + 1))), (3, .int (mem 16 i)), (0, .ref (gad G 4)), (1, .int x)]) 3 dX3_endLottery_40 rfl (nI_1 _) (by decide) rfl ?_
          refine g_goto C 2 dX3_endLottery_43 (by decide) ?_
          refine g_loc (L2 := [(0, .ref (gad G 4)), (1, .int x), (2, .int (nI (i + 1)))]) [2, 3, 0] rfl ?_
          exact g_eq (ih_2 (i + 1) (hi2) (by omega)) (by first | rw [cpy_s (f := fun _ => nI 0) rfl, cpy_s (f := elC (mem 16) (mem 10) x) (by rw [elC, if_pos (by first | exact Or.inl c_22 | exact Or.inr c_27), cpy_out (Nat.le_refl i)])] | rw [cpy_s (f := fun _ => nI 0) rfl, cpy_k (f := elC (mem 16) (mem 10) x) (by rw [elC, if_neg (fun q => q.elim c_22 c_27)])]) (rfl) rfl
        · refine g_iload_n C 0 dX3_endLottery_25 rfl ?_
          refine g_iconst C (nI 3) dX3_endLottery_26 (by decide) ?_
          refine g_icmp_ne C 40 dX3_endLottery_27 (by decide) (fun c_27 => ?_) (fun c_27 => ?_)
          · refine g_iinc C (v := nI (i + 1)) (L2 := [(2, .int (nI (i + 1))), (3, .int (mem 16 i)), (0, .ref (gad G 4)), (1, .int x)]) 3 dX3_endLottery_40 rfl (nI_1 _) (by decide) rfl ?_
            refine g_goto C 2 dX3_endLottery_43 (by decide) ?_
            refine g_loc (L2 := [(0, .ref (gad G 4)), (1, .int x), (2, .int (nI (i + 1)))]) [2, 3, 0] rfl ?_
            exact g_eq (ih_2 (i + 1) (hi2) (by omega)) (by first | rw [cpy_s (f := fun _ => nI 0) rfl, cpy_s (f := elC (mem 16) (mem 10) x) (by rw [elC, if_pos (by first | exact Or.inl c_22 | exact Or.inr c_27), cpy_out (Nat.le_refl i)])] | rw [cpy_s (f := fun _ => nI 0) rfl, cpy_k (f := elC (mem 16) (mem 10) x) (by rw [elC, if_neg (fun q => q.elim c_22 c_27)])]) (rfl) rfl
          · refine g_aload_n C 1 dX3_endLottery_30 rfl ?_
            refine g_get_r C ob_4 4 (by decide) rfl wd_83 dX3_endLottery_31 ?_
            refine g_iload_n C 3 dX3_endLottery_34 rfl ?_
            refine g_iload_n C 2 dX3_endLottery_35 rfl ?_
            refine g_ineg C dX3_endLottery_36 ?_
            refine g_cV0 C (As := [.int (nI i), .int (-x)]) (mem3 := gr (gr (gr mem 16 (upd (cpy i (fun _ => nI 0) (mem 16)) i (nI 0))) 10 (cpy i (elC (mem 16) (mem 10) x) (mem 10))) 10 (upd (cpy i (elC (mem 16) (mem 10) x) (mem 10)) i (cpy i (elC (mem 16) (mem 10) x) (mem 10) i + (-x)))) iX6_add (c_X6_add l G (gr (gr mem 16 (upd (cpy i (fun _ => nI 0) (mem 16)) i (nI 0))) 10 (cpy i (elC (mem 16) (mem 10) x) (mem 10))) ob_9 ar_10 (by decide) (by omega) (-x)) wd_491 ob_9 rfl ⟨Nat.le_of_ble_eq_true rfl, Nat.le_of_ble_eq_true rfl⟩ ⟨rfl, rfl⟩ rfl (Nat.le_of_ble_eq_true rfl) dX3_endLottery_37 (rfl) ?_
            refine g_mem (mem2 := gr (gr mem 16 (upd (cpy i (fun _ => nI 0) (mem 16)) i (nI 0))) 10 (upd (cpy i (elC (mem 16) (mem 10) x) (mem 10)) i (cpy i (elC (mem 16) (mem 10) x) (mem 10) i + (-x)))) (gr_gr _ _ _ _) ?_
            refine g_iinc C (v := nI (i + 1)) (L2 := [(2, .int (nI (i + 1))), (3, .int (mem 16 i)), (0, .ref (gad G 4)), (1, .int x)]) 3 dX3_endLottery_40 rfl (nI_1 _) (by decide) rfl ?_
            refine g_goto C 2 dX3_endLottery_43 (by decide) ?_
            refine g_loc (L2 := [(0, .ref (gad G 4)), (1, .int x), (2, .int (nI (i + 1)))]) [2, 3, 0] rfl ?_
            exact g_eq (ih_2 (i + 1) (hi2) (by omega)) (by first | rw [cpy_s (f := fun _ => nI 0) rfl, cpy_s (f := elC (mem 16) (mem 10) x) (by rw [elC, if_pos (by first | exact Or.inl c_22 | exact Or.inr c_27), cpy_out (Nat.le_refl i)])] | rw [cpy_s (f := fun _ => nI 0) rfl, cpy_k (f := elC (mem 16) (mem 10) x) (by rw [elC, if_neg (fun q => q.elim c_22 c_27)])]) (rfl) rfl
  refine g_loc (L2 := [(0, .ref (gad G 4)), (1, .int x), (2, .int (nI 0))]) [1, 2, 0] rfl ?_
  exact g_eq (lp_2 (_ + 1) 0 (Nat.zero_le _) (Nat.lt_succ_self _)) (by simp only [cpy_0, gr_self]) (rfl) rfl

def rm_X3_enter : Room := { frames := 1, cells := 0, slots := 0, locals := 22 }
theorem iX3_enter : gIv yX3_enter cX3_enter 4 (some .int) 2 := ⟨⟨wd_367, wd_26, by decide +kernel, by decide +kernel, by decide +kernel⟩, wd_365, wd_366⟩
set_option maxRecDepth 100000 in
set_option maxHeartbeats 4000000 in
theorem c_X3_enter (l : Launch) (G : gG) (mem : gM) {n : Nat} (hn : mem 4 0 = nI n) (hn9 : n < 10) (x y : Int32) : gMet l yX3_enter cX3_enter 4 (some .int) rm_X3_enter G [.ref (gad G 4), .int x, .int y] mem (fun a u => a = some (.int (nI n)) ∧ u = gr (gr (gr mem 6 (upd (mem 6) n x)) 8 (upd (mem 8) n y)) 4 (upd (upd (mem 4) 1 (mem 4 1 ||| bit n)) 0 (nI (n + 1)))) := by
  refine g_of (own := RX3) (L0 := [(0, .ref (gad G 4)), (1, .int x), (2, .int y)]) (by decide +kernel) rfl (Nat.le_of_ble_eq_true rfl) rfl ?_
  intro p e s m args below meth c C Q hQ
  refine g_aload_n C 0 dX3_enter_0 rfl ?_
  refine g_get_i C ob_4 0 (by decide) rfl wd_70 dX3_enter_1 ?_
  refine g_top (y := nI n) (hn) ?_
  refine g_istore_n C (L2 := [(3, .int (nI n)), (0, .ref (gad G 4)), (1, .int x), (2, .int y)]) dX3_enter_4 (by decide) rfl ?_
  refine g_aload_n C 1 dX3_enter_5 rfl ?_
  refine g_get_r C ob_4 2 (by decide) rfl wd_78 dX3_enter_6 ?_
  refine g_iload_n C 0 dX3_enter_9 rfl ?_
  refine g_iload_n C 2 dX3_enter_10 rfl ?_
  refine g_cV0 C (As := [.int (nI n), .int x]) (mem3 := gr mem 6 (upd (mem 6) n x)) iX6_put (c_X6_put l G mem ob_5 ar_6 (by decide) (by omega) x) wd_368 ob_5 rfl ⟨Nat.le_of_ble_eq_true rfl, Nat.le_of_ble_eq_true rfl⟩ ⟨rfl, rfl⟩ rfl (Nat.le_of_ble_eq_true rfl) dX3_enter_11 (rfl) ?_
  refine g_aload_n C 1 dX3_enter_14 rfl ?_
  refine g_get_r C ob_4 3 (by decide) rfl wd_81 dX3_enter_15 ?_
  refine g_iload_n C 0 dX3_enter_18 rfl ?_
  refine g_iload_n C 3 dX3_enter_19 rfl ?_
  refine g_cV0 C (As := [.int (nI n), .int y]) (mem3 := gr (gr mem 6 (upd (mem 6) n x)) 8 (upd (mem 8) n y)) iX6_put (c_X6_put l G (gr mem 6 (upd (mem 6) n x)) ob_7 ar_8 (by decide) (by omega) y) wd_368 ob_7 rfl ⟨Nat.le_of_ble_eq_true rfl, Nat.le_of_ble_eq_true rfl⟩ ⟨rfl, rfl⟩ rfl (Nat.le_of_ble_eq_true rfl) dX3_enter_20 (rfl) ?_
  refine g_aload_n C 1 dX3_enter_23 rfl ?_
  refine g_dup C dX3_enter_24 rfl ?_
  refine g_get_i C ob_4 1 (by decide) rfl wd_76 dX3_enter_25 ?_
  refine g_top (y := mem 4 1) (rfl) ?_
  refine g_iconst C (nI 1) dX3_enter_28 (by decide) ?_
  refine g_iload_n C 0 dX3_enter_29 rfl ?_
  refine g_ishl C dX3_enter_30 ?_
  refine g_ior C dX3_enter_31 ?_
  refine g_put_i C ob_4 1 (by decide) rfl wd_76 rfl rfl dX3_enter_32 ?_
  refine g_aload_n C 1 dX3_enter_35 rfl ?_
  refine g_dup C dX3_enter_36 rfl ?_
  refine g_get_i C ob_4 0 (by decide) rfl wd_70 dX3_enter_37 ?_
  refine g_top (y := mem 4 0) (rfl) ?_
  refine g_top (y := nI n) (hn) ?_
  refine g_iconst C (nI 1) dX3_enter_40 (by decide) ?_
  refine g_iadd_n C (d := n + 1) dX3_enter_41 rfl ?_
  refine g_put_i C ob_4 0 (by decide) rfl wd_70 rfl rfl dX3_enter_42 ?_
  refine g_mem (mem2 := gr (gr (gr mem 6 (upd (mem 6) n x)) 8 (upd (mem 8) n y)) 4 (upd (upd (mem 4) 1 ((mem 4 1) ||| ((nI 1) <<< ((nI n) &&& 31)))) 0 (nI (n + 1)))) (gr_gr _ _ _ _) ?_
  refine g_iload_n C 0 dX3_enter_45 rfl ?_
  refine g_iret C hQ rfl dX3_enter_46 ?_
  exact ⟨rfl, rfl⟩
end
section
def rm_X0_weightOfOthers : Room := { frames := 1, cells := 0, slots := 0, locals := 21 }
theorem iX0_weightOfOthers : gIs yX0_weightOfOthers cX0_weightOfOthers 4 (some .int) 2 := ⟨⟨wd_478, wd_27, by decide +kernel, by decide +kernel, by decide +kernel⟩, wd_477⟩
set_option maxRecDepth 100000 in
set_option maxHeartbeats 4000000 in
theorem c_X0_weightOfOthers (l : Launch) (G : gG) (mem : gM) {n : Nat} {W : Nat → Nat} (hn : mem 4 0 = nI n) (hn10 : n ≤ 10) (hw : ∀ m, m < n → mem 6 m = nI (W m)) (hW : ∀ m, m < n → 1 ≤ W m ∧ W m ≤ 9) (ls : Int32) : gMet l yX0_weightOfOthers cX0_weightOfOthers 4 (some .int) rm_X0_weightOfOthers G [.ref (gad G 4), .int ls] mem (fun a u => a = some (.int (nI (wSum W ls n))) ∧ u = mem) := by
  refine g_of (own := RX0) (L0 := [(0, .ref (gad G 4)), (1, .int ls)]) (by decide +kernel) rfl (Nat.le_of_ble_eq_true rfl) rfl ?_
  intro p e s m args below meth c C Q hQ
  refine g_iconst C (nI 0) dX0_weightOfOthers_0 (by decide) ?_
  refine g_istore_n C (L2 := [(2, .int (nI 0)), (0, .ref (gad G 4)), (1, .int ls)]) dX0_weightOfOthers_1 (by decide) rfl ?_
  refine g_iconst C (nI 0) dX0_weightOfOthers_2 (by decide) ?_
  refine g_istore_n C (L2 := [(3, .int (nI 0)), (2, .int (nI 0)), (0, .ref (gad G 4)), (1, .int ls)]) dX0_weightOfOthers_3 (by decide) rfl ?_
  have lp_4 : ∀ (fu : Nat) (i : Nat), (i ≤ n) → n - i < fu → gV p l e rm_X0_weightOfOthers s m args below meth c 0 0 Q G 4 mem 4 [(0, .ref (gad G 4)), (1, .int ls), (2, .int (nI (wSum W ls i))), (3, .int (nI i))] [] := by
    intro fu
    induction fu with
    | zero => intro i _ hfu; exact absurd hfu (Nat.not_lt_zero _)
    | succ fu ih_4 =>
      intro i hi hfu_4
      refine g_iload_n C 3 dX0_weightOfOthers_4 rfl ?_
      refine g_aload_n C 0 dX0_weightOfOthers_5 rfl ?_
      refine g_get_i C ob_4 0 (by decide) rfl wd_71 dX0_weightOfOthers_6 ?_
      refine g_top (y := nI n) (hn) ?_
      refine g_icmp_ge C 37 dX0_weightOfOthers_9 (by decide) (fun c_9 => ?_) (fun c_9 => ?_)
      · have hin : i = n := by have q := (nI_leI (a := n) (b := i) (by omega) (by omega)).mp c_9; omega
        refine g_iload_n C 2 dX0_weightOfOthers_37 rfl ?_
        refine g_iret C hQ rfl dX0_weightOfOthers_38 ?_
        exact ⟨by rw [hin], rfl⟩
      · have hi2 : i < n := by have q := mt (nI_leI (a := n) (b := i) (by omega) (by omega)).mpr c_9; omega
        refine g_iload_n C 1 dX0_weightOfOthers_12 rfl ?_
        refine g_iload_n C 3 dX0_weightOfOthers_13 rfl ?_
        refine g_cS1 C (As := [.int ls, .int (nI i)]) (w := .int (b2i (hs ls i))) (mem3 := mem) iX4_has (c_X4_has l G mem ls i) wd_470 rfl ⟨Nat.le_of_ble_eq_true rfl, Nat.le_of_ble_eq_true rfl⟩ ⟨rfl, rfl⟩ rfl (Nat.le_of_ble_eq_true rfl) dX0_weightOfOthers_14 (rfl) (rfl) ?_
        refine g_ifb_ne C 31 dX0_weightOfOthers_17 (by decide) (fun c_17 => ?_) (fun c_17 => ?_)
        · refine g_iinc C (v := nI (i + 1)) (L2 := [(3, .int (nI (i + 1))), (0, .ref (gad G 4)), (1, .int ls), (2, .int (nI (wSum W ls i)))]) 3 dX0_weightOfOthers_31 rfl (nI_1 _) (by decide) rfl ?_
          refine g_goto C 4 dX0_weightOfOthers_34 (by decide) ?_
          refine g_loc (L2 := [(0, .ref (gad G 4)), (1, .int ls), (2, .int (nI (wSum W ls i))), (3, .int (nI (i + 1)))]) [1, 2, 3, 0] rfl ?_
          exact g_eq (ih_4 (i + 1) (hi2) (by omega)) (rfl) (gLc rfl (gLc rfl (gLc (congrArg Value.int (by first | rw [wS_t c_17] | rw [wS_f c_17])) (rfl)))) rfl
        · refine g_iload_n C 2 dX0_weightOfOthers_20 rfl ?_
          refine g_aload_n C 0 dX0_weightOfOthers_21 rfl ?_
          refine g_get_r C ob_4 2 (by decide) rfl wd_80 dX0_weightOfOthers_22 ?_
          refine g_iload_n C 3 dX0_weightOfOthers_25 rfl ?_
          refine g_cV1 C (As := [.int (nI i)]) (w := .int (mem 6 i)) (mem3 := mem) iX6_at (c_X6_at l G mem ob_5 ar_6 (by decide) (by omega)) wd_406 ob_5 rfl ⟨Nat.le_of_ble_eq_true rfl, Nat.le_of_ble_eq_true rfl⟩ ⟨rfl, rfl⟩ rfl (Nat.le_of_ble_eq_true rfl) dX0_weightOfOthers_26 (rfl) (rfl) ?_
          refine g_top (y := nI (W i)) (hw i hi2) ?_
          refine g_iadd_n C (d := (wSum W ls i) + (W i)) dX0_weightOfOthers_29 rfl ?_
          refine g_istore_n C (L2 := [(2, .int (nI ((wSum W ls i) + (W i)))), (0, .ref (gad G 4)), (1, .int ls), (3, .int (nI i))]) dX0_weightOfOthers_30 (by decide) rfl ?_
          refine g_iinc C (v := nI (i + 1)) (L2 := [(3, .int (nI (i + 1))), (2, .int (nI ((wSum W ls i) + (W i)))), (0, .ref (gad G 4)), (1, .int ls)]) 3 dX0_weightOfOthers_31 rfl (nI_1 _) (by decide) rfl ?_
          refine g_goto C 4 dX0_weightOfOthers_34 (by decide) ?_
          refine g_loc (L2 := [(0, .ref (gad G 4)), (1, .int ls), (2, .int (nI ((wSum W ls i) + (W i)))), (3, .int (nI (i + 1)))]) [2, 3, 1, 0] rfl ?_
          exact g_eq (ih_4 (i + 1) (hi2) (by omega)) (rfl) (gLc rfl (gLc rfl (gLc (congrArg Value.int (by first | rw [wS_t c_17] | rw [wS_f c_17])) (rfl)))) rfl
  refine g_loc (L2 := [(0, .ref (gad G 4)), (1, .int ls), (2, .int (nI 0)), (3, .int (nI 0))]) [2, 3, 1, 0] rfl ?_
  exact g_eq (lp_4 (_ + 1) 0 (Nat.zero_le _) (Nat.lt_succ_self _)) (rfl) (gLc rfl (gLc rfl (gLc (congrArg Value.int (rfl)) (rfl)))) rfl

def rm_X0_memberOfLot : Room := { frames := 1, cells := 0, slots := 0, locals := 21 }
theorem iX0_memberOfLot : gIs yX0_memberOfLot cX0_memberOfLot 5 (some .int) 3 := ⟨⟨wd_484, wd_27, by decide +kernel, by decide +kernel, by decide +kernel⟩, wd_483⟩
set_option maxRecDepth 100000 in
set_option maxHeartbeats 4000000 in
theorem c_X0_memberOfLot (l : Launch) (G : gG) (mem : gM) {n : Nat} {W : Nat → Nat} (hn : mem 4 0 = nI n) (hn10 : n ≤ 10) (hw : ∀ m, m < n → mem 6 m = nI (W m)) (hW : ∀ m, m < n → 1 ≤ W m ∧ W m ≤ 9) (ls : Int32) {lot : Nat} (hlot : lot < wSum W ls n) : gMet l yX0_memberOfLot cX0_memberOfLot 5 (some .int) rm_X0_memberOfLot G [.ref (gad G 4), .int ls, .int (nI lot)] mem (fun a u => a = some (.int (nI (pkM W ls lot n))) ∧ u = mem) := by
  refine g_of (own := RX0) (L0 := [(0, .ref (gad G 4)), (1, .int ls), (2, .int (nI lot))]) (by decide +kernel) rfl (Nat.le_of_ble_eq_true rfl) rfl ?_
  intro p e s m args below meth c C Q hQ
  have hs90 : wSum W ls n ≤ n * 9 := wS_le fun m hm => (hW m hm).2
  refine g_iconst C (nI 0) dX0_memberOfLot_0 (by decide) ?_
  refine g_istore_n C (L2 := [(3, .int (nI 0)), (0, .ref (gad G 4)), (1, .int ls), (2, .int (nI lot))]) dX0_memberOfLot_1 (by decide) rfl ?_
  refine g_iconst C (nI 0) dX0_memberOfLot_2 (by decide) ?_
  refine g_istore C (L2 := [(4, .int (nI 0)), (3, .int (nI 0)), (0, .ref (gad G 4)), (1, .int ls), (2, .int (nI lot))]) dX0_memberOfLot_3 (by decide) rfl ?_
  have lp_5 : ∀ (fu : Nat) (i : Nat), (i ≤ n) → (∀ k, k < i → pkP W ls lot k = false) → n - i < fu → gV p l e rm_X0_memberOfLot s m args below meth c 0 0 Q G 5 mem 5 [(0, .ref (gad G 4)), (1, .int ls), (2, .int (nI lot)), (3, .int (nI (wSum W ls i))), (4, .int (nI i))] [] := by
    intro fu
    induction fu with
    | zero => intro i _ _ hfu; exact absurd hfu (Nat.not_lt_zero _)
    | succ fu ih_5 =>
      intro i hi hno hfu_5
      refine g_iload C 4 dX0_memberOfLot_5 rfl ?_
      refine g_aload_n C 0 dX0_memberOfLot_7 rfl ?_
      refine g_get_i C ob_4 0 (by decide) rfl wd_71 dX0_memberOfLot_8 ?_
      refine g_top (y := nI n) (hn) ?_
      refine g_icmp_ge C 49 dX0_memberOfLot_11 (by decide) (fun c_11 => ?_) (fun c_11 => ?_)
      · have hin : i = n := by have q := (nI_leI (a := n) (b := i) (by omega) (by omega)).mp c_11; omega
        refine g_iconst C (nI 0) dX0_memberOfLot_49 (by decide) ?_
        refine g_iret C hQ rfl dX0_memberOfLot_50 ?_
        exact absurd (pkm_no (by omega) (hin ▸ hno)) (by omega)
      · have hi2 : i < n := by have q := mt (nI_leI (a := n) (b := i) (by omega) (by omega)).mpr c_11; omega
        refine g_iload_n C 1 dX0_memberOfLot_14 rfl ?_
        refine g_iload C 4 dX0_memberOfLot_15 rfl ?_
        refine g_cS1 C (As := [.int ls, .int (nI i)]) (w := .int (b2i (hs ls i))) (mem3 := mem) iX4_has (c_X4_has l G mem ls i) wd_470 rfl ⟨Nat.le_of_ble_eq_true rfl, Nat.le_of_ble_eq_true rfl⟩ ⟨rfl, rfl⟩ rfl (Nat.le_of_ble_eq_true rfl) dX0_memberOfLot_17 (rfl) (rfl) ?_
        refine g_ifb_ne C 43 dX0_memberOfLot_20 (by decide) (fun c_20 => ?_) (fun c_20 => ?_)
        · refine g_iinc C (v := nI (i + 1)) (L2 := [(4, .int (nI (i + 1))), (0, .ref (gad G 4)), (1, .int ls), (2, .int (nI lot)), (3, .int (nI (wSum W ls i)))]) 4 dX0_memberOfLot_43 rfl (nI_1 _) (by decide) rfl ?_
          refine g_goto C 5 dX0_memberOfLot_46 (by decide) ?_
          refine g_loc (L2 := [(0, .ref (gad G 4)), (1, .int ls), (2, .int (nI lot)), (3, .int (nI (wSum W ls i))), (4, .int (nI (i + 1)))]) [1, 2, 3, 4, 0] rfl ?_
          exact g_eq (ih_5 (i + 1) (hi2) (by
      intro k hk
      by_cases e : k = i
      · subst e
        unfold pkP
        first
          | (rw [(hs_bt (by omega)).mp c_20]; rfl)
          | (rw [decide_eq_false c_37, Bool.and_false])
      · exact hno k (by omega)) (by omega)) (rfl) (gLc rfl (gLc rfl (gLc rfl (gLc (congrArg Value.int (by first | rw [wS_t c_20] | rw [wS_f c_20])) (rfl))))) rfl
        · have hmo := wS_mono (W := W) (ls := ls) (a := i + 1) (n := n) hi2
          have hsf := wS_f (W := W) c_20
          have hbt := (nhs_bt (by omega)).mp c_20
          refine g_iload_n C 3 dX0_memberOfLot_23 rfl ?_
          refine g_aload_n C 0 dX0_memberOfLot_24 rfl ?_
          refine g_get_r C ob_4 2 (by decide) rfl wd_80 dX0_memberOfLot_25 ?_
          refine g_iload C 4 dX0_memberOfLot_28 rfl ?_
          refine g_cV1 C (As := [.int (nI i)]) (w := .int (mem 6 i)) (mem3 := mem) iX6_at (c_X6_at l G mem ob_5 ar_6 (by decide) (by omega)) wd_406 ob_5 rfl ⟨Nat.le_of_ble_eq_true rfl, Nat.le_of_ble_eq_true rfl⟩ ⟨rfl, rfl⟩ rfl (Nat.le_of_ble_eq_true rfl) dX0_memberOfLot_30 (rfl) (rfl) ?_
          refine g_top (y := nI (W i)) (hw i hi2) ?_
          refine g_iadd_n C (d := (wSum W ls i) + (W i)) dX0_memberOfLot_33 rfl ?_
          refine g_istore_n C (L2 := [(3, .int (nI ((wSum W ls i) + (W i)))), (0, .ref (gad G 4)), (1, .int ls), (2, .int (nI lot)), (4, .int (nI i))]) dX0_memberOfLot_34 (by decide) rfl ?_
          refine g_iload_n C 0 dX0_memberOfLot_35 rfl ?_
          refine g_iload_n C 3 dX0_memberOfLot_36 rfl ?_
          refine g_icmp_le C 43 dX0_memberOfLot_37 (by decide) (fun c_37 => ?_) (fun c_37 => ?_)
          · have c_37 : ¬ lot < wSum W ls (i + 1) := by have q := (nI_leI (by omega) (by omega)).mp c_37; omega
            refine g_iinc C (v := nI (i + 1)) (L2 := [(4, .int (nI (i + 1))), (3, .int (nI ((wSum W ls i) + (W i)))), (0, .ref (gad G 4)), (1, .int ls), (2, .int (nI lot))]) 4 dX0_memberOfLot_43 rfl (nI_1 _) (by decide) rfl ?_
            refine g_goto C 5 dX0_memberOfLot_46 (by decide) ?_
            refine g_loc (L2 := [(0, .ref (gad G 4)), (1, .int ls), (2, .int (nI lot)), (3, .int (nI ((wSum W ls i) + (W i)))), (4, .int (nI (i + 1)))]) [2, 3, 4, 1, 0] rfl ?_
            exact g_eq (ih_5 (i + 1) (hi2) (by
      intro k hk
      by_cases e : k = i
      · subst e
        unfold pkP
        first
          | (rw [(hs_bt (by omega)).mp c_20]; rfl)
          | (rw [decide_eq_false c_37, Bool.and_false])
      · exact hno k (by omega)) (by omega)) (rfl) (gLc rfl (gLc rfl (gLc rfl (gLc (congrArg Value.int (by first | rw [wS_t c_20] | rw [wS_f c_20])) (rfl))))) rfl
          · have c_37 : lot < wSum W ls (i + 1) := by have q := mt (nI_leI (by omega) (by omega)).mpr c_37; omega
            refine g_iload C 4 dX0_memberOfLot_40 rfl ?_
            refine g_iret C hQ rfl dX0_memberOfLot_42 ?_
            exact ⟨by rw [pkM, fa_first_is hno (by unfold pkP; rw [hbt, decide_eq_true c_37]; rfl) hi2], rfl⟩
  refine g_loc (L2 := [(0, .ref (gad G 4)), (1, .int ls), (2, .int (nI lot)), (3, .int (nI 0)), (4, .int (nI 0))]) [2, 3, 4, 1, 0] rfl ?_
  exact g_eq (lp_5 (_ + 1) 0 (Nat.zero_le _) (fun k hk => absurd hk (Nat.not_lt_zero k)) (Nat.lt_succ_self _)) (rfl) (gLc rfl (gLc rfl (gLc rfl (gLc (congrArg Value.int (rfl)) (rfl))))) rfl

def rm_X0_drawList : Room := { frames := 2, cells := 0, slots := 0, locals := 45 }
theorem iX0_drawList : gIv yX0_drawList cX0_drawList 7 none 1 := ⟨⟨wd_475, wd_27, by decide +kernel, by decide +kernel, by decide +kernel⟩, wd_473, wd_474⟩
set_option maxRecDepth 100000 in
set_option maxHeartbeats 4000000 in
theorem c_X0_drawList_21 (l : Launch) (G : gG) (mem : gM) {n : Nat} {W : Nat → Nat} (hn : mem 4 0 = nI n) (hn10 : n ≤ 10) (hw : ∀ m, m < n → mem 6 m = nI (W m)) (hW : ∀ m, m < n → 1 ≤ W m ∧ W m ≤ 9) : gMet l yX0_drawList cX0_drawList 7 none rm_X0_drawList G [.ref (gad G 21), .ref (gad G 4)] mem (fun a u => a = none ∧ u = gr (gr mem 23 (cpy n (fun k => nI (dM W n (mem 21 1) k)) (mem 23))) 21 (upd (mem 21) 2 (nI n))) := by
  refine g_of (own := RX0) (L0 := [(0, .ref (gad G 21)), (1, .ref (gad G 4))]) (by decide +kernel) rfl (Nat.le_of_ble_eq_true rfl) rfl ?_
  intro p e s m args below meth c C Q hQ
  have hdr := dr_all (W := W) (n := n) (by omega) (fun m hm => (hW m hm).1) (mem 21 1)
  refine g_aload_n C 0 dX0_drawList_0 rfl ?_
  refine g_get_i C ob_21 1 (by decide) rfl wd_132 dX0_drawList_1 ?_
  refine g_istore_n C (L2 := [(2, .int (mem 21 1)), (0, .ref (gad G 21)), (1, .ref (gad G 4))]) dX0_drawList_4 (by decide) rfl ?_
  refine g_iconst C (nI 0) dX0_drawList_5 (by decide) ?_
  refine g_istore_n C (L2 := [(3, .int (nI 0)), (2, .int (mem 21 1)), (0, .ref (gad G 21)), (1, .ref (gad G 4))]) dX0_drawList_6 (by decide) rfl ?_
  refine g_iconst C (nI 0) dX0_drawList_7 (by decide) ?_
  refine g_istore C (L2 := [(4, .int (nI 0)), (3, .int (nI 0)), (2, .int (mem 21 1)), (0, .ref (gad G 21)), (1, .ref (gad G 4))]) dX0_drawList_8 (by decide) rfl ?_
  have lp_10 : ∀ (fu : Nat) (i : Nat), (i ≤ n) → n - i < fu → gV p l e rm_X0_drawList s m args below meth c 0 0 Q G 7 (gr mem 23 (cpy i (fun k => nI (dM W n (mem 21 1) k)) (mem 23))) 10 [(0, .ref (gad G 21)), (1, .ref (gad G 4)), (2, .int (dSt (mem 21 1) i)), (3, .int (dLs W n (mem 21 1) i)), (4, .int (nI i))] [] := by
    intro fu
    induction fu with
    | zero => intro i _ hfu; exact absurd hfu (Nat.not_lt_zero _)
    | succ fu ih_10 =>
      intro i hi hfu_10
      refine g_iload C 4 dX0_drawList_10 rfl ?_
      refine g_aload_n C 1 dX0_drawList_12 rfl ?_
      refine g_get_i C ob_4 0 (by decide) rfl wd_71 dX0_drawList_13 ?_
      refine g_top (y := mem 4 0) (rfl) ?_
      refine g_top (y := nI n) (hn) ?_
      refine g_icmp_ge C 68 dX0_drawList_16 (by decide) (fun c_16 => ?_) (fun c_16 => ?_)
      · have hin : i = n := by have q := (nI_leI (a := n) (b := i) (by omega) (by omega)).mp c_16; omega
        refine g_aload_n C 0 dX0_drawList_68 rfl ?_
        refine g_aload_n C 1 dX0_drawList_69 rfl ?_
        refine g_get_i C ob_4 0 (by decide) rfl wd_71 dX0_drawList_70 ?_
        refine g_top (y := mem 4 0) (rfl) ?_
        refine g_top (y := nI n) (hn) ?_
        refine g_put_i C ob_21 2 (by decide) rfl wd_135 rfl rfl dX0_drawList_73 ?_
        refine g_vret C hQ rfl dX0_drawList_76 ?_
        exact ⟨rfl, by rw [hin]; rfl⟩
      · have hi2 : i < n := by have q := mt (nI_leI (a := n) (b := i) (by omega) (by omega)).mpr c_16; omega
        refine g_iload_n C 2 dX0_drawList_19 rfl ?_
        refine g_cS1 C (As := [.int (dSt (mem 21 1) i)]) (w := .int (mixI (dSt (mem 21 1) i))) (mem3 := gr mem 23 (cpy i (fun k => nI (dM W n (mem 21 1) k)) (mem 23))) iX4_mixed (c_X4_mixed l G (gr mem 23 (cpy i (fun k => nI (dM W n (mem 21 1) k)) (mem 23))) (dSt (mem 21 1) i)) wd_471 rfl ⟨Nat.le_of_ble_eq_true rfl, Nat.le_of_ble_eq_true rfl⟩ ⟨rfl, rfl⟩ rfl (Nat.le_of_ble_eq_true rfl) dX0_drawList_20 (rfl) (rfl) ?_
        refine g_top (y := dSt (mem 21 1) (i + 1)) (rfl) ?_
        refine g_istore_n C (L2 := [(2, .int (dSt (mem 21 1) (i + 1))), (0, .ref (gad G 21)), (1, .ref (gad G 4)), (3, .int (dLs W n (mem 21 1) i)), (4, .int (nI i))]) dX0_drawList_23 (by decide) rfl ?_
        have hp0 := (hdr i (by omega)).2.2.2 hi2
        refine g_iload_n C 0 dX0_drawList_24 rfl ?_
        refine g_aload_n C 2 dX0_drawList_25 rfl ?_
        refine g_iload_n C 3 dX0_drawList_26 rfl ?_
        refine g_cS1 C (As := [.ref (gad G 4), .int (dLs W n (mem 21 1) i)]) (w := .int (nI (wSum W (dLs W n (mem 21 1) i) n))) (mem3 := gr mem 23 (cpy i (fun k => nI (dM W n (mem 21 1) k)) (mem 23))) iX0_weightOfOthers (c_X0_weightOfOthers l G (gr mem 23 (cpy i (fun k => nI (dM W n (mem 21 1) k)) (mem 23))) hn hn10 hw hW (dLs W n (mem 21 1) i)) wd_476 rfl ⟨Nat.le_of_ble_eq_true rfl, Nat.le_of_ble_eq_true rfl⟩ ⟨rfl, rfl⟩ rfl (Nat.le_of_ble_eq_true rfl) dX0_drawList_27 (rfl) (rfl) ?_
        refine g_cS1 C (As := [.int (dSt (mem 21 1) (i + 1)), .int (nI (wSum W (dLs W n (mem 21 1) i) n))]) (w := .int (nI (lotN (dSt (mem 21 1) (i + 1)) (wSum W (dLs W n (mem 21 1) i) n)))) (mem3 := gr mem 23 (cpy i (fun k => nI (dM W n (mem 21 1) k)) (mem 23))) iX4_lot (c_X4_lot l G (gr mem 23 (cpy i (fun k => nI (dM W n (mem 21 1) k)) (mem 23))) (dSt (mem 21 1) (i + 1)) (nI (wSum W (dLs W n (mem 21 1) i) n))) wd_479 rfl ⟨Nat.le_of_ble_eq_true rfl, Nat.le_of_ble_eq_true rfl⟩ ⟨rfl, rfl⟩ rfl (Nat.le_of_ble_eq_true rfl) dX0_drawList_30 (congrArg Value.int (lot_n _ (hp0) (by have q : wSum W (dLs W n (mem 21 1) i) n ≤ n * 9 := wS_le fun m hm => (hW m hm).2; omega))) (rfl) ?_
        refine g_istore C (L2 := [(5, .int (nI (lotN (dSt (mem 21 1) (i + 1)) (wSum W (dLs W n (mem 21 1) i) n)))), (2, .int (dSt (mem 21 1) (i + 1))), (0, .ref (gad G 21)), (1, .ref (gad G 4)), (3, .int (dLs W n (mem 21 1) i)), (4, .int (nI i))]) dX0_drawList_33 (by decide) rfl ?_
        refine g_aload_n C 3 dX0_drawList_35 rfl ?_
        refine g_iload_n C 4 dX0_drawList_36 rfl ?_
        refine g_iload C 0 dX0_drawList_37 rfl ?_
        refine g_cS1 C (As := [.ref (gad G 4), .int (dLs W n (mem 21 1) i), .int (nI (lotN (dSt (mem 21 1) (i + 1)) (wSum W (dLs W n (mem 21 1) i) n)))]) (w := .int (nI (pkM W (dLs W n (mem 21 1) i) (lotN (dSt (mem 21 1) (i + 1)) (wSum W (dLs W n (mem 21 1) i) n)) n))) (mem3 := gr mem 23 (cpy i (fun k => nI (dM W n (mem 21 1) k)) (mem 23))) iX0_memberOfLot (c_X0_memberOfLot l G (gr mem 23 (cpy i (fun k => nI (dM W n (mem 21 1) k)) (mem 23))) hn hn10 hw hW (dLs W n (mem 21 1) i) (lotN_lt _ hp0)) wd_482 rfl ⟨Nat.le_of_ble_eq_true rfl, Nat.le_of_ble_eq_true rfl⟩ ⟨rfl, rfl⟩ rfl (Nat.le_of_ble_eq_true rfl) dX0_drawList_39 (rfl) (rfl) ?_
        refine g_top (y := nI (dM W n (mem 21 1) i)) (rfl) ?_
        refine g_istore C (L2 := [(6, .int (nI (dM W n (mem 21 1) i))), (5, .int (nI (lotN (dSt (mem 21 1) (i + 1)) (wSum W (dLs W n (mem 21 1) i) n)))), (2, .int (dSt (mem 21 1) (i + 1))), (0, .ref (gad G 21)), (1, .ref (gad G 4)), (3, .int (dLs W n (mem 21 1) i)), (4, .int (nI i))]) dX0_drawList_42 (by decide) rfl ?_
        refine g_aload_n C 3 dX0_drawList_44 rfl ?_
        refine g_get_r C ob_21 3 (by decide) rfl wd_138 dX0_drawList_45 ?_
        refine g_iload C 6 dX0_drawList_48 rfl ?_
        refine g_iload C 0 dX0_drawList_50 rfl ?_
        refine g_cV0 C (As := [.int (nI i), .int (nI (dM W n (mem 21 1) i))]) (mem3 := gr (gr mem 23 (cpy i (fun k => nI (dM W n (mem 21 1) k)) (mem 23))) 23 (upd (cpy i (fun k => nI (dM W n (mem 21 1) k)) (mem 23)) i (nI (dM W n (mem 21 1) i)))) iX6_put (c_X6_put l G (gr mem 23 (cpy i (fun k => nI (dM W n (mem 21 1) k)) (mem 23))) ob_22 ar_23 (by decide) (by omega) (nI (dM W n (mem 21 1) i))) wd_485 ob_22 rfl ⟨Nat.le_of_ble_eq_true rfl, Nat.le_of_ble_eq_true rfl⟩ ⟨rfl, rfl⟩ rfl (Nat.le_of_ble_eq_true rfl) dX0_drawList_52 (rfl) ?_
        refine g_mem (mem2 := gr mem 23 (upd (cpy i (fun k => nI (dM W n (mem 21 1) k)) (mem 23)) i (nI (dM W n (mem 21 1) i)))) (gr_gr _ _ _ _) ?_
        refine g_iload_n C 5 dX0_drawList_55 rfl ?_
        refine g_iconst C (nI 1) dX0_drawList_56 (by decide) ?_
        refine g_iload C 0 dX0_drawList_57 rfl ?_
        refine g_ishl C dX0_drawList_59 ?_
        refine g_ior C dX0_drawList_60 ?_
        refine g_istore_n C (L2 := [(3, .int ((dLs W n (mem 21 1) i) ||| ((nI 1) <<< ((nI (dM W n (mem 21 1) i)) &&& 31)))), (6, .int (nI (dM W n (mem 21 1) i))), (5, .int (nI (lotN (dSt (mem 21 1) (i + 1)) (wSum W (dLs W n (mem 21 1) i) n)))), (2, .int (dSt (mem 21 1) (i + 1))), (0, .ref (gad G 21)), (1, .ref (gad G 4)), (4, .int (nI i))]) dX0_drawList_61 (by decide) rfl ?_
        refine g_iinc C (v := nI (i + 1)) (L2 := [(4, .int (nI (i + 1))), (3, .int ((dLs W n (mem 21 1) i) ||| ((nI 1) <<< ((nI (dM W n (mem 21 1) i)) &&& 31)))), (6, .int (nI (dM W n (mem 21 1) i))), (5, .int (nI (lotN (dSt (mem 21 1) (i + 1)) (wSum W (dLs W n (mem 21 1) i) n)))), (2, .int (dSt (mem 21 1) (i + 1))), (0, .ref (gad G 21)), (1, .ref (gad G 4))]) 6 dX0_drawList_62 rfl (nI_1 _) (by decide) rfl ?_
        refine g_goto C 10 dX0_drawList_65 (by decide) ?_
        refine g_loc (L2 := [(0, .ref (gad G 21)), (1, .ref (gad G 4)), (2, .int (dSt (mem 21 1) (i + 1))), (3, .int ((dLs W n (mem 21 1) i) ||| ((nI 1) <<< ((nI (dM W n (mem 21 1) i)) &&& 31)))), (4, .int (nI (i + 1)))]) [5, 6, 4, 1, 0] rfl ?_
        exact g_eq (ih_10 (i + 1) (hi2) (by omega)) (by rw [cpy_s (f := fun k => nI (dM W n (mem 21 1) k)) rfl]) (gLc rfl (gLc rfl (gLc rfl (gLc (congrArg Value.int (rfl)) (rfl))))) rfl
  refine g_loc (L2 := [(0, .ref (gad G 21)), (1, .ref (gad G 4)), (2, .int (mem 21 1)), (3, .int (nI 0)), (4, .int (nI 0))]) [3, 4, 2, 1, 0] rfl ?_
  exact g_eq (lp_10 (_ + 1) 0 (Nat.zero_le _) (Nat.lt_succ_self _)) (by rw [cpy_0, gr_self]) (gLc rfl (gLc rfl (gLc (congrArg Value.int (rfl)) (gLc (congrArg Value.int (rfl)) (rfl))))) rfl

def rm_X0_drawNext : Room := { frames := 3, cells := 0, slots := 0, locals := 71 }
theorem iX0_drawNext : gIv yX0_drawNext cX0_drawNext 5 none 3 := ⟨⟨wd_469, wd_27, by decide +kernel, by decide +kernel, by decide +kernel⟩, wd_467, wd_468⟩
set_option maxRecDepth 100000 in
set_option maxHeartbeats 4000000 in
theorem c_X0_drawNext_21 (l : Launch) (G : gG) (mem : gM) {n : Nat} {W : Nat → Nat} (hn : mem 4 0 = nI n) (hn10 : n ≤ 10) (hw : ∀ m, m < n → mem 6 m = nI (W m)) (hW : ∀ m, m < n → 1 ≤ W m ∧ W m ≤ 9) (x rev : Int32) : gMet l yX0_drawNext cX0_drawNext 5 none rm_X0_drawNext G [.ref (gad G 21), .int x, .ref (gad G 4), .int rev] mem (fun a u => a = none ∧ u = gr (gr mem 21 (upd (upd (upd (mem 21) 0 (x + nI 1)) 1 (sdF rev (mem 20) (x + nI 1) n)) 2 (nI n))) 23 (cpy n (fun k => nI (dM W n (sdF rev (mem 20) (x + nI 1) n) k)) (mem 23))) := by
  refine g_of (own := RX0) (L0 := [(0, .ref (gad G 21)), (1, .int x), (2, .ref (gad G 4)), (3, .int rev)]) (by decide +kernel) rfl (Nat.le_of_ble_eq_true rfl) rfl ?_
  intro p e s m args below meth c C Q hQ
  refine g_aload_n C 0 dX0_drawNext_0 rfl ?_
  refine g_iload_n C 1 dX0_drawNext_1 rfl ?_
  refine g_iconst C (nI 1) dX0_drawNext_2 (by decide) ?_
  refine g_iadd C dX0_drawNext_3 ?_
  refine g_put_i C ob_21 0 (by decide) rfl wd_128 rfl rfl dX0_drawNext_4 ?_
  refine g_aload_n C 0 dX0_drawNext_7 rfl ?_
  refine g_aload_n C 0 dX0_drawNext_8 rfl ?_
  refine g_get_i C ob_21 0 (by decide) rfl wd_128 dX0_drawNext_9 ?_
  refine g_top (y := x + (nI 1)) (rfl) ?_
  refine g_put_i C ob_21 1 (by decide) rfl wd_132 rfl rfl dX0_drawNext_12 ?_
  refine g_mem (mem2 := gr mem 21 (upd (upd (mem 21) 0 (x + (nI 1))) 1 (x + (nI 1)))) (gr_gr _ _ _ _) ?_
  refine g_iconst C (nI 0) dX0_drawNext_15 (by decide) ?_
  refine g_istore C (L2 := [(4, .int (nI 0)), (0, .ref (gad G 21)), (1, .int x), (2, .ref (gad G 4)), (3, .int rev)]) dX0_drawNext_16 (by decide) rfl ?_
  have lp_18 : ∀ (fu : Nat) (i : Nat), (i ≤ n) → n - i < fu → gV p l e rm_X0_drawNext s m args below meth c 0 0 Q G 5 (gr mem 21 (upd (upd (mem 21) 0 (x + nI 1)) 1 (sdF rev (mem 20) (x + nI 1) i))) 18 [(0, .ref (gad G 21)), (1, .int x), (2, .ref (gad G 4)), (3, .int rev), (4, .int (nI i))] [] := by
    intro fu
    induction fu with
    | zero => intro i _ hfu; exact absurd hfu (Nat.not_lt_zero _)
    | succ fu ih_18 =>
      intro i hi hfu_18
      refine g_iload C 4 dX0_drawNext_18 rfl ?_
      refine g_aload_n C 2 dX0_drawNext_20 rfl ?_
      refine g_get_i C ob_4 0 (by decide) rfl wd_71 dX0_drawNext_21 ?_
      refine g_top (y := mem 4 0) (rfl) ?_
      refine g_top (y := nI n) (hn) ?_
      refine g_icmp_ge C 63 dX0_drawNext_24 (by decide) (fun c_24 => ?_) (fun c_24 => ?_)
      · have hin : i = n := by have q := (nI_leI (a := n) (b := i) (by omega) (by omega)).mp c_24; omega
        rw [hin]
        refine g_aload_n C 0 dX0_drawNext_63 rfl ?_
        refine g_aload_n C 2 dX0_drawNext_64 rfl ?_
        refine g_cV0 C (As := [.ref (gad G 4)]) (mem3 := gr (gr mem 21 (upd (upd (upd (mem 21) 0 (x + nI 1)) 1 (sdF rev (mem 20) (x + nI 1) n)) 2 (nI n))) 23 (cpy n (fun k => nI (dM W n (sdF rev (mem 20) (x + nI 1) n) k)) (mem 23))) iX0_drawList (c_X0_drawList_21 l G (gr mem 21 (upd (upd (mem 21) 0 (x + nI 1)) 1 (sdF rev (mem 20) (x + nI 1) n))) hn hn10 hw hW) wd_472 ob_21 rfl ⟨Nat.le_of_ble_eq_true rfl, Nat.le_of_ble_eq_true rfl⟩ ⟨rfl, rfl⟩ rfl (Nat.le_of_ble_eq_true rfl) dX0_drawNext_65 ((gr_comm _ (by decide) _ _).trans (congrArg (fun z => gr z 23 (cpy n (fun k => nI (dM W n (sdF rev (mem 20) (x + nI 1) n) k)) (mem 23))) (gr_gr _ _ _ _))) ?_
        refine g_vret C hQ rfl dX0_drawNext_68 ?_
        exact ⟨rfl, rfl⟩
      · have hi2 : i < n := by have q := mt (nI_leI (a := n) (b := i) (by omega) (by omega)).mpr c_24; omega
        refine g_iload_n C 3 dX0_drawNext_27 rfl ?_
        refine g_iload C 4 dX0_drawNext_28 rfl ?_
        refine g_cS1 C (As := [.int rev, .int (nI i)]) (w := .int (b2i (hs rev i))) (mem3 := gr mem 21 (upd (upd (mem 21) 0 (x + nI 1)) 1 (sdF rev (mem 20) (x + nI 1) i))) iX4_has (c_X4_has l G (gr mem 21 (upd (upd (mem 21) 0 (x + nI 1)) 1 (sdF rev (mem 20) (x + nI 1) i))) rev i) wd_470 rfl ⟨Nat.le_of_ble_eq_true rfl, Nat.le_of_ble_eq_true rfl⟩ ⟨rfl, rfl⟩ rfl (Nat.le_of_ble_eq_true rfl) dX0_drawNext_30 (rfl) (rfl) ?_
        refine g_ifb_eq C 57 dX0_drawNext_33 (by decide) (fun c_33 => ?_) (fun c_33 => ?_)
        · refine g_iinc C (v := nI (i + 1)) (L2 := [(4, .int (nI (i + 1))), (0, .ref (gad G 21)), (1, .int x), (2, .ref (gad G 4)), (3, .int rev)]) 4 dX0_drawNext_57 rfl (nI_1 _) (by decide) rfl ?_
          refine g_goto C 18 dX0_drawNext_60 (by decide) ?_
          refine g_loc (L2 := [(0, .ref (gad G 21)), (1, .int x), (2, .ref (gad G 4)), (3, .int rev), (4, .int (nI (i + 1)))]) [1, 2, 3, 4, 0] rfl ?_
          exact g_eq (ih_18 (i + 1) (hi2) (by omega)) (by first | rw [upd_upd, sd_t c_33] | rw [sd_f c_33]) (rfl) rfl
        · refine g_aload_n C 0 dX0_drawNext_36 rfl ?_
          refine g_aload_n C 0 dX0_drawNext_37 rfl ?_
          refine g_get_i C ob_21 1 (by decide) rfl wd_132 dX0_drawNext_38 ?_
          refine g_top (y := sdF rev (mem 20) (x + nI 1) i) (rfl) ?_
          refine g_aload_n C 2 dX0_drawNext_41 rfl ?_
          refine g_get_r C ob_4 9 (by decide) rfl wd_97 dX0_drawNext_42 ?_
          refine g_iload C 4 dX0_drawNext_45 rfl ?_
          refine g_cV1 C (As := [.int (nI i)]) (w := .int (mem 20 i)) (mem3 := gr mem 21 (upd (upd (mem 21) 0 (x + nI 1)) 1 (sdF rev (mem 20) (x + nI 1) i))) iX6_at (c_X6_at l G (gr mem 21 (upd (upd (mem 21) 0 (x + nI 1)) 1 (sdF rev (mem 20) (x + nI 1) i))) ob_19 ar_20 (by decide) (by omega)) wd_406 ob_19 rfl ⟨Nat.le_of_ble_eq_true rfl, Nat.le_of_ble_eq_true rfl⟩ ⟨rfl, rfl⟩ rfl (Nat.le_of_ble_eq_true rfl) dX0_drawNext_47 (rfl) (rfl) ?_
          refine g_ixor C dX0_drawNext_50 ?_
          refine g_cS1 C (As := [.int ((sdF rev (mem 20) (x + nI 1) i) ^^^ (mem 20 i))]) (w := .int (mixI ((sdF rev (mem 20) (x + nI 1) i) ^^^ (mem 20 i)))) (mem3 := gr mem 21 (upd (upd (mem 21) 0 (x + nI 1)) 1 (sdF rev (mem 20) (x + nI 1) i))) iX4_mixed (c_X4_mixed l G (gr mem 21 (upd (upd (mem 21) 0 (x + nI 1)) 1 (sdF rev (mem 20) (x + nI 1) i))) ((sdF rev (mem 20) (x + nI 1) i) ^^^ (mem 20 i))) wd_471 rfl ⟨Nat.le_of_ble_eq_true rfl, Nat.le_of_ble_eq_true rfl⟩ ⟨rfl, rfl⟩ rfl (Nat.le_of_ble_eq_true rfl) dX0_drawNext_51 (rfl) (rfl) ?_
          refine g_put_i C ob_21 1 (by decide) rfl wd_132 rfl rfl dX0_drawNext_54 ?_
          refine g_mem (mem2 := gr mem 21 (upd (upd (upd (mem 21) 0 (x + nI 1)) 1 (sdF rev (mem 20) (x + nI 1) i)) 1 (mixI ((sdF rev (mem 20) (x + nI 1) i) ^^^ (mem 20 i))))) (gr_gr _ _ _ _) ?_
          refine g_iinc C (v := nI (i + 1)) (L2 := [(4, .int (nI (i + 1))), (0, .ref (gad G 21)), (1, .int x), (2, .ref (gad G 4)), (3, .int rev)]) 4 dX0_drawNext_57 rfl (nI_1 _) (by decide) rfl ?_
          refine g_goto C 18 dX0_drawNext_60 (by decide) ?_
          refine g_loc (L2 := [(0, .ref (gad G 21)), (1, .int x), (2, .ref (gad G 4)), (3, .int rev), (4, .int (nI (i + 1)))]) [1, 2, 3, 4, 0] rfl ?_
          exact g_eq (ih_18 (i + 1) (hi2) (by omega)) (by first | rw [upd_upd, sd_t c_33] | rw [sd_f c_33]) (rfl) rfl
  refine g_loc (L2 := [(0, .ref (gad G 21)), (1, .int x), (2, .ref (gad G 4)), (3, .int rev), (4, .int (nI 0))]) [1, 2, 3, 4, 0] rfl ?_
  exact g_eq (lp_18 (_ + 1) 0 (Nat.zero_le _) (Nat.lt_succ_self _)) (rfl) (rfl) rfl

set_option maxRecDepth 100000 in
set_option maxHeartbeats 4000000 in
theorem c_X0_drawList_151 (l : Launch) (G : gG) (mem : gM) {n : Nat} {W : Nat → Nat} (hn : mem 4 0 = nI n) (hn10 : n ≤ 10) (hw : ∀ m, m < n → mem 6 m = nI (W m)) (hW : ∀ m, m < n → 1 ≤ W m ∧ W m ≤ 9) : gMet l yX0_drawList cX0_drawList 7 none rm_X0_drawList G [.ref (gad G 151), .ref (gad G 4)] mem (fun a u => a = none ∧ u = gr (gr mem 153 (cpy n (fun k => nI (dM W n (mem 151 1) k)) (mem 153))) 151 (upd (mem 151) 2 (nI n))) := by
  refine g_of (own := RX0) (L0 := [(0, .ref (gad G 151)), (1, .ref (gad G 4))]) (by decide +kernel) rfl (Nat.le_of_ble_eq_true rfl) rfl ?_
  intro p e s m args below meth c C Q hQ
  have hdr := dr_all (W := W) (n := n) (by omega) (fun m hm => (hW m hm).1) (mem 151 1)
  refine g_aload_n C 0 dX0_drawList_0 rfl ?_
  refine g_get_i C ob_151 1 (by decide) rfl wd_132 dX0_drawList_1 ?_
  refine g_istore_n C (L2 := [(2, .int (mem 151 1)), (0, .ref (gad G 151)), (1, .ref (gad G 4))]) dX0_drawList_4 (by decide) rfl ?_
  refine g_iconst C (nI 0) dX0_drawList_5 (by decide) ?_
  refine g_istore_n C (L2 := [(3, .int (nI 0)), (2, .int (mem 151 1)), (0, .ref (gad G 151)), (1, .ref (gad G 4))]) dX0_drawList_6 (by decide) rfl ?_
  refine g_iconst C (nI 0) dX0_drawList_7 (by decide) ?_
  refine g_istore C (L2 := [(4, .int (nI 0)), (3, .int (nI 0)), (2, .int (mem 151 1)), (0, .ref (gad G 151)), (1, .ref (gad G 4))]) dX0_drawList_8 (by decide) rfl ?_
  have lp_10 : ∀ (fu : Nat) (i : Nat), (i ≤ n) → n - i < fu → gV p l e rm_X0_drawList s m args below meth c 0 0 Q G 7 (gr mem 153 (cpy i (fun k => nI (dM W n (mem 151 1) k)) (mem 153))) 10 [(0, .ref (gad G 151)), (1, .ref (gad G 4)), (2, .int (dSt (mem 151 1) i)), (3, .int (dLs W n (mem 151 1) i)), (4, .int (nI i))] [] := by
    intro fu
    induction fu with
    | zero => intro i _ hfu; exact absurd hfu (Nat.not_lt_zero _)
    | succ fu ih_10 =>
      intro i hi hfu_10
      refine g_iload C 4 dX0_drawList_10 rfl ?_
      refine g_aload_n C 1 dX0_drawList_12 rfl ?_
      refine g_get_i C ob_4 0 (by decide) rfl wd_71 dX0_drawList_13 ?_
      refine g_top (y := mem 4 0) (rfl) ?_
      refine g_top (y := nI n) (hn) ?_
      refine g_icmp_ge C 68 dX0_drawList_16 (by decide) (fun c_16 => ?_) (fun c_16 => ?_)
      · have hin : i = n := by have q := (nI_leI (a := n) (b := i) (by omega) (by omega)).mp c_16; omega
        refine g_aload_n C 0 dX0_drawList_68 rfl ?_
        refine g_aload_n C 1 dX0_drawList_69 rfl ?_
        refine g_get_i C ob_4 0 (by decide) rfl wd_71 dX0_drawList_70 ?_
        refine g_top (y := mem 4 0) (rfl) ?_
        refine g_top (y := nI n) (hn) ?_
        refine g_put_i C ob_151 2 (by decide) rfl wd_135 rfl rfl dX0_drawList_73 ?_
        refine g_vret C hQ rfl dX0_drawList_76 ?_
        exact ⟨rfl, by rw [hin]; rfl⟩
      · have hi2 : i < n := by have q := mt (nI_leI (a := n) (b := i) (by omega) (by omega)).mpr c_16; omega
        refine g_iload_n C 2 dX0_drawList_19 rfl ?_
        refine g_cS1 C (As := [.int (dSt (mem 151 1) i)]) (w := .int (mixI (dSt (mem 151 1) i))) (mem3 := gr mem 153 (cpy i (fun k => nI (dM W n (mem 151 1) k)) (mem 153))) iX4_mixed (c_X4_mixed l G (gr mem 153 (cpy i (fun k => nI (dM W n (mem 151 1) k)) (mem 153))) (dSt (mem 151 1) i)) wd_471 rfl ⟨Nat.le_of_ble_eq_true rfl, Nat.le_of_ble_eq_true rfl⟩ ⟨rfl, rfl⟩ rfl (Nat.le_of_ble_eq_true rfl) dX0_drawList_20 (rfl) (rfl) ?_
        refine g_top (y := dSt (mem 151 1) (i + 1)) (rfl) ?_
        refine g_istore_n C (L2 := [(2, .int (dSt (mem 151 1) (i + 1))), (0, .ref (gad G 151)), (1, .ref (gad G 4)), (3, .int (dLs W n (mem 151 1) i)), (4, .int (nI i))]) dX0_drawList_23 (by decide) rfl ?_
        have hp0 := (hdr i (by omega)).2.2.2 hi2
        refine g_iload_n C 0 dX0_drawList_24 rfl ?_
        refine g_aload_n C 2 dX0_drawList_25 rfl ?_
        refine g_iload_n C 3 dX0_drawList_26 rfl ?_
        refine g_cS1 C (As := [.ref (gad G 4), .int (dLs W n (mem 151 1) i)]) (w := .int (nI (wSum W (dLs W n (mem 151 1) i) n))) (mem3 := gr mem 153 (cpy i (fun k => nI (dM W n (mem 151 1) k)) (mem 153))) iX0_weightOfOthers (c_X0_weightOfOthers l G (gr mem 153 (cpy i (fun k => nI (dM W n (mem 151 1) k)) (mem 153))) hn hn10 hw hW (dLs W n (mem 151 1) i)) wd_476 rfl ⟨Nat.le_of_ble_eq_true rfl, Nat.le_of_ble_eq_true rfl⟩ ⟨rfl, rfl⟩ rfl (Nat.le_of_ble_eq_true rfl) dX0_drawList_27 (rfl) (rfl) ?_
        refine g_cS1 C (As := [.int (dSt (mem 151 1) (i + 1)), .int (nI (wSum W (dLs W n (mem 151 1) i) n))]) (w := .int (nI (lotN (dSt (mem 151 1) (i + 1)) (wSum W (dLs W n (mem 151 1) i) n)))) (mem3 := gr mem 153 (cpy i (fun k => nI (dM W n (mem 151 1) k)) (mem 153))) iX4_lot (c_X4_lot l G (gr mem 153 (cpy i (fun k => nI (dM W n (mem 151 1) k)) (mem 153))) (dSt (mem 151 1) (i + 1)) (nI (wSum W (dLs W n (mem 151 1) i) n))) wd_479 rfl ⟨Nat.le_of_ble_eq_true rfl, Nat.le_of_ble_eq_true rfl⟩ ⟨rfl, rfl⟩ rfl (Nat.le_of_ble_eq_true rfl) dX0_drawList_30 (congrArg Value.int (lot_n _ (hp0) (by have q : wSum W (dLs W n (mem 151 1) i) n ≤ n * 9 := wS_le fun m hm => (hW m hm).2; omega))) (rfl) ?_
        refine g_istore C (L2 := [(5, .int (nI (lotN (dSt (mem 151 1) (i + 1)) (wSum W (dLs W n (mem 151 1) i) n)))), (2, .int (dSt (mem 151 1) (i + 1))), (0, .ref (gad G 151)), (1, .ref (gad G 4)), (3, .int (dLs W n (mem 151 1) i)), (4, .int (nI i))]) dX0_drawList_33 (by decide) rfl ?_
        refine g_aload_n C 3 dX0_drawList_35 rfl ?_
        refine g_iload_n C 4 dX0_drawList_36 rfl ?_
        refine g_iload C 0 dX0_drawList_37 rfl ?_
        refine g_cS1 C (As := [.ref (gad G 4), .int (dLs W n (mem 151 1) i), .int (nI (lotN (dSt (mem 151 1) (i + 1)) (wSum W (dLs W n (mem 151 1) i) n)))]) (w := .int (nI (pkM W (dLs W n (mem 151 1) i) (lotN (dSt (mem 151 1) (i + 1)) (wSum W (dLs W n (mem 151 1) i) n)) n))) (mem3 := gr mem 153 (cpy i (fun k => nI (dM W n (mem 151 1) k)) (mem 153))) iX0_memberOfLot (c_X0_memberOfLot l G (gr mem 153 (cpy i (fun k => nI (dM W n (mem 151 1) k)) (mem 153))) hn hn10 hw hW (dLs W n (mem 151 1) i) (lotN_lt _ hp0)) wd_482 rfl ⟨Nat.le_of_ble_eq_true rfl, Nat.le_of_ble_eq_true rfl⟩ ⟨rfl, rfl⟩ rfl (Nat.le_of_ble_eq_true rfl) dX0_drawList_39 (rfl) (rfl) ?_
        refine g_top (y := nI (dM W n (mem 151 1) i)) (rfl) ?_
        refine g_istore C (L2 := [(6, .int (nI (dM W n (mem 151 1) i))), (5, .int (nI (lotN (dSt (mem 151 1) (i + 1)) (wSum W (dLs W n (mem 151 1) i) n)))), (2, .int (dSt (mem 151 1) (i + 1))), (0, .ref (gad G 151)), (1, .ref (gad G 4)), (3, .int (dLs W n (mem 151 1) i)), (4, .int (nI i))]) dX0_drawList_42 (by decide) rfl ?_
        refine g_aload_n C 3 dX0_drawList_44 rfl ?_
        refine g_get_r C ob_151 3 (by decide) rfl wd_138 dX0_drawList_45 ?_
        refine g_iload C 6 dX0_drawList_48 rfl ?_
        refine g_iload C 0 dX0_drawList_50 rfl ?_
        refine g_cV0 C (As := [.int (nI i), .int (nI (dM W n (mem 151 1) i))]) (mem3 := gr (gr mem 153 (cpy i (fun k => nI (dM W n (mem 151 1) k)) (mem 153))) 153 (upd (cpy i (fun k => nI (dM W n (mem 151 1) k)) (mem 153)) i (nI (dM W n (mem 151 1) i)))) iX6_put (c_X6_put l G (gr mem 153 (cpy i (fun k => nI (dM W n (mem 151 1) k)) (mem 153))) ob_152 ar_153 (by decide) (by omega) (nI (dM W n (mem 151 1) i))) wd_485 ob_152 rfl ⟨Nat.le_of_ble_eq_true rfl, Nat.le_of_ble_eq_true rfl⟩ ⟨rfl, rfl⟩ rfl (Nat.le_of_ble_eq_true rfl) dX0_drawList_52 (rfl) ?_
        refine g_mem (mem2 := gr mem 153 (upd (cpy i (fun k => nI (dM W n (mem 151 1) k)) (mem 153)) i (nI (dM W n (mem 151 1) i)))) (gr_gr _ _ _ _) ?_
        refine g_iload_n C 5 dX0_drawList_55 rfl ?_
        refine g_iconst C (nI 1) dX0_drawList_56 (by decide) ?_
        refine g_iload C 0 dX0_drawList_57 rfl ?_
        refine g_ishl C dX0_drawList_59 ?_
        refine g_ior C dX0_drawList_60 ?_
        refine g_istore_n C (L2 := [(3, .int ((dLs W n (mem 151 1) i) ||| ((nI 1) <<< ((nI (dM W n (mem 151 1) i)) &&& 31)))), (6, .int (nI (dM W n (mem 151 1) i))), (5, .int (nI (lotN (dSt (mem 151 1) (i + 1)) (wSum W (dLs W n (mem 151 1) i) n)))), (2, .int (dSt (mem 151 1) (i + 1))), (0, .ref (gad G 151)), (1, .ref (gad G 4)), (4, .int (nI i))]) dX0_drawList_61 (by decide) rfl ?_
        refine g_iinc C (v := nI (i + 1)) (L2 := [(4, .int (nI (i + 1))), (3, .int ((dLs W n (mem 151 1) i) ||| ((nI 1) <<< ((nI (dM W n (mem 151 1) i)) &&& 31)))), (6, .int (nI (dM W n (mem 151 1) i))), (5, .int (nI (lotN (dSt (mem 151 1) (i + 1)) (wSum W (dLs W n (mem 151 1) i) n)))), (2, .int (dSt (mem 151 1) (i + 1))), (0, .ref (gad G 151)), (1, .ref (gad G 4))]) 6 dX0_drawList_62 rfl (nI_1 _) (by decide) rfl ?_
        refine g_goto C 10 dX0_drawList_65 (by decide) ?_
        refine g_loc (L2 := [(0, .ref (gad G 151)), (1, .ref (gad G 4)), (2, .int (dSt (mem 151 1) (i + 1))), (3, .int ((dLs W n (mem 151 1) i) ||| ((nI 1) <<< ((nI (dM W n (mem 151 1) i)) &&& 31)))), (4, .int (nI (i + 1)))]) [5, 6, 4, 1, 0] rfl ?_
        exact g_eq (ih_10 (i + 1) (hi2) (by omega)) (by rw [cpy_s (f := fun k => nI (dM W n (mem 151 1) k)) rfl]) (gLc rfl (gLc rfl (gLc rfl (gLc (congrArg Value.int (rfl)) (rfl))))) rfl
  refine g_loc (L2 := [(0, .ref (gad G 151)), (1, .ref (gad G 4)), (2, .int (mem 151 1)), (3, .int (nI 0)), (4, .int (nI 0))]) [3, 4, 2, 1, 0] rfl ?_
  exact g_eq (lp_10 (_ + 1) 0 (Nat.zero_le _) (Nat.lt_succ_self _)) (by rw [cpy_0, gr_self]) (gLc rfl (gLc rfl (gLc (congrArg Value.int (rfl)) (gLc (congrArg Value.int (rfl)) (rfl))))) rfl

set_option maxRecDepth 100000 in
set_option maxHeartbeats 4000000 in
theorem c_X0_drawNext_151 (l : Launch) (G : gG) (mem : gM) {n : Nat} {W : Nat → Nat} (hn : mem 4 0 = nI n) (hn10 : n ≤ 10) (hw : ∀ m, m < n → mem 6 m = nI (W m)) (hW : ∀ m, m < n → 1 ≤ W m ∧ W m ≤ 9) (x rev : Int32) : gMet l yX0_drawNext cX0_drawNext 5 none rm_X0_drawNext G [.ref (gad G 151), .int x, .ref (gad G 4), .int rev] mem (fun a u => a = none ∧ u = gr (gr mem 151 (upd (upd (upd (mem 151) 0 (x + nI 1)) 1 (sdF rev (mem 20) (x + nI 1) n)) 2 (nI n))) 153 (cpy n (fun k => nI (dM W n (sdF rev (mem 20) (x + nI 1) n) k)) (mem 153))) := by
  refine g_of (own := RX0) (L0 := [(0, .ref (gad G 151)), (1, .int x), (2, .ref (gad G 4)), (3, .int rev)]) (by decide +kernel) rfl (Nat.le_of_ble_eq_true rfl) rfl ?_
  intro p e s m args below meth c C Q hQ
  refine g_aload_n C 0 dX0_drawNext_0 rfl ?_
  refine g_iload_n C 1 dX0_drawNext_1 rfl ?_
  refine g_iconst C (nI 1) dX0_drawNext_2 (by decide) ?_
  refine g_iadd C dX0_drawNext_3 ?_
  refine g_put_i C ob_151 0 (by decide) rfl wd_128 rfl rfl dX0_drawNext_4 ?_
  refine g_aload_n C 0 dX0_drawNext_7 rfl ?_
  refine g_aload_n C 0 dX0_drawNext_8 rfl ?_
  refine g_get_i C ob_151 0 (by decide) rfl wd_128 dX0_drawNext_9 ?_
  refine g_top (y := x + (nI 1)) (rfl) ?_
  refine g_put_i C ob_151 1 (by decide) rfl wd_132 rfl rfl dX0_drawNext_12 ?_
  refine g_mem (mem2 := gr mem 151 (upd (upd (mem 151) 0 (x + (nI 1))) 1 (x + (nI 1)))) (gr_gr _ _ _ _) ?_
  refine g_iconst C (nI 0) dX0_drawNext_15 (by decide) ?_
  refine g_istore C (L2 := [(4, .int (nI 0)), (0, .ref (gad G 151)), (1, .int x), (2, .ref (gad G 4)), (3, .int rev)]) dX0_drawNext_16 (by decide) rfl ?_
  have lp_18 : ∀ (fu : Nat) (i : Nat), (i ≤ n) → n - i < fu → gV p l e rm_X0_drawNext s m args below meth c 0 0 Q G 5 (gr mem 151 (upd (upd (mem 151) 0 (x + nI 1)) 1 (sdF rev (mem 20) (x + nI 1) i))) 18 [(0, .ref (gad G 151)), (1, .int x), (2, .ref (gad G 4)), (3, .int rev), (4, .int (nI i))] [] := by
    intro fu
    induction fu with
    | zero => intro i _ hfu; exact absurd hfu (Nat.not_lt_zero _)
    | succ fu ih_18 =>
      intro i hi hfu_18
      refine g_iload C 4 dX0_drawNext_18 rfl ?_
      refine g_aload_n C 2 dX0_drawNext_20 rfl ?_
      refine g_get_i C ob_4 0 (by decide) rfl wd_71 dX0_drawNext_21 ?_
      refine g_top (y := mem 4 0) (rfl) ?_
      refine g_top (y := nI n) (hn) ?_
      refine g_icmp_ge C 63 dX0_drawNext_24 (by decide) (fun c_24 => ?_) (fun c_24 => ?_)
      · have hin : i = n := by have q := (nI_leI (a := n) (b := i) (by omega) (by omega)).mp c_24; omega
        rw [hin]
        refine g_aload_n C 0 dX0_drawNext_63 rfl ?_
        refine g_aload_n C 2 dX0_drawNext_64 rfl ?_
        refine g_cV0 C (As := [.ref (gad G 4)]) (mem3 := gr (gr mem 151 (upd (upd (upd (mem 151) 0 (x + nI 1)) 1 (sdF rev (mem 20) (x + nI 1) n)) 2 (nI n))) 153 (cpy n (fun k => nI (dM W n (sdF rev (mem 20) (x + nI 1) n) k)) (mem 153))) iX0_drawList (c_X0_drawList_151 l G (gr mem 151 (upd (upd (mem 151) 0 (x + nI 1)) 1 (sdF rev (mem 20) (x + nI 1) n))) hn hn10 hw hW) wd_472 ob_151 rfl ⟨Nat.le_of_ble_eq_true rfl, Nat.le_of_ble_eq_true rfl⟩ ⟨rfl, rfl⟩ rfl (Nat.le_of_ble_eq_true rfl) dX0_drawNext_65 ((gr_comm _ (by decide) _ _).trans (congrArg (fun z => gr z 153 (cpy n (fun k => nI (dM W n (sdF rev (mem 20) (x + nI 1) n) k)) (mem 153))) (gr_gr _ _ _ _))) ?_
        refine g_vret C hQ rfl dX0_drawNext_68 ?_
        exact ⟨rfl, rfl⟩
      · have hi2 : i < n := by have q := mt (nI_leI (a := n) (b := i) (by omega) (by omega)).mpr c_24; omega
        refine g_iload_n C 3 dX0_drawNext_27 rfl ?_
        refine g_iload C 4 dX0_drawNext_28 rfl ?_
        refine g_cS1 C (As := [.int rev, .int (nI i)]) (w := .int (b2i (hs rev i))) (mem3 := gr mem 151 (upd (upd (mem 151) 0 (x + nI 1)) 1 (sdF rev (mem 20) (x + nI 1) i))) iX4_has (c_X4_has l G (gr mem 151 (upd (upd (mem 151) 0 (x + nI 1)) 1 (sdF rev (mem 20) (x + nI 1) i))) rev i) wd_470 rfl ⟨Nat.le_of_ble_eq_true rfl, Nat.le_of_ble_eq_true rfl⟩ ⟨rfl, rfl⟩ rfl (Nat.le_of_ble_eq_true rfl) dX0_drawNext_30 (rfl) (rfl) ?_
        refine g_ifb_eq C 57 dX0_drawNext_33 (by decide) (fun c_33 => ?_) (fun c_33 => ?_)
        · refine g_iinc C (v := nI (i + 1)) (L2 := [(4, .int (nI (i + 1))), (0, .ref (gad G 151)), (1, .int x), (2, .ref (gad G 4)), (3, .int rev)]) 4 dX0_drawNext_57 rfl (nI_1 _) (by decide) rfl ?_
          refine g_goto C 18 dX0_drawNext_60 (by decide) ?_
          refine g_loc (L2 := [(0, .ref (gad G 151)), (1, .int x), (2, .ref (gad G 4)), (3, .int rev), (4, .int (nI (i + 1)))]) [1, 2, 3, 4, 0] rfl ?_
          exact g_eq (ih_18 (i + 1) (hi2) (by omega)) (by first | rw [upd_upd, sd_t c_33] | rw [sd_f c_33]) (rfl) rfl
        · refine g_aload_n C 0 dX0_drawNext_36 rfl ?_
          refine g_aload_n C 0 dX0_drawNext_37 rfl ?_
          refine g_get_i C ob_151 1 (by decide) rfl wd_132 dX0_drawNext_38 ?_
          refine g_top (y := sdF rev (mem 20) (x + nI 1) i) (rfl) ?_
          refine g_aload_n C 2 dX0_drawNext_41 rfl ?_
          refine g_get_r C ob_4 9 (by decide) rfl wd_97 dX0_drawNext_42 ?_
          refine g_iload C 4 dX0_drawNext_45 rfl ?_
          refine g_cV1 C (As := [.int (nI i)]) (w := .int (mem 20 i)) (mem3 := gr mem 151 (upd (upd (mem 151) 0 (x + nI 1)) 1 (sdF rev (mem 20) (x + nI 1) i))) iX6_at (c_X6_at l G (gr mem 151 (upd (upd (mem 151) 0 (x + nI 1)) 1 (sdF rev (mem 20) (x + nI 1) i))) ob_19 ar_20 (by decide) (by omega)) wd_406 ob_19 rfl ⟨Nat.le_of_ble_eq_true rfl, Nat.le_of_ble_eq_true rfl⟩ ⟨rfl, rfl⟩ rfl (Nat.le_of_ble_eq_true rfl) dX0_drawNext_47 (rfl) (rfl) ?_
          refine g_ixor C dX0_drawNext_50 ?_
          refine g_cS1 C (As := [.int ((sdF rev (mem 20) (x + nI 1) i) ^^^ (mem 20 i))]) (w := .int (mixI ((sdF rev (mem 20) (x + nI 1) i) ^^^ (mem 20 i)))) (mem3 := gr mem 151 (upd (upd (mem 151) 0 (x + nI 1)) 1 (sdF rev (mem 20) (x + nI 1) i))) iX4_mixed (c_X4_mixed l G (gr mem 151 (upd (upd (mem 151) 0 (x + nI 1)) 1 (sdF rev (mem 20) (x + nI 1) i))) ((sdF rev (mem 20) (x + nI 1) i) ^^^ (mem 20 i))) wd_471 rfl ⟨Nat.le_of_ble_eq_true rfl, Nat.le_of_ble_eq_true rfl⟩ ⟨rfl, rfl⟩ rfl (Nat.le_of_ble_eq_true rfl) dX0_drawNext_51 (rfl) (rfl) ?_
          refine g_put_i C ob_151 1 (by decide) rfl wd_132 rfl rfl dX0_drawNext_54 ?_
          refine g_mem (mem2 := gr mem 151 (upd (upd (upd (mem 151) 0 (x + nI 1)) 1 (sdF rev (mem 20) (x + nI 1) i)) 1 (mixI ((sdF rev (mem 20) (x + nI 1) i) ^^^ (mem 20 i))))) (gr_gr _ _ _ _) ?_
          refine g_iinc C (v := nI (i + 1)) (L2 := [(4, .int (nI (i + 1))), (0, .ref (gad G 151)), (1, .int x), (2, .ref (gad G 4)), (3, .int rev)]) 4 dX0_drawNext_57 rfl (nI_1 _) (by decide) rfl ?_
          refine g_goto C 18 dX0_drawNext_60 (by decide) ?_
          refine g_loc (L2 := [(0, .ref (gad G 151)), (1, .int x), (2, .ref (gad G 4)), (3, .int rev), (4, .int (nI (i + 1)))]) [1, 2, 3, 4, 0] rfl ?_
          exact g_eq (ih_18 (i + 1) (hi2) (by omega)) (by first | rw [upd_upd, sd_t c_33] | rw [sd_f c_33]) (rfl) rfl
  refine g_loc (L2 := [(0, .ref (gad G 151)), (1, .int x), (2, .ref (gad G 4)), (3, .int rev), (4, .int (nI 0))]) [1, 2, 3, 4, 0] rfl ?_
  exact g_eq (lp_18 (_ + 1) 0 (Nat.zero_le _) (Nat.lt_succ_self _)) (rfl) (rfl) rfl

/-- the number at rank x of a list of z, or NONE -/
def atI (f : Nat → Int32) (z : Nat) (x : Int32) : Int32 := if 0 ≤ x ∧ x < nI z then f (toN x) else kNone
theorem atI_n {f : Nat → Int32} {z j : Nat} (hz : z < 2 ^ 31) (h : j < z) : atI f z (nI j) = f j := by
  unfold atI
  rw [if_pos ⟨nI_pos' (by omega), nI_lt h hz⟩, toN_nI (by omega)]

def rm_X0_memberAt : Room := { frames := 1, cells := 0, slots := 0, locals := 21 }
theorem iX0_memberAt : gIv yX0_memberAt cX0_memberAt 2 (some .int) 1 := ⟨⟨wd_507, wd_27, by decide +kernel, by decide +kernel, by decide +kernel⟩, wd_505, wd_506⟩
set_option maxRecDepth 100000 in
set_option maxHeartbeats 4000000 in
theorem c_X0_memberAt_21 (l : Launch) (G : gG) (mem : gM) {z : Nat} (hz : mem 21 2 = nI z) (hz10 : z ≤ 10) (x : Int32) : gMet l yX0_memberAt cX0_memberAt 2 (some .int) rm_X0_memberAt G [.ref (gad G 21), .int x] mem (fun a u => a = some (.int (atI (mem 23) z x)) ∧ u = mem) := by
  refine g_of (own := RX0) (L0 := [(0, .ref (gad G 21)), (1, .int x)]) (by decide +kernel) rfl (Nat.le_of_ble_eq_true rfl) rfl ?_
  intro p e s m args below meth c C Q hQ
  refine g_iload_n C 1 dX0_memberAt_0 rfl ?_
  refine g_if_lt C 23 dX0_memberAt_1 (by decide) (fun c_1 => ?_) (fun c_1 => ?_)
  · refine g_ldc C wd_407 dX0_memberAt_23 ?_
    refine g_iret C hQ rfl dX0_memberAt_25 ?_
    first
      | exact ⟨by rw [atI_n (by omega) hjz], rfl⟩
      | exact ⟨by rw [atI, if_neg (fun q => absurd c_1 (Int32.not_lt.mpr q.1))], rfl⟩
      | exact ⟨by rw [atI, if_neg (fun q => absurd q.2 (Int32.not_lt.mpr c_9))], rfl⟩
  · have h0 : 0 ≤ x := Int32.not_lt.mp c_1
    refine g_iload_n C 1 dX0_memberAt_4 rfl ?_
    refine g_aload_n C 0 dX0_memberAt_5 rfl ?_
    refine g_get_i C ob_21 2 (by decide) rfl wd_135 dX0_memberAt_6 ?_
    refine g_top (y := nI z) (hz) ?_
    refine g_icmp_ge C 23 dX0_memberAt_9 (by decide) (fun c_9 => ?_) (fun c_9 => ?_)
    · refine g_ldc C wd_407 dX0_memberAt_23 ?_
      refine g_iret C hQ rfl dX0_memberAt_25 ?_
      first
        | exact ⟨by rw [atI_n (by omega) hjz], rfl⟩
        | exact ⟨by rw [atI, if_neg (fun q => absurd c_1 (Int32.not_lt.mpr q.1))], rfl⟩
        | exact ⟨by rw [atI, if_neg (fun q => absurd q.2 (Int32.not_lt.mpr c_9))], rfl⟩
    · have hx := Int32.not_le.mp c_9
      obtain ⟨j, hj31, hj⟩ := nI_of c_1
      have hjz : j < z := by rw [hj] at hx; exact (nI_ltI (by omega) (by omega)).mp hx
      subst hj
      refine g_aload_n C 0 dX0_memberAt_12 rfl ?_
      refine g_get_r C ob_21 3 (by decide) rfl wd_138 dX0_memberAt_13 ?_
      refine g_iload_n C 1 dX0_memberAt_16 rfl ?_
      refine g_cV1 C (As := [.int (nI j)]) (w := .int (mem 23 j)) (mem3 := mem) iX6_at (c_X6_at l G mem ob_22 ar_23 (by decide) (by omega)) wd_406 ob_22 rfl ⟨Nat.le_of_ble_eq_true rfl, Nat.le_of_ble_eq_true rfl⟩ ⟨rfl, rfl⟩ rfl (Nat.le_of_ble_eq_true rfl) dX0_memberAt_17 (rfl) (rfl) ?_
      refine g_goto C 25 dX0_memberAt_20 (by decide) ?_
      refine g_iret C hQ rfl dX0_memberAt_25 ?_
      first
        | exact ⟨by rw [atI_n (by omega) hjz], rfl⟩
        | exact ⟨by rw [atI, if_neg (fun q => absurd c_1 (Int32.not_lt.mpr q.1))], rfl⟩
        | exact ⟨by rw [atI, if_neg (fun q => absurd q.2 (Int32.not_lt.mpr c_9))], rfl⟩

set_option maxRecDepth 100000 in
set_option maxHeartbeats 4000000 in
theorem c_X0_memberAt_151 (l : Launch) (G : gG) (mem : gM) {z : Nat} (hz : mem 151 2 = nI z) (hz10 : z ≤ 10) (x : Int32) : gMet l yX0_memberAt cX0_memberAt 2 (some .int) rm_X0_memberAt G [.ref (gad G 151), .int x] mem (fun a u => a = some (.int (atI (mem 153) z x)) ∧ u = mem) := by
  refine g_of (own := RX0) (L0 := [(0, .ref (gad G 151)), (1, .int x)]) (by decide +kernel) rfl (Nat.le_of_ble_eq_true rfl) rfl ?_
  intro p e s m args below meth c C Q hQ
  refine g_iload_n C 1 dX0_memberAt_0 rfl ?_
  refine g_if_lt C 23 dX0_memberAt_1 (by decide) (fun c_1 => ?_) (fun c_1 => ?_)
  · refine g_ldc C wd_407 dX0_memberAt_23 ?_
    refine g_iret C hQ rfl dX0_memberAt_25 ?_
    first
      | exact ⟨by rw [atI_n (by omega) hjz], rfl⟩
      | exact ⟨by rw [atI, if_neg (fun q => absurd c_1 (Int32.not_lt.mpr q.1))], rfl⟩
      | exact ⟨by rw [atI, if_neg (fun q => absurd q.2 (Int32.not_lt.mpr c_9))], rfl⟩
  · have h0 : 0 ≤ x := Int32.not_lt.mp c_1
    refine g_iload_n C 1 dX0_memberAt_4 rfl ?_
    refine g_aload_n C 0 dX0_memberAt_5 rfl ?_
    refine g_get_i C ob_151 2 (by decide) rfl wd_135 dX0_memberAt_6 ?_
    refine g_top (y := nI z) (hz) ?_
    refine g_icmp_ge C 23 dX0_memberAt_9 (by decide) (fun c_9 => ?_) (fun c_9 => ?_)
    · refine g_ldc C wd_407 dX0_memberAt_23 ?_
      refine g_iret C hQ rfl dX0_memberAt_25 ?_
      first
        | exact ⟨by rw [atI_n (by omega) hjz], rfl⟩
        | exact ⟨by rw [atI, if_neg (fun q => absurd c_1 (Int32.not_lt.mpr q.1))], rfl⟩
        | exact ⟨by rw [atI, if_neg (fun q => absurd q.2 (Int32.not_lt.mpr c_9))], rfl⟩
    · have hx := Int32.not_le.mp c_9
      obtain ⟨j, hj31, hj⟩ := nI_of c_1
      have hjz : j < z := by rw [hj] at hx; exact (nI_ltI (by omega) (by omega)).mp hx
      subst hj
      refine g_aload_n C 0 dX0_memberAt_12 rfl ?_
      refine g_get_r C ob_151 3 (by decide) rfl wd_138 dX0_memberAt_13 ?_
      refine g_iload_n C 1 dX0_memberAt_16 rfl ?_
      refine g_cV1 C (As := [.int (nI j)]) (w := .int (mem 153 j)) (mem3 := mem) iX6_at (c_X6_at l G mem ob_152 ar_153 (by decide) (by omega)) wd_406 ob_152 rfl ⟨Nat.le_of_ble_eq_true rfl, Nat.le_of_ble_eq_true rfl⟩ ⟨rfl, rfl⟩ rfl (Nat.le_of_ble_eq_true rfl) dX0_memberAt_17 (rfl) (rfl) ?_
      refine g_goto C 25 dX0_memberAt_20 (by decide) ?_
      refine g_iret C hQ rfl dX0_memberAt_25 ?_
      first
        | exact ⟨by rw [atI_n (by omega) hjz], rfl⟩
        | exact ⟨by rw [atI, if_neg (fun q => absurd c_1 (Int32.not_lt.mpr q.1))], rfl⟩
        | exact ⟨by rw [atI, if_neg (fun q => absurd q.2 (Int32.not_lt.mpr c_9))], rfl⟩

def rm_X0_rankOf : Room := { frames := 1, cells := 0, slots := 0, locals := 21 }
theorem iX0_rankOf : gIv yX0_rankOf cX0_rankOf 3 (some .int) 1 := ⟨⟨wd_405, wd_27, by decide +kernel, by decide +kernel, by decide +kernel⟩, wd_403, wd_404⟩
set_option maxRecDepth 100000 in
set_option maxHeartbeats 4000000 in
theorem c_X0_rankOf (l : Launch) (G : gG) {T : Nat} {V : Nat → Int32} (g : Good T V) (mem : gM) (r : Rel V mem) {m1 : Nat} (hm : m1 < vN V) : gMet l yX0_rankOf cX0_rankOf 3 (some .int) rm_X0_rankOf G [.ref (gad G 21), .int (nI m1)] mem (fun a u => a = some (.int (V (34 + 12 * m1))) ∧ u = mem) := by
  refine g_of (own := RX0) (L0 := [(0, .ref (gad G 21)), (1, .int (nI m1))]) (by decide +kernel) rfl (Nat.le_of_ble_eq_true rfl) rfl ?_
  intro p e s m args below meth c C Q hQ
  have hn10 := gd_n10 g
  have hzn := (gd_z g).2
  refine g_iconst C (nI 0) dX0_rankOf_0 (by decide) ?_
  refine g_istore_n C (L2 := [(2, .int (nI 0)), (0, .ref (gad G 21)), (1, .int (nI m1))]) dX0_rankOf_1 (by decide) rfl ?_
  have lp_2 : ∀ (fu : Nat) (i : Nat), (i ≤ vZ V) → (∀ q, q < i → vL V q ≠ m1) → vZ V - i < fu → gV p l e rm_X0_rankOf s m args below meth c 0 0 Q G 3 mem 2 [(0, .ref (gad G 21)), (1, .int (nI m1)), (2, .int (nI i))] [] := by
    intro fu
    induction fu with
    | zero => intro i _ _ hfu; exact absurd hfu (Nat.not_lt_zero _)
    | succ fu ih_2 =>
      intro i hi hno hfu_2
      refine g_iload_n C 2 dX0_rankOf_2 rfl ?_
      refine g_aload_n C 0 dX0_rankOf_3 rfl ?_
      refine g_get_i C ob_21 2 (by decide) rfl wd_135 dX0_rankOf_4 ?_
      refine g_top (y := nI (vZ V)) (r_z r g) ?_
      refine g_icmp_ge C 30 dX0_rankOf_7 (by decide) (fun c_7 => ?_) (fun c_7 => ?_)
      · have hin : i = vZ V := by have q := (nI_leI (a := vZ V) (b := i) (by omega) (by omega)).mp c_7; omega
        refine g_ldc C wd_407 dX0_rankOf_30 ?_
        refine g_iret C hQ rfl dX0_rankOf_32 ?_
        exact ⟨by rw [gd_none g hm (hin ▸ hno)], rfl⟩
      · have hi2 : i < vZ V := by have q := mt (nI_leI (a := vZ V) (b := i) (by omega) (by omega)).mpr c_7; omega
        refine g_aload_n C 0 dX0_rankOf_10 rfl ?_
        refine g_get_r C ob_21 3 (by decide) rfl wd_138 dX0_rankOf_11 ?_
        refine g_iload_n C 2 dX0_rankOf_14 rfl ?_
        refine g_cV1 C (As := [.int (nI i)]) (w := .int (mem 23 i)) (mem3 := mem) iX6_at (c_X6_at l G mem ob_22 ar_23 (by decide) (by omega)) wd_406 ob_22 rfl ⟨Nat.le_of_ble_eq_true rfl, Nat.le_of_ble_eq_true rfl⟩ ⟨rfl, rfl⟩ rfl (Nat.le_of_ble_eq_true rfl) dX0_rankOf_15 (rfl) (rfl) ?_
        refine g_top (y := nI (vL V i)) (r_l r g hi2) ?_
        refine g_iload_n C 1 dX0_rankOf_18 rfl ?_
        refine g_icmp_ne C 24 dX0_rankOf_19 (by decide) (fun c_19 => ?_) (fun c_19 => ?_)
        · refine g_iinc C (v := nI (i + 1)) (L2 := [(2, .int (nI (i + 1))), (0, .ref (gad G 21)), (1, .int (nI m1))]) 2 dX0_rankOf_24 rfl (nI_1 _) (by decide) rfl ?_
          refine g_goto C 2 dX0_rankOf_27 (by decide) ?_
          refine g_loc (L2 := [(0, .ref (gad G 21)), (1, .int (nI m1)), (2, .int (nI (i + 1)))]) [1, 2, 0] rfl ?_
          exact g_eq (ih_2 (i + 1) (hi2) (fun q hq e => (Nat.lt_or_ge q i).elim (fun e2 => hno q e2 e) (fun e2 => c_19 (by rw [show i = q by omega, e]))) (by omega)) (rfl) (rfl) rfl
        · have c_19 : vL V i = m1 := by have q2 := (gd_l g hi2).2.1; exact (nI_iff (by omega) (by omega)).mp c_19
          refine g_iload_n C 2 dX0_rankOf_22 rfl ?_
          refine g_iret C hQ rfl dX0_rankOf_23 ?_
          exact ⟨by rw [← c_19, (gd_l g hi2).2.2], rfl⟩
  refine g_loc (L2 := [(0, .ref (gad G 21)), (1, .int (nI m1)), (2, .int (nI 0))]) [1, 2, 0] rfl ?_
  exact g_eq (lp_2 (_ + 1) 0 (Nat.zero_le _) (fun q hq => absurd hq (Nat.not_lt_zero q)) (Nat.lt_succ_self _)) (rfl) (rfl) rfl
end
section
def rm_X7_blocksLostBy : Room := { frames := 1, cells := 0, slots := 0, locals := 21 }
theorem iX7_blocksLostBy : gIv yX7_blocksLostBy cX7_blocksLostBy 4 (some .int) 1 := ⟨⟨wd_411, wd_24, by decide +kernel, by decide +kernel, by decide +kernel⟩, wd_409, wd_410⟩
set_option maxRecDepth 100000 in
set_option maxHeartbeats 4000000 in
theorem c_X7_blocksLostBy (l : Launch) (G : gG) {T : Nat} {V : Nat → Int32} (g : Good T V) (mem : gM) (r : Rel V mem) {m1 : Nat} (hm : m1 < vN V) : gMet l yX7_blocksLostBy cX7_blocksLostBy 4 (some .int) rm_X7_blocksLostBy G [.ref (gad G 1), .int (nI m1)] mem (fun a u => a = some (.int (nI (fa_cnt (fun b => vLo V b m1) 200))) ∧ u = mem) := by
  refine g_of (own := RX7) (L0 := [(0, .ref (gad G 1)), (1, .int (nI m1))]) (by decide +kernel) rfl (Nat.le_of_ble_eq_true rfl) rfl ?_
  intro p e s m args below meth c C Q hQ
  have hn10 := gd_n10 g
  refine g_iconst C (nI 0) dX7_blocksLostBy_0 (by decide) ?_
  refine g_istore_n C (L2 := [(2, .int (nI 0)), (0, .ref (gad G 1)), (1, .int (nI m1))]) dX7_blocksLostBy_1 (by decide) rfl ?_
  refine g_iconst C (nI 0) dX7_blocksLostBy_2 (by decide) ?_
  refine g_istore_n C (L2 := [(3, .int (nI 0)), (2, .int (nI 0)), (0, .ref (gad G 1)), (1, .int (nI m1))]) dX7_blocksLostBy_3 (by decide) rfl ?_
  have lp_4 : ∀ (fu : Nat) (i : Nat), (i ≤ 200) → 200 - i < fu → gV p l e rm_X7_blocksLostBy s m args below meth c 0 0 Q G 4 mem 4 [(0, .ref (gad G 1)), (1, .int (nI m1)), (2, .int (nI (fa_cnt (fun b => vLo V b m1) i))), (3, .int (nI i))] [] := by
    intro fu
    induction fu with
    | zero => intro i _ hfu; exact absurd hfu (Nat.not_lt_zero _)
    | succ fu ih_4 =>
      intro i hi hfu_4
      refine g_iload_n C 3 dX7_blocksLostBy_4 rfl ?_
      refine g_sipush C (nI 200) dX7_blocksLostBy_5 (by decide) ?_
      refine g_icmp_ge C 40 dX7_blocksLostBy_8 (by decide) (fun c_8 => ?_) (fun c_8 => ?_)
      · have hin : i = 200 := by have q := (nI_leI (a := 200) (b := i) (by omega) (by omega)).mp c_8; omega
        refine g_iload_n C 2 dX7_blocksLostBy_40 rfl ?_
        refine g_iret C hQ rfl dX7_blocksLostBy_41 ?_
        exact ⟨by rw [hin], rfl⟩
      · have hi2 : i < 200 := by have q := mt (nI_leI (a := 200) (b := i) (by omega) (by omega)).mpr c_8; omega
        refine g_iload_n C 2 dX7_blocksLostBy_11 rfl ?_
        refine g_aload_n C 0 dX7_blocksLostBy_12 rfl ?_
        refine g_get_r C ob_1 3 (by decide) rfl wd_185 dX7_blocksLostBy_13 ?_
        refine g_iload_n C 3 dX7_blocksLostBy_16 rfl ?_
        refine g_cV1 C (As := [.int (nI i)]) (w := .int (mem 25 i)) (mem3 := mem) iX6_at (c_X6_at l G mem ob_24 ar_25 (by decide) (by omega)) wd_412 ob_24 rfl ⟨Nat.le_of_ble_eq_true rfl, Nat.le_of_ble_eq_true rfl⟩ ⟨rfl, rfl⟩ rfl (Nat.le_of_ble_eq_true rfl) dX7_blocksLostBy_17 (rfl) (rfl) ?_
        refine g_top (y := V (150 + i)) (r_lo r hi2) ?_
        refine g_iload_n C 1 dX7_blocksLostBy_20 rfl ?_
        refine g_cS1 C (As := [.int (V (150 + i)), .int (nI m1)]) (w := .int (b2i (hs (V (150 + i)) m1))) (mem3 := mem) iX4_has (c_X4_has l G mem (V (150 + i)) m1) wd_413 rfl ⟨Nat.le_of_ble_eq_true rfl, Nat.le_of_ble_eq_true rfl⟩ ⟨rfl, rfl⟩ rfl (Nat.le_of_ble_eq_true rfl) dX7_blocksLostBy_21 (rfl) (rfl) ?_
        refine g_ifb_eq C 31 dX7_blocksLostBy_24 (by decide) (fun c_24 => ?_) (fun c_24 => ?_)
        · refine g_iconst C (nI 0) dX7_blocksLostBy_31 (by decide) ?_
          refine g_iadd_n C (d := (fa_cnt (fun b => vLo V b m1) i) + 0) dX7_blocksLostBy_32 rfl ?_
          refine g_istore_n C (L2 := [(2, .int (nI ((fa_cnt (fun b => vLo V b m1) i) + 0))), (0, .ref (gad G 1)), (1, .int (nI m1)), (3, .int (nI i))]) dX7_blocksLostBy_33 (by decide) rfl ?_
          refine g_iinc C (v := nI (i + 1)) (L2 := [(3, .int (nI (i + 1))), (2, .int (nI ((fa_cnt (fun b => vLo V b m1) i) + 0))), (0, .ref (gad G 1)), (1, .int (nI m1))]) 3 dX7_blocksLostBy_34 rfl (nI_1 _) (by decide) rfl ?_
          refine g_goto C 4 dX7_blocksLostBy_37 (by decide) ?_
          refine g_loc (L2 := [(0, .ref (gad G 1)), (1, .int (nI m1)), (2, .int (nI ((fa_cnt (fun b => vLo V b m1) i) + 0))), (3, .int (nI (i + 1)))]) [2, 3, 1, 0] rfl ?_
          exact g_eq (ih_4 (i + 1) (hi2) (by omega)) (rfl) (gLc rfl (gLc rfl (gLc (congrArg Value.int (by first | rw [fa_cnt_yes (p := fun b => vLo V b m1) ((hs_bt (by omega)).mp c_24)] | rw [fa_cnt_no (p := fun b => vLo V b m1) ((nhs_bt (by omega)).mp c_24)]; rfl)) (rfl)))) rfl
        · refine g_iconst C (nI 1) dX7_blocksLostBy_27 (by decide) ?_
          refine g_goto C 32 dX7_blocksLostBy_28 (by decide) ?_
          refine g_iadd_n C (d := (fa_cnt (fun b => vLo V b m1) i) + 1) dX7_blocksLostBy_32 rfl ?_
          refine g_istore_n C (L2 := [(2, .int (nI ((fa_cnt (fun b => vLo V b m1) i) + 1))), (0, .ref (gad G 1)), (1, .int (nI m1)), (3, .int (nI i))]) dX7_blocksLostBy_33 (by decide) rfl ?_
          refine g_iinc C (v := nI (i + 1)) (L2 := [(3, .int (nI (i + 1))), (2, .int (nI ((fa_cnt (fun b => vLo V b m1) i) + 1))), (0, .ref (gad G 1)), (1, .int (nI m1))]) 3 dX7_blocksLostBy_34 rfl (nI_1 _) (by decide) rfl ?_
          refine g_goto C 4 dX7_blocksLostBy_37 (by decide) ?_
          refine g_loc (L2 := [(0, .ref (gad G 1)), (1, .int (nI m1)), (2, .int (nI ((fa_cnt (fun b => vLo V b m1) i) + 1))), (3, .int (nI (i + 1)))]) [2, 3, 1, 0] rfl ?_
          exact g_eq (ih_4 (i + 1) (hi2) (by omega)) (rfl) (gLc rfl (gLc rfl (gLc (congrArg Value.int (by first | rw [fa_cnt_yes (p := fun b => vLo V b m1) ((hs_bt (by omega)).mp c_24)] | rw [fa_cnt_no (p := fun b => vLo V b m1) ((nhs_bt (by omega)).mp c_24)]; rfl)) (rfl)))) rfl
  refine g_loc (L2 := [(0, .ref (gad G 1)), (1, .int (nI m1)), (2, .int (nI 0)), (3, .int (nI 0))]) [2, 3, 1, 0] rfl ?_
  exact g_eq (lp_4 (_ + 1) 0 (Nat.zero_le _) (Nat.lt_succ_self _)) (rfl) (gLc rfl (gLc rfl (gLc (congrArg Value.int (rfl)) (rfl)))) rfl

def rm_X2_kept : Room := { frames := 1, cells := 0, slots := 0, locals := 23 }
theorem iX2_kept : gIv yX2_kept cX2_kept 1 (some .int) 0 := ⟨⟨wd_655, wd_28, by decide +kernel, by decide +kernel, by decide +kernel⟩, wd_653, wd_654⟩
set_option maxRecDepth 100000 in
set_option maxHeartbeats 4000000 in
theorem c_X2_kept (l : Launch) (G : gG) (mem : gM) {md : Nat} (hmd : mem 26 0 = nI md) (hmd31 : md < 2 ^ 30) : gMet l yX2_kept cX2_kept 1 (some .int) rm_X2_kept G [.ref (gad G 26)] mem (fun a u => a = some (.int (nI (min md 20))) ∧ u = mem) := by
  refine g_of (own := RX2) (L0 := [(0, .ref (gad G 26))]) (by decide +kernel) rfl (Nat.le_of_ble_eq_true rfl) rfl ?_
  intro p e s m args below meth c C Q hQ
  refine g_aload_n C 0 dX2_kept_0 rfl ?_
  refine g_get_i C ob_26 0 (by decide) rfl wd_156 dX2_kept_1 ?_
  refine g_top (y := nI md) (hmd) ?_
  refine g_bipush C (nI 20) dX2_kept_4 (by decide) ?_
  refine g_mmin C wd_656 wd_344 wd_33 wd_345 (by decide) (Nat.le_of_ble_eq_true rfl) dX2_kept_6 ?_
  refine g_iret C hQ rfl dX2_kept_9 ?_
  refine ⟨?_, rfl⟩
  by_cases q : 20 < md
  · rw [if_pos (nI_lt q (by omega)), show min md 20 = 20 by omega]
  · rw [if_neg (nI_nlt (by omega) (by omega)), show min md 20 = md by omega]

def rm_X2_number : Room := { frames := 2, cells := 0, slots := 0, locals := 43 }
theorem iX2_number : gIv yX2_number cX2_number 3 (some .int) 2 := ⟨⟨wd_651, wd_28, by decide +kernel, by decide +kernel, by decide +kernel⟩, wd_649, wd_650⟩
set_option maxRecDepth 100000 in
set_option maxHeartbeats 4000000 in
theorem c_X2_number (l : Launch) (G : gG) (mem : gM) {md : Nat} (hmd : mem 26 0 = nI md) (hmd31 : md < 2 ^ 30) {i0 w0 : Nat} (hi0 : i0 < 2 ^ 31) (hw0 : w0 < 7) : gMet l yX2_number cX2_number 3 (some .int) rm_X2_number G [.ref (gad G 26), .int (nI i0), .int (nI w0)] mem (fun a u => a = some (.int (if i0 < min md 20 then mem 28 ((md - 1 - i0) % 20 * 7 + w0) else kNone)) ∧ u = mem) := by
  refine g_of (own := RX2) (L0 := [(0, .ref (gad G 26)), (1, .int (nI i0)), (2, .int (nI w0))]) (by decide +kernel) rfl (Nat.le_of_ble_eq_true rfl) rfl ?_
  intro p e s m args below meth c C Q hQ
  refine g_iload_n C 1 dX2_number_0 rfl ?_
  refine g_aload_n C 0 dX2_number_1 rfl ?_
  refine g_cV1 C (As := []) (w := .int (nI (min md 20))) (mem3 := mem) iX2_kept (c_X2_kept l G mem (hmd) (hmd31)) wd_652 ob_26 rfl ⟨Nat.le_of_ble_eq_true rfl, Nat.le_of_ble_eq_true rfl⟩ ⟨rfl, rfl⟩ rfl (Nat.le_of_ble_eq_true rfl) dX2_number_2 (rfl) (rfl) ?_
  refine g_icmp_lt C 11 dX2_number_5 (by decide) (fun c_5 => ?_) (fun c_5 => ?_)
  · have c_5 : i0 < min md 20 := (nI_ltI (by omega) (by omega)).mp c_5
    refine g_aload_n C 0 dX2_number_11 rfl ?_
    refine g_get_r C ob_26 3 (by decide) rfl wd_162 dX2_number_12 ?_
    refine g_aload_n C 0 dX2_number_15 rfl ?_
    refine g_get_i C ob_26 0 (by decide) rfl wd_156 dX2_number_16 ?_
    refine g_top (y := nI md) (hmd) ?_
    refine g_iconst C (nI 1) dX2_number_19 (by decide) ?_
    refine g_isub C dX2_number_20 ?_
    refine g_top (pk_sub (by omega)) ?_
    refine g_iload_n C 1 dX2_number_21 rfl ?_
    refine g_isub C dX2_number_22 ?_
    refine g_top (pk_sub (by omega)) ?_
    refine g_bipush C (nI 20) dX2_number_23 (by decide) ?_
    refine g_irem C (by decide) dX2_number_25 ?_
    refine g_top (y := nI ((md - 1 - i0) % 20)) (pk_rem (by omega) (by decide) (by decide)) ?_
    refine g_bipush C (nI 7) dX2_number_26 (by decide) ?_
    refine g_imul_n C (d := ((md - 1 - i0) % 20) * 7) dX2_number_28 rfl ?_
    refine g_iload_n C 2 dX2_number_29 rfl ?_
    refine g_iadd_n C (d := (((md - 1 - i0) % 20) * 7) + w0) dX2_number_30 rfl ?_
    refine g_cV1 C (As := [.int (nI ((((md - 1 - i0) % 20) * 7) + w0))]) (w := .int (mem 28 ((((md - 1 - i0) % 20) * 7) + w0))) (mem3 := mem) iX6_at (c_X6_at l G mem ob_27 ar_28 (by decide) (by omega)) wd_658 ob_27 rfl ⟨Nat.le_of_ble_eq_true rfl, Nat.le_of_ble_eq_true rfl⟩ ⟨rfl, rfl⟩ rfl (Nat.le_of_ble_eq_true rfl) dX2_number_31 (rfl) (rfl) ?_
    refine g_iret C hQ rfl dX2_number_34 ?_
    exact ⟨by rw [if_pos c_5], rfl⟩
  · have c_5 : ¬ i0 < min md 20 := fun q => c_5 (nI_lt q (by omega))
    refine g_ldc C wd_657 dX2_number_8 ?_
    refine g_iret C hQ rfl dX2_number_10 ?_
    exact ⟨by rw [if_neg c_5], rfl⟩

/-- the seven numbers of a repair, laid from place k on -/
def lay7 (f : Nat → Int32) (k : Nat) (a0 a1 a2 a3 a4 a5 a6 : Int32) : Nat → Int32 := upd (upd (upd (upd (upd (upd (upd f k a0) (k + 1) a1) (k + 2) a2) (k + 3) a3) (k + 4) a4) (k + 5) a5) (k + 6) a6

def rm_X2_add : Room := { frames := 1, cells := 0, slots := 0, locals := 22 }
theorem iX2_add : gIv yX2_add cX2_add 4 none 2 := ⟨⟨wd_628, wd_28, by decide +kernel, by decide +kernel, by decide +kernel⟩, wd_626, wd_627⟩
set_option maxRecDepth 100000 in
set_option maxHeartbeats 4000000 in
theorem c_X2_add (l : Launch) (G : gG) (mem : gM) {md : Nat} (hmd : mem 26 0 = nI md) (hmd31 : md < 2 ^ 30) (rd : Int32) : gMet l yX2_add cX2_add 4 none rm_X2_add G [.ref (gad G 26), .ref (gad G 146), .int rd] mem (fun a u => a = none ∧ u = gr (gr mem 28 (lay7 (mem 28) (md % 20 * 7) (mem 146 0) rd (mem 146 7) (mem 146 3) (mem 146 4) (mem 146 5) (mem 146 9))) 26 (upd (upd (upd (mem 26) 0 (nI (md + 1))) 1 (mem 26 1 + bcI (mem 146 3))) 2 (mem 26 2 + bcI (mem 146 4)))) := by
  refine g_of (own := RX2) (L0 := [(0, .ref (gad G 26)), (1, .ref (gad G 146)), (2, .int rd)]) (by decide +kernel) rfl (Nat.le_of_ble_eq_true rfl) rfl ?_
  intro p e s m args below meth c C Q hQ
  refine g_aload_n C 0 dX2_add_0 rfl ?_
  refine g_get_i C ob_26 0 (by decide) rfl wd_156 dX2_add_1 ?_
  refine g_top (y := nI md) (hmd) ?_
  refine g_bipush C (nI 20) dX2_add_4 (by decide) ?_
  refine g_irem C (by decide) dX2_add_6 ?_
  refine g_top (y := nI (md % 20)) (pk_rem (by omega) (by decide) (by decide)) ?_
  refine g_bipush C (nI 7) dX2_add_7 (by decide) ?_
  refine g_imul_n C (d := (md % 20) * 7) dX2_add_9 rfl ?_
  refine g_istore_n C (L2 := [(3, .int (nI ((md % 20) * 7))), (0, .ref (gad G 26)), (1, .ref (gad G 146)), (2, .int rd)]) dX2_add_10 (by decide) rfl ?_
  refine g_aload_n C 1 dX2_add_11 rfl ?_
  refine g_get_r C ob_26 3 (by decide) rfl wd_162 dX2_add_12 ?_
  refine g_iload_n C 0 dX2_add_15 rfl ?_
  refine g_aload_n C 2 dX2_add_16 rfl ?_
  refine g_get_i C ob_146 0 (by decide) rfl wd_246 dX2_add_17 ?_
  refine g_cV0 C (As := [.int (nI ((md % 20) * 7)), .int (mem 146 0)]) (mem3 := gr mem 28 (upd (mem 28) ((md % 20) * 7) (mem 146 0))) iX6_put (c_X6_put l G mem ob_27 ar_28 (by decide) (by omega) (mem 146 0)) wd_629 ob_27 rfl ⟨Nat.le_of_ble_eq_true rfl, Nat.le_of_ble_eq_true rfl⟩ ⟨rfl, rfl⟩ rfl (Nat.le_of_ble_eq_true rfl) dX2_add_20 (rfl) ?_
  refine g_aload_n C 1 dX2_add_23 rfl ?_
  refine g_get_r C ob_26 3 (by decide) rfl wd_162 dX2_add_24 ?_
  refine g_iload_n C 0 dX2_add_27 rfl ?_
  refine g_iconst C (nI 1) dX2_add_28 (by decide) ?_
  refine g_iadd_n C (d := ((md % 20) * 7) + 1) dX2_add_29 rfl ?_
  refine g_iload_n C 3 dX2_add_30 rfl ?_
  refine g_cV0 C (As := [.int (nI (((md % 20) * 7) + 1)), .int rd]) (mem3 := gr (gr mem 28 (upd (mem 28) ((md % 20) * 7) (mem 146 0))) 28 (upd (upd (mem 28) ((md % 20) * 7) (mem 146 0)) (((md % 20) * 7) + 1) rd)) iX6_put (c_X6_put l G (gr mem 28 (upd (mem 28) ((md % 20) * 7) (mem 146 0))) ob_27 ar_28 (by decide) (by omega) rd) wd_629 ob_27 rfl ⟨Nat.le_of_ble_eq_true rfl, Nat.le_of_ble_eq_true rfl⟩ ⟨rfl, rfl⟩ rfl (Nat.le_of_ble_eq_true rfl) dX2_add_31 (rfl) ?_
  refine g_mem (mem2 := gr mem 28 (upd (upd (mem 28) ((md % 20) * 7) (mem 146 0)) (((md % 20) * 7) + 1) rd)) (gr_gr _ _ _ _) ?_
  refine g_aload_n C 1 dX2_add_34 rfl ?_
  refine g_get_r C ob_26 3 (by decide) rfl wd_162 dX2_add_35 ?_
  refine g_iload_n C 0 dX2_add_38 rfl ?_
  refine g_iconst C (nI 2) dX2_add_39 (by decide) ?_
  refine g_iadd_n C (d := ((md % 20) * 7) + 2) dX2_add_40 rfl ?_
  refine g_aload_n C 2 dX2_add_41 rfl ?_
  refine g_get_i C ob_146 7 (by decide) rfl wd_261 dX2_add_42 ?_
  refine g_top (y := mem 146 7) (rfl) ?_
  refine g_cV0 C (As := [.int (nI (((md % 20) * 7) + 2)), .int (mem 146 7)]) (mem3 := gr (gr mem 28 (upd (upd (mem 28) ((md % 20) * 7) (mem 146 0)) (((md % 20) * 7) + 1) rd)) 28 (upd (upd (upd (mem 28) ((md % 20) * 7) (mem 146 0)) (((md % 20) * 7) + 1) rd) (((md % 20) * 7) + 2) (mem 146 7))) iX6_put (c_X6_put l G (gr mem 28 (upd (upd (mem 28) ((md % 20) * 7) (mem 146 0)) (((md % 20) * 7) + 1) rd)) ob_27 ar_28 (by decide) (by omega) (mem 146 7)) wd_629 ob_27 rfl ⟨Nat.le_of_ble_eq_true rfl, Nat.le_of_ble_eq_true rfl⟩ ⟨rfl, rfl⟩ rfl (Nat.le_of_ble_eq_true rfl) dX2_add_45 (rfl) ?_
  refine g_mem (mem2 := gr mem 28 (upd (upd (upd (mem 28) ((md % 20) * 7) (mem 146 0)) (((md % 20) * 7) + 1) rd) (((md % 20) * 7) + 2) (mem 146 7))) (gr_gr _ _ _ _) ?_
  refine g_aload_n C 1 dX2_add_48 rfl ?_
  refine g_get_r C ob_26 3 (by decide) rfl wd_162 dX2_add_49 ?_
  refine g_iload_n C 0 dX2_add_52 rfl ?_
  refine g_iconst C (nI 3) dX2_add_53 (by decide) ?_
  refine g_iadd_n C (d := ((md % 20) * 7) + 3) dX2_add_54 rfl ?_
  refine g_aload_n C 2 dX2_add_55 rfl ?_
  refine g_get_i C ob_146 3 (by decide) rfl wd_253 dX2_add_56 ?_
  refine g_top (y := mem 146 3) (rfl) ?_
  refine g_cV0 C (As := [.int (nI (((md % 20) * 7) + 3)), .int (mem 146 3)]) (mem3 := gr (gr mem 28 (upd (upd (upd (mem 28) ((md % 20) * 7) (mem 146 0)) (((md % 20) * 7) + 1) rd) (((md % 20) * 7) + 2) (mem 146 7))) 28 (upd (upd (upd (upd (mem 28) ((md % 20) * 7) (mem 146 0)) (((md % 20) * 7) + 1) rd) (((md % 20) * 7) + 2) (mem 146 7)) (((md % 20) * 7) + 3) (mem 146 3))) iX6_put (c_X6_put l G (gr mem 28 (upd (upd (upd (mem 28) ((md % 20) * 7) (mem 146 0)) (((md % 20) * 7) + 1) rd) (((md % 20) * 7) + 2) (mem 146 7))) ob_27 ar_28 (by decide) (by omega) (mem 146 3)) wd_629 ob_27 rfl ⟨Nat.le_of_ble_eq_true rfl, Nat.le_of_ble_eq_true rfl⟩ ⟨rfl, rfl⟩ rfl (Nat.le_of_ble_eq_true rfl) dX2_add_59 (rfl) ?_
  refine g_mem (mem2 := gr mem 28 (upd (upd (upd (upd (mem 28) ((md % 20) * 7) (mem 146 0)) (((md % 20) * 7) + 1) rd) (((md % 20) * 7) + 2) (mem 146 7)) (((md % 20) * 7) + 3) (mem 146 3))) (gr_gr _ _ _ _) ?_
  refine g_aload_n C 1 dX2_add_62 rfl ?_
  refine g_get_r C ob_26 3 (by decide) rfl wd_162 dX2_add_63 ?_
  refine g_iload_n C 0 dX2_add_66 rfl ?_
  refine g_iconst C (nI 4) dX2_add_67 (by decide) ?_
  refine g_iadd_n C (d := ((md % 20) * 7) + 4) dX2_add_68 rfl ?_
  refine g_aload_n C 2 dX2_add_69 rfl ?_
  refine g_get_i C ob_146 4 (by decide) rfl wd_255 dX2_add_70 ?_
  refine g_top (y := mem 146 4) (rfl) ?_
  refine g_cV0 C (As := [.int (nI (((md % 20) * 7) + 4)), .int (mem 146 4)]) (mem3 := gr (gr mem 28 (upd (upd (upd (upd (mem 28) ((md % 20) * 7) (mem 146 0)) (((md % 20) * 7) + 1) rd) (((md % 20) * 7) + 2) (mem 146 7)) (((md % 20) * 7) + 3) (mem 146 3))) 28 (upd (upd (upd (upd (upd (mem 28) ((md % 20) * 7) (mem 146 0)) (((md % 20) * 7) + 1) rd) (((md % 20) * 7) + 2) (mem 146 7)) (((md % 20) * 7) + 3) (mem 146 3)) (((md % 20) * 7) + 4) (mem 146 4))) iX6_put (c_X6_put l G (gr mem 28 (upd (upd (upd (upd (mem 28) ((md % 20) * 7) (mem 146 0)) (((md % 20) * 7) + 1) rd) (((md % 20) * 7) + 2) (mem 146 7)) (((md % 20) * 7) + 3) (mem 146 3))) ob_27 ar_28 (by decide) (by omega) (mem 146 4)) wd_629 ob_27 rfl ⟨Nat.le_of_ble_eq_true rfl, Nat.le_of_ble_eq_true rfl⟩ ⟨rfl, rfl⟩ rfl (Nat.le_of_ble_eq_true rfl) dX2_add_73 (rfl) ?_
  refine g_mem (mem2 := gr mem 28 (upd (upd (upd (upd (upd (mem 28) ((md % 20) * 7) (mem 146 0)) (((md % 20) * 7) + 1) rd) (((md % 20) * 7) + 2) (mem 146 7)) (((md % 20) * 7) + 3) (mem 146 3)) (((md % 20) * 7) + 4) (mem 146 4))) (gr_gr _ _ _ _) ?_
  refine g_aload_n C 1 dX2_add_76 rfl ?_
  refine g_get_r C ob_26 3 (by decide) rfl wd_162 dX2_add_77 ?_
  refine g_iload_n C 0 dX2_add_80 rfl ?_
  refine g_iconst C (nI 5) dX2_add_81 (by decide) ?_
  refine g_iadd_n C (d := ((md % 20) * 7) + 5) dX2_add_82 rfl ?_
  refine g_aload_n C 2 dX2_add_83 rfl ?_
  refine g_get_i C ob_146 5 (by decide) rfl wd_257 dX2_add_84 ?_
  refine g_top (y := mem 146 5) (rfl) ?_
  refine g_cV0 C (As := [.int (nI (((md % 20) * 7) + 5)), .int (mem 146 5)]) (mem3 := gr (gr mem 28 (upd (upd (upd (upd (upd (mem 28) ((md % 20) * 7) (mem 146 0)) (((md % 20) * 7) + 1) rd) (((md % 20) * 7) + 2) (mem 146 7)) (((md % 20) * 7) + 3) (mem 146 3)) (((md % 20) * 7) + 4) (mem 146 4))) 28 (upd (upd (upd (upd (upd (upd (mem 28) ((md % 20) * 7) (mem 146 0)) (((md % 20) * 7) + 1) rd) (((md % 20) * 7) + 2) (mem 146 7)) (((md % 20) * 7) + 3) (mem 146 3)) (((md % 20) * 7) + 4) (mem 146 4)) (((md % 20) * 7) + 5) (mem 146 5))) iX6_put (c_X6_put l G (gr mem 28 (upd (upd (upd (upd (upd (mem 28) ((md % 20) * 7) (mem 146 0)) (((md % 20) * 7) + 1) rd) (((md % 20) * 7) + 2) (mem 146 7)) (((md % 20) * 7) + 3) (mem 146 3)) (((md % 20) * 7) + 4) (mem 146 4))) ob_27 ar_28 (by decide) (by omega) (mem 146 5)) wd_629 ob_27 rfl ⟨Nat.le_of_ble_eq_true rfl, Nat.le_of_ble_eq_true rfl⟩ ⟨rfl, rfl⟩ rfl (Nat.le_of_ble_eq_true rfl) dX2_add_87 (rfl) ?_
  refine g_mem (mem2 := gr mem 28 (upd (upd (upd (upd (upd (upd (mem 28) ((md % 20) * 7) (mem 146 0)) (((md % 20) * 7) + 1) rd) (((md % 20) * 7) + 2) (mem 146 7)) (((md % 20) * 7) + 3) (mem 146 3)) (((md % 20) * 7) + 4) (mem 146 4)) (((md % 20) * 7) + 5) (mem 146 5))) (gr_gr _ _ _ _) ?_
  refine g_aload_n C 1 dX2_add_90 rfl ?_
  refine g_get_r C ob_26 3 (by decide) rfl wd_162 dX2_add_91 ?_
  refine g_iload_n C 0 dX2_add_94 rfl ?_
  refine g_bipush C (nI 6) dX2_add_95 (by decide) ?_
  refine g_iadd_n C (d := ((md % 20) * 7) + 6) dX2_add_97 rfl ?_
  refine g_aload_n C 2 dX2_add_98 rfl ?_
  refine g_get_i C ob_146 9 (by decide) rfl wd_265 dX2_add_99 ?_
  refine g_top (y := mem 146 9) (rfl) ?_
  refine g_cV0 C (As := [.int (nI (((md % 20) * 7) + 6)), .int (mem 146 9)]) (mem3 := gr (gr mem 28 (upd (upd (upd (upd (upd (upd (mem 28) ((md % 20) * 7) (mem 146 0)) (((md % 20) * 7) + 1) rd) (((md % 20) * 7) + 2) (mem 146 7)) (((md % 20) * 7) + 3) (mem 146 3)) (((md % 20) * 7) + 4) (mem 146 4)) (((md % 20) * 7) + 5) (mem 146 5))) 28 (upd (upd (upd (upd (upd (upd (upd (mem 28) ((md % 20) * 7) (mem 146 0)) (((md % 20) * 7) + 1) rd) (((md % 20) * 7) + 2) (mem 146 7)) (((md % 20) * 7) + 3) (mem 146 3)) (((md % 20) * 7) + 4) (mem 146 4)) (((md % 20) * 7) + 5) (mem 146 5)) (((md % 20) * 7) + 6) (mem 146 9))) iX6_put (c_X6_put l G (gr mem 28 (upd (upd (upd (upd (upd (upd (mem 28) ((md % 20) * 7) (mem 146 0)) (((md % 20) * 7) + 1) rd) (((md % 20) * 7) + 2) (mem 146 7)) (((md % 20) * 7) + 3) (mem 146 3)) (((md % 20) * 7) + 4) (mem 146 4)) (((md % 20) * 7) + 5) (mem 146 5))) ob_27 ar_28 (by decide) (by omega) (mem 146 9)) wd_629 ob_27 rfl ⟨Nat.le_of_ble_eq_true rfl, Nat.le_of_ble_eq_true rfl⟩ ⟨rfl, rfl⟩ rfl (Nat.le_of_ble_eq_true rfl) dX2_add_102 (rfl) ?_
  refine g_mem (mem2 := gr mem 28 (upd (upd (upd (upd (upd (upd (upd (mem 28) ((md % 20) * 7) (mem 146 0)) (((md % 20) * 7) + 1) rd) (((md % 20) * 7) + 2) (mem 146 7)) (((md % 20) * 7) + 3) (mem 146 3)) (((md % 20) * 7) + 4) (mem 146 4)) (((md % 20) * 7) + 5) (mem 146 5)) (((md % 20) * 7) + 6) (mem 146 9))) (gr_gr _ _ _ _) ?_
  refine g_aload_n C 1 dX2_add_105 rfl ?_
  refine g_dup C dX2_add_106 rfl ?_
  refine g_get_i C ob_26 0 (by decide) rfl wd_156 dX2_add_107 ?_
  refine g_top (y := mem 26 0) (rfl) ?_
  refine g_top (y := nI md) (hmd) ?_
  refine g_iconst C (nI 1) dX2_add_110 (by decide) ?_
  refine g_iadd_n C (d := md + 1) dX2_add_111 rfl ?_
  refine g_put_i C ob_26 0 (by decide) rfl wd_156 rfl rfl dX2_add_112 ?_
  refine g_aload_n C 1 dX2_add_115 rfl ?_
  refine g_dup C dX2_add_116 rfl ?_
  refine g_get_i C ob_26 1 (by decide) rfl wd_158 dX2_add_117 ?_
  refine g_top (y := mem 26 1) (rfl) ?_
  refine g_aload_n C 2 dX2_add_120 rfl ?_
  refine g_get_i C ob_146 3 (by decide) rfl wd_253 dX2_add_121 ?_
  refine g_top (y := mem 146 3) (rfl) ?_
  refine g_cS1 C (As := [.int (mem 146 3)]) (w := .int (bcI (mem 146 3))) (mem3 := gr (gr mem 28 (upd (upd (upd (upd (upd (upd (upd (mem 28) ((md % 20) * 7) (mem 146 0)) (((md % 20) * 7) + 1) rd) (((md % 20) * 7) + 2) (mem 146 7)) (((md % 20) * 7) + 3) (mem 146 3)) (((md % 20) * 7) + 4) (mem 146 4)) (((md % 20) * 7) + 5) (mem 146 5)) (((md % 20) * 7) + 6) (mem 146 9))) 26 (upd (mem 26) 0 (nI (md + 1)))) iJ6_bitCount_0f7a4 (c_bc l G (gr (gr mem 28 (upd (upd (upd (upd (upd (upd (upd (mem 28) ((md % 20) * 7) (mem 146 0)) (((md % 20) * 7) + 1) rd) (((md % 20) * 7) + 2) (mem 146 7)) (((md % 20) * 7) + 3) (mem 146 3)) (((md % 20) * 7) + 4) (mem 146 4)) (((md % 20) * 7) + 5) (mem 146 5)) (((md % 20) * 7) + 6) (mem 146 9))) 26 (upd (mem 26) 0 (nI (md + 1)))) (mem 146 3)) wd_630 rfl ⟨Nat.le_of_ble_eq_true rfl, Nat.le_of_ble_eq_true rfl⟩ ⟨rfl, rfl⟩ rfl (Nat.le_of_ble_eq_true rfl) dX2_add_124 (rfl) (rfl) ?_
  refine g_iadd C dX2_add_127 ?_
  refine g_put_i C ob_26 1 (by decide) rfl wd_158 rfl rfl dX2_add_128 ?_
  refine g_mem (mem2 := gr (gr mem 28 (upd (upd (upd (upd (upd (upd (upd (mem 28) ((md % 20) * 7) (mem 146 0)) (((md % 20) * 7) + 1) rd) (((md % 20) * 7) + 2) (mem 146 7)) (((md % 20) * 7) + 3) (mem 146 3)) (((md % 20) * 7) + 4) (mem 146 4)) (((md % 20) * 7) + 5) (mem 146 5)) (((md % 20) * 7) + 6) (mem 146 9))) 26 (upd (upd (mem 26) 0 (nI (md + 1))) 1 ((mem 26 1) + (bcI (mem 146 3))))) (gr_gr _ _ _ _) ?_
  refine g_aload_n C 1 dX2_add_131 rfl ?_
  refine g_dup C dX2_add_132 rfl ?_
  refine g_get_i C ob_26 2 (by decide) rfl wd_160 dX2_add_133 ?_
  refine g_top (y := mem 26 2) (rfl) ?_
  refine g_aload_n C 2 dX2_add_136 rfl ?_
  refine g_get_i C ob_146 4 (by decide) rfl wd_255 dX2_add_137 ?_
  refine g_top (y := mem 146 4) (rfl) ?_
  refine g_cS1 C (As := [.int (mem 146 4)]) (w := .int (bcI (mem 146 4))) (mem3 := gr (gr mem 28 (upd (upd (upd (upd (upd (upd (upd (mem 28) ((md % 20) * 7) (mem 146 0)) (((md % 20) * 7) + 1) rd) (((md % 20) * 7) + 2) (mem 146 7)) (((md % 20) * 7) + 3) (mem 146 3)) (((md % 20) * 7) + 4) (mem 146 4)) (((md % 20) * 7) + 5) (mem 146 5)) (((md % 20) * 7) + 6) (mem 146 9))) 26 (upd (upd (mem 26) 0 (nI (md + 1))) 1 ((mem 26 1) + (bcI (mem 146 3))))) iJ6_bitCount_0f7a4 (c_bc l G (gr (gr mem 28 (upd (upd (upd (upd (upd (upd (upd (mem 28) ((md % 20) * 7) (mem 146 0)) (((md % 20) * 7) + 1) rd) (((md % 20) * 7) + 2) (mem 146 7)) (((md % 20) * 7) + 3) (mem 146 3)) (((md % 20) * 7) + 4) (mem 146 4)) (((md % 20) * 7) + 5) (mem 146 5)) (((md % 20) * 7) + 6) (mem 146 9))) 26 (upd (upd (mem 26) 0 (nI (md + 1))) 1 ((mem 26 1) + (bcI (mem 146 3))))) (mem 146 4)) wd_630 rfl ⟨Nat.le_of_ble_eq_true rfl, Nat.le_of_ble_eq_true rfl⟩ ⟨rfl, rfl⟩ rfl (Nat.le_of_ble_eq_true rfl) dX2_add_140 (rfl) (rfl) ?_
  refine g_iadd C dX2_add_143 ?_
  refine g_put_i C ob_26 2 (by decide) rfl wd_160 rfl rfl dX2_add_144 ?_
  refine g_mem (mem2 := gr (gr mem 28 (upd (upd (upd (upd (upd (upd (upd (mem 28) ((md % 20) * 7) (mem 146 0)) (((md % 20) * 7) + 1) rd) (((md % 20) * 7) + 2) (mem 146 7)) (((md % 20) * 7) + 3) (mem 146 3)) (((md % 20) * 7) + 4) (mem 146 4)) (((md % 20) * 7) + 5) (mem 146 5)) (((md % 20) * 7) + 6) (mem 146 9))) 26 (upd (upd (upd (mem 26) 0 (nI (md + 1))) 1 ((mem 26 1) + (bcI (mem 146 3)))) 2 ((mem 26 2) + (bcI (mem 146 4))))) (gr_gr _ _ _ _) ?_
  refine g_vret C hQ rfl dX2_add_147 ?_
  exact ⟨rfl, rfl⟩

/-- credits and missed duties behind a repair -/
def coC (ms fine : Int32) (c : Nat → Int32) (j : Nat) : Int32 := if hs ms j then c j + -fine else c j
def coM (ms : Int32) (c : Nat → Int32) (j : Nat) : Int32 := if hs ms j then c j + nI 1 else c j

def rm_X7_carryOut : Room := { frames := 2, cells := 0, slots := 0, locals := 45 }
theorem iX7_carryOut : gIv yX7_carryOut cX7_carryOut 3 none 1 := ⟨⟨wd_623, wd_24, by decide +kernel, by decide +kernel, by decide +kernel⟩, wd_621, wd_622⟩
set_option maxRecDepth 100000 in
set_option maxHeartbeats 4000000 in
theorem c_X7_carryOut (l : Launch) (G : gG) (mem : gM) {n b rp md : Nat} (hn : mem 4 0 = nI n) (hn10 : n ≤ 10) (hb : mem 146 0 = nI b) (hb200 : b < 200) (hrp : mem 146 7 = nI rp) (hrp10 : rp < 10) (hmd : mem 26 0 = nI md) (hmd31 : md < 2 ^ 30) : gMet l yX7_carryOut cX7_carryOut 3 none rm_X7_carryOut G [.ref (gad G 1), .ref (gad G 146)] mem (fun a u => a = none ∧ u = gr (gr (gr (gr (gr (gr mem 25 (upd (mem 25) b (mem 25 b &&& (mem 146 2 ^^^ (-1 : Int32))))) 10 (cpy n (coC (mem 146 5) (mem 3 4) (upd (mem 10) rp (mem 10 rp + mem 3 3))) (upd (mem 10) rp (mem 10 rp + mem 3 3)))) 12 (upd (mem 12) rp (mem 12 rp + nI 1))) 14 (cpy n (coM (mem 146 5) (mem 14)) (mem 14))) 28 (lay7 (mem 28) (md % 20 * 7) (mem 146 0) (mem 21 0) (mem 146 7) (mem 146 3) (mem 146 4) (mem 146 5) (mem 146 9))) 26 (upd (upd (upd (mem 26) 0 (nI (md + 1))) 1 (mem 26 1 + bcI (mem 146 3))) 2 (mem 26 2 + bcI (mem 146 4)))) := by
  refine g_of (own := RX7) (L0 := [(0, .ref (gad G 1)), (1, .ref (gad G 146))]) (by decide +kernel) rfl (Nat.le_of_ble_eq_true rfl) rfl ?_
  intro p e s m args below meth c C Q hQ
  refine g_aload_n C 0 dX7_carryOut_0 rfl ?_
  refine g_get_r C ob_1 3 (by decide) rfl wd_185 dX7_carryOut_1 ?_
  refine g_aload_n C 1 dX7_carryOut_4 rfl ?_
  refine g_get_i C ob_146 0 (by decide) rfl wd_247 dX7_carryOut_5 ?_
  refine g_top (y := nI b) (hb) ?_
  refine g_aload_n C 0 dX7_carryOut_8 rfl ?_
  refine g_get_r C ob_1 3 (by decide) rfl wd_185 dX7_carryOut_9 ?_
  refine g_aload_n C 1 dX7_carryOut_12 rfl ?_
  refine g_get_i C ob_146 0 (by decide) rfl wd_247 dX7_carryOut_13 ?_
  refine g_top (y := nI b) (hb) ?_
  refine g_cV1 C (As := [.int (nI b)]) (w := .int (mem 25 b)) (mem3 := mem) iX6_at (c_X6_at l G mem ob_24 ar_25 (by decide) (by omega)) wd_412 ob_24 rfl ⟨Nat.le_of_ble_eq_true rfl, Nat.le_of_ble_eq_true rfl⟩ ⟨rfl, rfl⟩ rfl (Nat.le_of_ble_eq_true rfl) dX7_carryOut_16 (rfl) (rfl) ?_
  refine g_aload_n C 1 dX7_carryOut_19 rfl ?_
  refine g_get_i C ob_146 2 (by decide) rfl wd_251 dX7_carryOut_20 ?_
  refine g_iconst C (((-1) : Int32)) dX7_carryOut_23 (by decide) ?_
  refine g_ixor C dX7_carryOut_24 ?_
  refine g_iand C dX7_carryOut_25 ?_
  refine g_cV0 C (As := [.int (nI b), .int ((mem 25 b) &&& ((mem 146 2) ^^^ ((-1) : Int32)))]) (mem3 := gr mem 25 (upd (mem 25) b ((mem 25 b) &&& ((mem 146 2) ^^^ ((-1) : Int32))))) iX6_put (c_X6_put l G mem ob_24 ar_25 (by decide) (by omega) ((mem 25 b) &&& ((mem 146 2) ^^^ ((-1) : Int32)))) wd_172 ob_24 rfl ⟨Nat.le_of_ble_eq_true rfl, Nat.le_of_ble_eq_true rfl⟩ ⟨rfl, rfl⟩ rfl (Nat.le_of_ble_eq_true rfl) dX7_carryOut_26 (rfl) ?_
  refine g_aload_n C 0 dX7_carryOut_29 rfl ?_
  refine g_get_r C ob_1 1 (by decide) rfl wd_179 dX7_carryOut_30 ?_
  refine g_get_r C ob_4 4 (by decide) rfl wd_84 dX7_carryOut_33 ?_
  refine g_aload_n C 1 dX7_carryOut_36 rfl ?_
  refine g_get_i C ob_146 7 (by decide) rfl wd_263 dX7_carryOut_37 ?_
  refine g_top (y := mem 146 7) (rfl) ?_
  refine g_top (y := nI rp) (hrp) ?_
  refine g_aload_n C 0 dX7_carryOut_40 rfl ?_
  refine g_get_r C ob_1 0 (by decide) rfl wd_176 dX7_carryOut_41 ?_
  refine g_iconst C (nI 3) dX7_carryOut_44 (by decide) ?_
  refine g_cV1 C (As := [.int (nI 3)]) (w := .int (mem 3 3)) (mem3 := gr mem 25 (upd (mem 25) b ((mem 25 b) &&& ((mem 146 2) ^^^ ((-1) : Int32))))) iX6_at (c_X6_at l G (gr mem 25 (upd (mem 25) b ((mem 25 b) &&& ((mem 146 2) ^^^ ((-1) : Int32))))) ob_2 ar_3 (by decide) (by omega)) wd_412 ob_2 rfl ⟨Nat.le_of_ble_eq_true rfl, Nat.le_of_ble_eq_true rfl⟩ ⟨rfl, rfl⟩ rfl (Nat.le_of_ble_eq_true rfl) dX7_carryOut_45 (rfl) (rfl) ?_
  refine g_cV0 C (As := [.int (nI rp), .int (mem 3 3)]) (mem3 := gr (gr mem 25 (upd (mem 25) b ((mem 25 b) &&& ((mem 146 2) ^^^ ((-1) : Int32))))) 10 (upd (mem 10) rp (mem 10 rp + (mem 3 3)))) iX6_add (c_X6_add l G (gr mem 25 (upd (mem 25) b ((mem 25 b) &&& ((mem 146 2) ^^^ ((-1) : Int32))))) ob_9 ar_10 (by decide) (by omega) (mem 3 3)) wd_624 ob_9 rfl ⟨Nat.le_of_ble_eq_true rfl, Nat.le_of_ble_eq_true rfl⟩ ⟨rfl, rfl⟩ rfl (Nat.le_of_ble_eq_true rfl) dX7_carryOut_48 (rfl) ?_
  refine g_aload_n C 0 dX7_carryOut_51 rfl ?_
  refine g_get_r C ob_1 1 (by decide) rfl wd_179 dX7_carryOut_52 ?_
  refine g_get_r C ob_4 5 (by decide) rfl wd_87 dX7_carryOut_55 ?_
  refine g_aload_n C 1 dX7_carryOut_58 rfl ?_
  refine g_get_i C ob_146 7 (by decide) rfl wd_263 dX7_carryOut_59 ?_
  refine g_top (y := mem 146 7) (rfl) ?_
  refine g_top (y := nI rp) (hrp) ?_
  refine g_iconst C (nI 1) dX7_carryOut_62 (by decide) ?_
  refine g_cV0 C (As := [.int (nI rp), .int (nI 1)]) (mem3 := gr (gr (gr mem 25 (upd (mem 25) b ((mem 25 b) &&& ((mem 146 2) ^^^ ((-1) : Int32))))) 10 (upd (mem 10) rp (mem 10 rp + (mem 3 3)))) 12 (upd (mem 12) rp (mem 12 rp + (nI 1)))) iX6_add (c_X6_add l G (gr (gr mem 25 (upd (mem 25) b ((mem 25 b) &&& ((mem 146 2) ^^^ ((-1) : Int32))))) 10 (upd (mem 10) rp (mem 10 rp + (mem 3 3)))) ob_11 ar_12 (by decide) (by omega) (nI 1)) wd_624 ob_11 rfl ⟨Nat.le_of_ble_eq_true rfl, Nat.le_of_ble_eq_true rfl⟩ ⟨rfl, rfl⟩ rfl (Nat.le_of_ble_eq_true rfl) dX7_carryOut_63 (rfl) ?_
  refine g_iconst C (nI 0) dX7_carryOut_66 (by decide) ?_
  refine g_istore_n C (L2 := [(2, .int (nI 0)), (0, .ref (gad G 1)), (1, .ref (gad G 146))]) dX7_carryOut_67 (by decide) rfl ?_
  have lp_68 : ∀ (fu : Nat) (i : Nat), (i ≤ n) → n - i < fu → gV p l e rm_X7_carryOut s m args below meth c 0 0 Q G 3 (gr (gr (gr (gr mem 25 (upd (mem 25) b (mem 25 b &&& (mem 146 2 ^^^ (-1 : Int32))))) 10 (cpy i (coC (mem 146 5) (mem 3 4) (upd (mem 10) rp (mem 10 rp + mem 3 3))) (upd (mem 10) rp (mem 10 rp + mem 3 3)))) 12 (upd (mem 12) rp (mem 12 rp + nI 1))) 14 (cpy i (coM (mem 146 5) (mem 14)) (mem 14))) 68 [(0, .ref (gad G 1)), (1, .ref (gad G 146)), (2, .int (nI i))] [] := by
    intro fu
    induction fu with
    | zero => intro i _ hfu; exact absurd hfu (Nat.not_lt_zero _)
    | succ fu ih_68 =>
      intro i hi hfu_68
      refine g_iload_n C 2 dX7_carryOut_68 rfl ?_
      refine g_aload_n C 0 dX7_carryOut_69 rfl ?_
      refine g_get_r C ob_1 1 (by decide) rfl wd_179 dX7_carryOut_70 ?_
      refine g_get_i C ob_4 0 (by decide) rfl wd_73 dX7_carryOut_73 ?_
      refine g_top (y := mem 4 0) (rfl) ?_
      refine g_top (y := nI n) (hn) ?_
      refine g_icmp_ge C 128 dX7_carryOut_76 (by decide) (fun c_76 => ?_) (fun c_76 => ?_)
      · have hin : i = n := by have q := (nI_leI (a := n) (b := i) (by omega) (by omega)).mp c_76; omega
        rw [hin]
        refine g_aload_n C 0 dX7_carryOut_128 rfl ?_
        refine g_get_r C ob_1 4 (by decide) rfl wd_188 dX7_carryOut_129 ?_
        refine g_aload_n C 1 dX7_carryOut_132 rfl ?_
        refine g_aload_n C 0 dX7_carryOut_133 rfl ?_
        refine g_get_r C ob_1 2 (by decide) rfl wd_182 dX7_carryOut_134 ?_
        refine g_get_i C ob_21 0 (by decide) rfl wd_130 dX7_carryOut_137 ?_
        refine g_top (y := mem 21 0) (rfl) ?_
        refine g_cV0 C (As := [.ref (gad G 146), .int (mem 21 0)]) (mem3 := gr (gr (gr (gr (gr (gr mem 25 (upd (mem 25) b (mem 25 b &&& (mem 146 2 ^^^ (-1 : Int32))))) 10 (cpy n (coC (mem 146 5) (mem 3 4) (upd (mem 10) rp (mem 10 rp + mem 3 3))) (upd (mem 10) rp (mem 10 rp + mem 3 3)))) 12 (upd (mem 12) rp (mem 12 rp + nI 1))) 14 (cpy n (coM (mem 146 5) (mem 14)) (mem 14))) 28 (lay7 (mem 28) (md % 20 * 7) (mem 146 0) (mem 21 0) (mem 146 7) (mem 146 3) (mem 146 4) (mem 146 5) (mem 146 9))) 26 (upd (upd (upd (mem 26) 0 (nI (md + 1))) 1 (mem 26 1 + bcI (mem 146 3))) 2 (mem 26 2 + bcI (mem 146 4)))) iX2_add (c_X2_add l G (gr (gr (gr (gr mem 25 (upd (mem 25) b (mem 25 b &&& (mem 146 2 ^^^ (-1 : Int32))))) 10 (cpy n (coC (mem 146 5) (mem 3 4) (upd (mem 10) rp (mem 10 rp + mem 3 3))) (upd (mem 10) rp (mem 10 rp + mem 3 3)))) 12 (upd (mem 12) rp (mem 12 rp + nI 1))) 14 (cpy n (coM (mem 146 5) (mem 14)) (mem 14))) (hmd) (hmd31) (mem 21 0)) wd_625 ob_26 rfl ⟨Nat.le_of_ble_eq_true rfl, Nat.le_of_ble_eq_true rfl⟩ ⟨rfl, rfl⟩ rfl (Nat.le_of_ble_eq_true rfl) dX7_carryOut_140 (rfl) ?_
        refine g_vret C hQ rfl dX7_carryOut_143 ?_
        exact ⟨rfl, rfl⟩
      · have hi2 : i < n := by have q := mt (nI_leI (a := n) (b := i) (by omega) (by omega)).mpr c_76; omega
        refine g_aload_n C 1 dX7_carryOut_79 rfl ?_
        refine g_get_i C ob_146 5 (by decide) rfl wd_258 dX7_carryOut_80 ?_
        refine g_top (y := mem 146 5) (rfl) ?_
        refine g_iload_n C 2 dX7_carryOut_83 rfl ?_
        refine g_cS1 C (As := [.int (mem 146 5), .int (nI i)]) (w := .int (b2i (hs (mem 146 5) i))) (mem3 := gr (gr (gr (gr mem 25 (upd (mem 25) b (mem 25 b &&& (mem 146 2 ^^^ (-1 : Int32))))) 10 (cpy i (coC (mem 146 5) (mem 3 4) (upd (mem 10) rp (mem 10 rp + mem 3 3))) (upd (mem 10) rp (mem 10 rp + mem 3 3)))) 12 (upd (mem 12) rp (mem 12 rp + nI 1))) 14 (cpy i (coM (mem 146 5) (mem 14)) (mem 14))) iX4_has (c_X4_has l G (gr (gr (gr (gr mem 25 (upd (mem 25) b (mem 25 b &&& (mem 146 2 ^^^ (-1 : Int32))))) 10 (cpy i (coC (mem 146 5) (mem 3 4) (upd (mem 10) rp (mem 10 rp + mem 3 3))) (upd (mem 10) rp (mem 10 rp + mem 3 3)))) 12 (upd (mem 12) rp (mem 12 rp + nI 1))) 14 (cpy i (coM (mem 146 5) (mem 14)) (mem 14))) (mem 146 5) i) wd_413 rfl ⟨Nat.le_of_ble_eq_true rfl, Nat.le_of_ble_eq_true rfl⟩ ⟨rfl, rfl⟩ rfl (Nat.le_of_ble_eq_true rfl) dX7_carryOut_84 (rfl) (rfl) ?_
        refine g_ifb_eq C 122 dX7_carryOut_87 (by decide) (fun c_87 => ?_) (fun c_87 => ?_)
        · refine g_iinc C (v := nI (i + 1)) (L2 := [(2, .int (nI (i + 1))), (0, .ref (gad G 1)), (1, .ref (gad G 146))]) 2 dX7_carryOut_122 rfl (nI_1 _) (by decide) rfl ?_
          refine g_goto C 68 dX7_carryOut_125 (by decide) ?_
          refine g_loc (L2 := [(0, .ref (gad G 1)), (1, .ref (gad G 146)), (2, .int (nI (i + 1)))]) [1, 2, 0] rfl ?_
          exact g_eq (ih_68 (i + 1) (hi2) (by omega)) (by first | rw [cpy_s (f := coC (mem 146 5) (mem 3 4) (upd (mem 10) rp (mem 10 rp + mem 3 3))) (by rw [coC, if_pos c_87, cpy_out (Nat.le_refl i)]), cpy_s (f := coM (mem 146 5) (mem 14)) (by rw [coM, if_pos c_87, cpy_out (Nat.le_refl i)])] | rw [cpy_k (f := coC (mem 146 5) (mem 3 4) (upd (mem 10) rp (mem 10 rp + mem 3 3))) (by rw [coC, if_neg c_87]), cpy_k (f := coM (mem 146 5) (mem 14)) (by rw [coM, if_neg c_87])]) (rfl) rfl
        · refine g_aload_n C 0 dX7_carryOut_90 rfl ?_
          refine g_get_r C ob_1 1 (by decide) rfl wd_179 dX7_carryOut_91 ?_
          refine g_get_r C ob_4 4 (by decide) rfl wd_84 dX7_carryOut_94 ?_
          refine g_iload_n C 2 dX7_carryOut_97 rfl ?_
          refine g_aload_n C 0 dX7_carryOut_98 rfl ?_
          refine g_get_r C ob_1 0 (by decide) rfl wd_176 dX7_carryOut_99 ?_
          refine g_iconst C (nI 4) dX7_carryOut_102 (by decide) ?_
          refine g_cV1 C (As := [.int (nI 4)]) (w := .int (mem 3 4)) (mem3 := gr (gr (gr (gr mem 25 (upd (mem 25) b (mem 25 b &&& (mem 146 2 ^^^ (-1 : Int32))))) 10 (cpy i (coC (mem 146 5) (mem 3 4) (upd (mem 10) rp (mem 10 rp + mem 3 3))) (upd (mem 10) rp (mem 10 rp + mem 3 3)))) 12 (upd (mem 12) rp (mem 12 rp + nI 1))) 14 (cpy i (coM (mem 146 5) (mem 14)) (mem 14))) iX6_at (c_X6_at l G (gr (gr (gr (gr mem 25 (upd (mem 25) b (mem 25 b &&& (mem 146 2 ^^^ (-1 : Int32))))) 10 (cpy i (coC (mem 146 5) (mem 3 4) (upd (mem 10) rp (mem 10 rp + mem 3 3))) (upd (mem 10) rp (mem 10 rp + mem 3 3)))) 12 (upd (mem 12) rp (mem 12 rp + nI 1))) 14 (cpy i (coM (mem 146 5) (mem 14)) (mem 14))) ob_2 ar_3 (by decide) (by omega)) wd_412 ob_2 rfl ⟨Nat.le_of_ble_eq_true rfl, Nat.le_of_ble_eq_true rfl⟩ ⟨rfl, rfl⟩ rfl (Nat.le_of_ble_eq_true rfl) dX7_carryOut_103 (rfl) (rfl) ?_
          refine g_ineg C dX7_carryOut_106 ?_
          refine g_cV0 C (As := [.int (nI i), .int (-(mem 3 4))]) (mem3 := gr (gr (gr (gr (gr mem 25 (upd (mem 25) b (mem 25 b &&& (mem 146 2 ^^^ (-1 : Int32))))) 10 (cpy i (coC (mem 146 5) (mem 3 4) (upd (mem 10) rp (mem 10 rp + mem 3 3))) (upd (mem 10) rp (mem 10 rp + mem 3 3)))) 12 (upd (mem 12) rp (mem 12 rp + nI 1))) 14 (cpy i (coM (mem 146 5) (mem 14)) (mem 14))) 10 (upd (cpy i (coC (mem 146 5) (mem 3 4) (upd (mem 10) rp (mem 10 rp + mem 3 3))) (upd (mem 10) rp (mem 10 rp + mem 3 3))) i (cpy i (coC (mem 146 5) (mem 3 4) (upd (mem 10) rp (mem 10 rp + mem 3 3))) (upd (mem 10) rp (mem 10 rp + mem 3 3)) i + (-(mem 3 4))))) iX6_add (c_X6_add l G (gr (gr (gr (gr mem 25 (upd (mem 25) b (mem 25 b &&& (mem 146 2 ^^^ (-1 : Int32))))) 10 (cpy i (coC (mem 146 5) (mem 3 4) (upd (mem 10) rp (mem 10 rp + mem 3 3))) (upd (mem 10) rp (mem 10 rp + mem 3 3)))) 12 (upd (mem 12) rp (mem 12 rp + nI 1))) 14 (cpy i (coM (mem 146 5) (mem 14)) (mem 14))) ob_9 ar_10 (by decide) (by omega) (-(mem 3 4))) wd_624 ob_9 rfl ⟨Nat.le_of_ble_eq_true rfl, Nat.le_of_ble_eq_true rfl⟩ ⟨rfl, rfl⟩ rfl (Nat.le_of_ble_eq_true rfl) dX7_carryOut_107 (rfl) ?_
          refine g_mem (mem2 := gr (gr (gr (gr mem 25 (upd (mem 25) b (mem 25 b &&& (mem 146 2 ^^^ (-1 : Int32))))) 10 (upd (cpy i (coC (mem 146 5) (mem 3 4) (upd (mem 10) rp (mem 10 rp + mem 3 3))) (upd (mem 10) rp (mem 10 rp + mem 3 3))) i (cpy i (coC (mem 146 5) (mem 3 4) (upd (mem 10) rp (mem 10 rp + mem 3 3))) (upd (mem 10) rp (mem 10 rp + mem 3 3)) i + (-(mem 3 4))))) 12 (upd (mem 12) rp (mem 12 rp + nI 1))) 14 (cpy i (coM (mem 146 5) (mem 14)) (mem 14))) ((gr_comm _ (by decide) _ _).trans (congrArg (fun z => gr z 14 (cpy i (coM (mem 146 5) (mem 14)) (mem 14))) ((gr_comm _ (by decide) _ _).trans (congrArg (fun z => gr z 12 (upd (mem 12) rp (mem 12 rp + nI 1))) (gr_gr _ _ _ _))))) ?_
          refine g_aload_n C 0 dX7_carryOut_110 rfl ?_
          refine g_get_r C ob_1 1 (by decide) rfl wd_179 dX7_carryOut_111 ?_
          refine g_get_r C ob_4 6 (by decide) rfl wd_90 dX7_carryOut_114 ?_
          refine g_iload_n C 2 dX7_carryOut_117 rfl ?_
          refine g_iconst C (nI 1) dX7_carryOut_118 (by decide) ?_
          refine g_cV0 C (As := [.int (nI i), .int (nI 1)]) (mem3 := gr (gr (gr (gr (gr mem 25 (upd (mem 25) b (mem 25 b &&& (mem 146 2 ^^^ (-1 : Int32))))) 10 (upd (cpy i (coC (mem 146 5) (mem 3 4) (upd (mem 10) rp (mem 10 rp + mem 3 3))) (upd (mem 10) rp (mem 10 rp + mem 3 3))) i (cpy i (coC (mem 146 5) (mem 3 4) (upd (mem 10) rp (mem 10 rp + mem 3 3))) (upd (mem 10) rp (mem 10 rp + mem 3 3)) i + (-(mem 3 4))))) 12 (upd (mem 12) rp (mem 12 rp + nI 1))) 14 (cpy i (coM (mem 146 5) (mem 14)) (mem 14))) 14 (upd (cpy i (coM (mem 146 5) (mem 14)) (mem 14)) i (cpy i (coM (mem 146 5) (mem 14)) (mem 14) i + (nI 1)))) iX6_add (c_X6_add l G (gr (gr (gr (gr mem 25 (upd (mem 25) b (mem 25 b &&& (mem 146 2 ^^^ (-1 : Int32))))) 10 (upd (cpy i (coC (mem 146 5) (mem 3 4) (upd (mem 10) rp (mem 10 rp + mem 3 3))) (upd (mem 10) rp (mem 10 rp + mem 3 3))) i (cpy i (coC (mem 146 5) (mem 3 4) (upd (mem 10) rp (mem 10 rp + mem 3 3))) (upd (mem 10) rp (mem 10 rp + mem 3 3)) i + (-(mem 3 4))))) 12 (upd (mem 12) rp (mem 12 rp + nI 1))) 14 (cpy i (coM (mem 146 5) (mem 14)) (mem 14))) ob_13 ar_14 (by decide) (by omega) (nI 1)) wd_624 ob_13 rfl ⟨Nat.le_of_ble_eq_true rfl, Nat.le_of_ble_eq_true rfl⟩ ⟨rfl, rfl⟩ rfl (Nat.le_of_ble_eq_true rfl) dX7_carryOut_119 (rfl) ?_
          refine g_mem (mem2 := gr (gr (gr (gr mem 25 (upd (mem 25) b (mem 25 b &&& (mem 146 2 ^^^ (-1 : Int32))))) 10 (upd (cpy i (coC (mem 146 5) (mem 3 4) (upd (mem 10) rp (mem 10 rp + mem 3 3))) (upd (mem 10) rp (mem 10 rp + mem 3 3))) i (cpy i (coC (mem 146 5) (mem 3 4) (upd (mem 10) rp (mem 10 rp + mem 3 3))) (upd (mem 10) rp (mem 10 rp + mem 3 3)) i + (-(mem 3 4))))) 12 (upd (mem 12) rp (mem 12 rp + nI 1))) 14 (upd (cpy i (coM (mem 146 5) (mem 14)) (mem 14)) i (cpy i (coM (mem 146 5) (mem 14)) (mem 14) i + (nI 1)))) (gr_gr _ _ _ _) ?_
          refine g_iinc C (v := nI (i + 1)) (L2 := [(2, .int (nI (i + 1))), (0, .ref (gad G 1)), (1, .ref (gad G 146))]) 2 dX7_carryOut_122 rfl (nI_1 _) (by decide) rfl ?_
          refine g_goto C 68 dX7_carryOut_125 (by decide) ?_
          refine g_loc (L2 := [(0, .ref (gad G 1)), (1, .ref (gad G 146)), (2, .int (nI (i + 1)))]) [1, 2, 0] rfl ?_
          exact g_eq (ih_68 (i + 1) (hi2) (by omega)) (by first | rw [cpy_s (f := coC (mem 146 5) (mem 3 4) (upd (mem 10) rp (mem 10 rp + mem 3 3))) (by rw [coC, if_pos c_87, cpy_out (Nat.le_refl i)]), cpy_s (f := coM (mem 146 5) (mem 14)) (by rw [coM, if_pos c_87, cpy_out (Nat.le_refl i)])] | rw [cpy_k (f := coC (mem 146 5) (mem 3 4) (upd (mem 10) rp (mem 10 rp + mem 3 3))) (by rw [coC, if_neg c_87]), cpy_k (f := coM (mem 146 5) (mem 14)) (by rw [coM, if_neg c_87])]) (rfl) rfl
  refine g_loc (L2 := [(0, .ref (gad G 1)), (1, .ref (gad G 146)), (2, .int (nI 0))]) [1, 2, 0] rfl ?_
  exact g_eq (lp_68 (_ + 1) 0 (Nat.zero_le _) (Nat.lt_succ_self _)) (by rw [cpy_0, cpy_0, show mem 14 = (gr (gr (gr mem 25 (upd (mem 25) b (mem 25 b &&& (mem 146 2 ^^^ (-1 : Int32))))) 10 (upd (mem 10) rp (mem 10 rp + mem 3 3))) 12 (upd (mem 12) rp (mem 12 rp + nI 1))) 14 from rfl, gr_self]) (rfl) rfl
end
section
/-! a repair, worked out: for a block b, with the wait wa -/
theorem nN_ne {f : Nat} (h : f < 2 ^ 31) : ¬ nI f = kNone := fun q => by
  have := congrArg Int32.toInt q
  rw [nI_toInt h] at this
  have e : (kNone : Int32).toInt = -1000009 := by decide
  omega
theorem min_nI {a b : Nat} (ha : a < 2 ^ 31) (hb : b < 2 ^ 31) : (if nI b < nI a then nI b else nI a) = nI (min a b) := by
  by_cases q : b < a
  · rw [if_pos (nI_lt q ha), show min a b = b by omega]
  · rw [if_neg (nI_nlt (by omega) hb), show min a b = a by omega]
theorem max_nI {a b : Nat} (ha : a < 2 ^ 31) (hb : b < 2 ^ 31) : (if nI a < nI b then nI b else nI a) = nI (max a b) := by
  by_cases q : a < b
  · rw [if_pos (nI_lt q hb), show max a b = b by omega]
  · rw [if_neg (nI_nlt (by omega) ha), show max a b = a by omega]
def los (V : Nat → Int32) (b m : Nat) : Bool := vLv V m && vLo V b m
def rpG (V : Nat → Int32) (b r : Nat) : Bool := vLv V (vL V r) && !vLo V b (vL V r)
def rpK (V : Nat → Int32) (b : Nat) : Nat := fa_first (rpG V b) (vZ V)
/-- who misses a duty, of the first so many on the list -/
def msF (V : Nat → Int32) : Nat → Int32
  | 0 => nI 0
  | r + 1 => if vLv V (vL V r) = true then msF V r else msF V r ||| bit (vL V r)
theorem ms_t {V : Nat → Int32} {r : Nat} (h : vLv V (vL V r) = true) : msF V (r + 1) = msF V r := by rw [msF, if_pos h]
theorem ms_f {V : Nat → Int32} {r : Nat} (h : ¬ vLv V (vL V r) = true) : msF V (r + 1) = msF V r ||| bit (vL V r) := by rw [msF, if_neg h]
def wt (V : Nat → Int32) (b wa m : Nat) : Nat := lotN (mixI (mixI (V 10 ^^^ nI (1000 * b + m)))) wa
theorem wt_lt (V : Nat → Int32) (b m : Nat) {wa : Nat} (h : 1 ≤ wa) : wt V b wa m < wa := lotN_lt _ h
/-- the first with the smallest wait -/
def frF (q : Nat → Bool) (w : Nat → Nat) : Nat → Option Nat
  | 0 => none
  | m + 1 => if q m = true then (match frF q w m with
    | none => some m
    | some f => if w m < w f then some m else some f) else frF q w m
def oI : Option Nat → Int32
  | none => kNone
  | some m => nI m
theorem fr_no {q : Nat → Bool} {w : Nat → Nat} {m : Nat} (h : q m = false) : frF q w (m + 1) = frF q w m := by rw [frF, if_neg (by rw [h]; decide)]
theorem fr_0 {q : Nat → Bool} {w : Nat → Nat} {m : Nat} (h : q m = true) (h2 : frF q w m = none) : frF q w (m + 1) = some m := by rw [frF, if_pos h, h2]
theorem fr_lt {q : Nat → Bool} {w : Nat → Nat} {m f : Nat} (h : q m = true) (h2 : frF q w m = some f) (h3 : w m < w f) : frF q w (m + 1) = some m := by rw [frF, if_pos h, h2]; simp only; rw [if_pos h3]
theorem fr_ge {q : Nat → Bool} {w : Nat → Nat} {m f : Nat} (h : q m = true) (h2 : frF q w m = some f) (h3 : ¬ w m < w f) : frF q w (m + 1) = some f := by rw [frF, if_pos h, h2]; simp only; rw [if_neg h3]
theorem fr_some {q : Nat → Bool} {w : Nat → Nat} : ∀ {n f : Nat}, frF q w n = some f → f < n ∧ q f = true
  | 0, _, h => by cases h
  | n + 1, f, h => by
    by_cases hq : q n = true
    · cases hr : frF q w n with
      | none => rw [fr_0 hq hr] at h; cases h; exact ⟨Nat.lt_succ_self _, hq⟩
      | some x =>
        by_cases hw : w n < w x
        · rw [fr_lt hq hr hw] at h; cases h; exact ⟨Nat.lt_succ_self _, hq⟩
        · rw [fr_ge hq hr hw] at h; cases h; exact ⟨Nat.lt_succ_of_lt (fr_some hr).1, (fr_some hr).2⟩
    · rw [fr_no ((Bool.not_eq_true _).mp hq)] at h
      exact ⟨Nat.lt_succ_of_lt (fr_some h).1, (fr_some h).2⟩
theorem fr_none {q : Nat → Bool} {w : Nat → Nat} : ∀ {n : Nat}, frF q w n = none → ∀ m, m < n → q m = false
  | 0, _, m, hm => absurd hm (Nat.not_lt_zero m)
  | n + 1, h, m, hm => by
    by_cases hq : q n = true
    · exfalso
      cases hr : frF q w n with
      | none => rw [fr_0 hq hr] at h; cases h
      | some x =>
        by_cases hw : w n < w x
        · rw [fr_lt hq hr hw] at h; cases h
        · rw [fr_ge hq hr hw] at h; cases h
    · have hq := (Bool.not_eq_true _).mp hq
      rw [fr_no hq] at h
      by_cases e : m = n
      · rw [e]; exact hq
      · exact fr_none h m (by omega)
theorem fr_wide {q : Nat → Bool} {w : Nat → Nat} {n : Nat} : ∀ {k : Nat}, n ≤ k → (∀ m, n ≤ m → m < k → q m = false) → frF q w k = frF q w n
  | 0, h, _ => by rw [Nat.le_zero.mp h]
  | k + 1, h, hq => by
    by_cases e : n = k + 1
    · rw [e]
    · rw [fr_no (hq k (by omega) (Nat.lt_succ_self k))]
      exact fr_wide (by omega) fun m h1 h2 => hq m h1 (by omega)
def ask (V : Nat → Int32) (b wa f m : Nat) : Bool := los V b m && decide (wt V b wa m ≤ wt V b wa f + dN (vP V m) (vP V f))
def sil (V : Nat → Int32) (b wa f m : Nat) : Bool := los V b m && !ask V b wa f m
/-- when the repairer hears of it -/
def hdF (q : Nat → Bool) (x : Nat → Nat) (h0 : Nat) : Nat → Nat
  | 0 => h0
  | m + 1 => if q m = true then min (hdF q x h0 m) (x m) else hdF q x h0 m
theorem hd_t {q : Nat → Bool} {x : Nat → Nat} {h0 m : Nat} (h : q m = true) : hdF q x h0 (m + 1) = min (hdF q x h0 m) (x m) := by rw [hdF, if_pos h]
theorem hd_f {q : Nat → Bool} {x : Nat → Nat} {h0 m : Nat} (h : q m = false) : hdF q x h0 (m + 1) = hdF q x h0 m := by rw [hdF, if_neg (by rw [h]; decide)]
theorem hd_le {q : Nat → Bool} {x : Nat → Nat} {h0 : Nat} : ∀ n, hdF q x h0 n ≤ h0
  | 0 => Nat.le_refl _
  | n + 1 => by
    have ih := hd_le (q := q) (x := x) (h0 := h0) n
    unfold hdF
    split <;> omega
/-- when it comes to the last one -/
def tmF (q : Nat → Bool) (x : Nat → Nat) : Nat → Nat
  | 0 => 0
  | m + 1 => if q m = true then max (tmF q x m) (x m) else tmF q x m
theorem tm_t {q : Nat → Bool} {x : Nat → Nat} {m : Nat} (h : q m = true) : tmF q x (m + 1) = max (tmF q x m) (x m) := by rw [tmF, if_pos h]
theorem tm_f {q : Nat → Bool} {x : Nat → Nat} {m : Nat} (h : q m = false) : tmF q x (m + 1) = tmF q x m := by rw [tmF, if_neg (by rw [h]; decide)]
theorem tm_le {q : Nat → Bool} {x : Nat → Nat} {c : Nat} : ∀ {n : Nat}, (∀ m, m < n → x m ≤ c) → tmF q x n ≤ c
  | 0, _ => Nat.zero_le _
  | n + 1, h => by
    have ih := tm_le (q := q) (x := x) (n := n) fun m hm => h m (Nat.lt_succ_of_lt hm)
    have h1 := h n (Nat.lt_succ_self n)
    unfold tmF
    split <;> omega
/-- the repairer, its distance to a member -/
def rpM (V : Nat → Int32) (b : Nat) : Nat := vL V (rpK V b)
def dR (V : Nat → Int32) (b m : Nat) : Nat := dN (vP V m) (vP V (rpM V b))
def hrd (V : Nat → Int32) (b wa f : Nat) : Nat := hdF (ask V b wa f) (fun m => wt V b wa m + dR V b m) (wt V b wa f + dR V b f) (vN V)
def sent (V : Nat → Int32) (b wa f : Nat) : Nat := hrd V b wa f + toN (V 1) * rpK V b
def tim (V : Nat → Int32) (b wa f : Nat) : Nat := tmF (los V b) (fun m => sent V b wa f + dR V b m) (vN V)
/-- why a repair isn't possible: 0 it is -/
def hcd (V : Nat → Int32) (b : Nat) : Nat := if V 6 = 0 then 1 else if mk (los V b) (vN V) = 0 then 2 else if rpK V b < vZ V then 0 else 3
/-- what a plan holds of a repair that is possible: p its numbers, w the waits, a the times of coming; f asks first -/
def PlanOK (V : Nat → Int32) (b wa f : Nat) (p w a : Nat → Int32) : Prop :=
  frF (los V b) (wt V b wa) (vN V) = some f ∧ p 2 = mk (los V b) (vN V) ∧ p 3 = mk (ask V b wa f) (vN V) ∧ p 4 = mk (sil V b wa f) (vN V) ∧ p 5 = msF V (rpK V b) ∧ p 6 = nI f ∧ p 7 = nI (rpM V b) ∧ p 8 = nI (rpK V b) ∧ p 9 = nI (tim V b wa f) ∧
  (∀ m, m < vN V → los V b m = true → w m = nI (wt V b wa m) ∧ a m = nI (sent V b wa f + dR V b m))
/-- what working out a repair does to a memory -/
def RK (V : Nat → Int32) (b wa : Nat) (mem u : gM) : Prop :=
  ∃ p w a : Nat → Int32, u = gr (gr (gr mem 146 p) 148 w) 150 a ∧ p 0 = nI b ∧ p 1 = nI (hcd V b) ∧ (hcd V b = 0 → ∃ f, PlanOK V b wa f p w a)
theorem hc_0 {V : Nat → Int32} {b : Nat} (h : hcd V b = 0) : ¬ V 6 = 0 ∧ ¬ mk (los V b) (vN V) = 0 ∧ rpK V b < vZ V := by
  unfold hcd at h
  by_cases h1 : V 6 = 0
  · rw [if_pos h1] at h; omega
  · rw [if_neg h1] at h
    by_cases h2 : mk (los V b) (vN V) = 0
    · rw [if_pos h2] at h; omega
    · rw [if_neg h2] at h
      by_cases h3 : rpK V b < vZ V
      · exact ⟨h1, h2, h3⟩
      · rw [if_neg h3] at h; omega
theorem rp_lt {T : Nat} {V : Nat → Int32} {b : Nat} (g : Good T V) (h : rpK V b < vZ V) : rpM V b < vN V := (gd_l g h).2.1
theorem los_n {T : Nat} {V : Nat → Int32} {b m : Nat} (g : Good T V) (hb : b < 200) (h : los V b m = true) (hm : m < 32) : m < vN V := by
  apply Classical.not_not.mp
  intro q
  have := gd_lo g hb (i := m) (by omega) hm
  unfold los vLo at h
  rw [this] at h
  simp at h
theorem los_mk {T : Nat} {V : Nat → Int32} {b : Nat} (g : Good T V) (hb : b < 200) : mk (vLv V) (vN V) &&& V (150 + b) = mk (los V b) (vN V) := by
  rw [gd_lomk g hb, mk_and (by have := gd_n10 g; omega)]
  rfl
end
section
theorem rpG_los {V : Nat → Int32} {b r : Nat} : rpG V b r = true ↔ (vLv V (vL V r) = true ∧ los V b (vL V r) = false) := by
  unfold rpG los
  cases vLv V (vL V r) <;> cases vLo V b (vL V r) <;> simp
theorem hs_los {T : Nat} {V : Nat → Int32} {b m : Nat} (g : Good T V) (hm : m < vN V) {x : Int32} (hx : x = mk (los V b) (vN V)) : hs x m ↔ los V b m = true := by
  rw [hx]; exact mk_hs (by have := gd_n10 g; omega) hm

def rm_X5_findRepairer : Room := { frames := 2, cells := 0, slots := 0, locals := 42 }
theorem iX5_findRepairer : gIv yX5_findRepairer cX5_findRepairer 5 none 1 := ⟨⟨wd_585, wd_31, by decide +kernel, by decide +kernel, by decide +kernel⟩, wd_583, wd_584⟩
set_option maxRecDepth 100000 in
set_option maxHeartbeats 4000000 in
theorem c_X5_findRepairer (l : Launch) (G : gG) {T : Nat} {V : Nat → Int32} (g : Good T V) (mem : gM) (r : Rel V mem) {b : Nat} (hb : b < 200) (hl : mem 146 2 = mk (los V b) (vN V)) : gMet l yX5_findRepairer cX5_findRepairer 5 none rm_X5_findRepairer G [.ref (gad G 146), .ref (gad G 1)] mem (fun a u => a = none ∧ u = gr mem 146 (if rpK V b < vZ V then upd (upd (upd (mem 146) 5 (msF V (rpK V b))) 7 (nI (rpM V b))) 8 (nI (rpK V b)) else upd (upd (mem 146) 5 (msF V (vZ V))) 7 kNone)) := by
  refine g_of (own := RX5) (L0 := [(0, .ref (gad G 146)), (1, .ref (gad G 1))]) (by decide +kernel) rfl (Nat.le_of_ble_eq_true rfl) rfl ?_
  intro p e s m args below meth c C Q hQ
  have hn10 := gd_n10 g
  have hzn := (gd_z g).2
  refine g_aload_n C 0 dX5_findRepairer_0 rfl ?_
  refine g_iconst C (nI 0) dX5_findRepairer_1 (by decide) ?_
  refine g_put_i C ob_146 5 (by decide) rfl wd_259 rfl rfl dX5_findRepairer_2 ?_
  refine g_iconst C (nI 0) dX5_findRepairer_5 (by decide) ?_
  refine g_istore_n C (L2 := [(2, .int (nI 0)), (0, .ref (gad G 146)), (1, .ref (gad G 1))]) dX5_findRepairer_6 (by decide) rfl ?_
  have lp_7 : ∀ (fu : Nat) (i : Nat), (i ≤ vZ V) → (∀ q, q < i → rpG V b q = false) → vZ V - i < fu → gV p l e rm_X5_findRepairer s m args below meth c 0 0 Q G 5 (gr mem 146 (upd (mem 146) 5 (msF V i))) 7 [(0, .ref (gad G 146)), (1, .ref (gad G 1)), (2, .int (nI i))] [] := by
    intro fu
    induction fu with
    | zero => intro i _ _ hfu; exact absurd hfu (Nat.not_lt_zero _)
    | succ fu ih_7 =>
      intro i hi hno hfu_7
      refine g_iload_n C 2 dX5_findRepairer_7 rfl ?_
      refine g_aload_n C 1 dX5_findRepairer_8 rfl ?_
      refine g_get_r C ob_1 2 (by decide) rfl wd_183 dX5_findRepairer_9 ?_
      refine g_get_i C ob_21 2 (by decide) rfl wd_136 dX5_findRepairer_12 ?_
      refine g_top (y := mem 21 2) (rfl) ?_
      refine g_top (y := nI (vZ V)) (r_z r g) ?_
      refine g_icmp_ge C 87 dX5_findRepairer_15 (by decide) (fun c_15 => ?_) (fun c_15 => ?_)
      · have hin : i = vZ V := by have q := (nI_leI (a := vZ V) (b := i) (by omega) (by omega)).mp c_15; omega
        refine g_aload_n C 0 dX5_findRepairer_87 rfl ?_
        refine g_ldc C wd_589 dX5_findRepairer_88 ?_
        refine g_put_i C ob_146 7 (by decide) rfl wd_262 rfl rfl dX5_findRepairer_90 ?_
        refine g_mem (mem2 := gr mem 146 (upd (upd (mem 146) 5 (msF V i)) 7 ((-1000009) : Int32))) (gr_gr _ _ _ _) ?_
        refine g_vret C hQ rfl dX5_findRepairer_93 ?_
        have hk : rpK V b = vZ V := fa_first_all (hin ▸ hno)
        exact ⟨rfl, by rw [if_neg (by omega), hin]⟩
      · have hi2 : i < vZ V := by have q := mt (nI_leI (a := vZ V) (b := i) (by omega) (by omega)).mpr c_15; omega
        have hLi := (gd_l g hi2).2.1
        refine g_aload_n C 1 dX5_findRepairer_18 rfl ?_
        refine g_get_r C ob_1 2 (by decide) rfl wd_183 dX5_findRepairer_19 ?_
        refine g_iload_n C 2 dX5_findRepairer_22 rfl ?_
        refine g_cV1 C (As := [.int (nI i)]) (w := .int (mem 23 i)) (mem3 := gr mem 146 (upd (mem 146) 5 (msF V i))) iX0_memberAt (c_X0_memberAt_21 l G (gr mem 146 (upd (mem 146) 5 (msF V i))) (r_z (r_gr (by decide) r) g) (by omega) (nI i)) wd_586 ob_21 rfl ⟨Nat.le_of_ble_eq_true rfl, Nat.le_of_ble_eq_true rfl⟩ ⟨rfl, rfl⟩ rfl (Nat.le_of_ble_eq_true rfl) dX5_findRepairer_23 (congrArg Value.int (atI_n (by omega) (by omega))) (rfl) ?_
        refine g_top (y := nI (vL V i)) (r_l r g hi2) ?_
        refine g_istore_n C (L2 := [(3, .int (nI (vL V i))), (0, .ref (gad G 146)), (1, .ref (gad G 1)), (2, .int (nI i))]) dX5_findRepairer_26 (by decide) rfl ?_
        refine g_aload_n C 2 dX5_findRepairer_27 rfl ?_
        refine g_get_r C ob_1 1 (by decide) rfl wd_180 dX5_findRepairer_28 ?_
        refine g_iload_n C 0 dX5_findRepairer_31 rfl ?_
        refine g_cV1 C (As := [.int (nI (vL V i))]) (w := .int (b2i (vLv V (vL V i) = true))) (mem3 := gr mem 146 (upd (mem 146) 5 (msF V i))) iX3_lives (c_X3_lives l G g (gr mem 146 (upd (mem 146) 5 (msF V i))) (r_gr (by decide) r) (hLi)) wd_587 ob_4 rfl ⟨Nat.le_of_ble_eq_true rfl, Nat.le_of_ble_eq_true rfl⟩ ⟨rfl, rfl⟩ rfl (Nat.le_of_ble_eq_true rfl) dX5_findRepairer_32 (rfl) (rfl) ?_
        refine g_istore C (L2 := [(4, .int (b2i (vLv V (vL V i) = true))), (3, .int (nI (vL V i))), (0, .ref (gad G 146)), (1, .ref (gad G 1)), (2, .int (nI i))]) dX5_findRepairer_35 (by decide) rfl ?_
        refine g_iload C 0 dX5_findRepairer_37 rfl ?_
        refine g_ifb_eq C 64 dX5_findRepairer_39 (by decide) (fun c_39 => ?_) (fun c_39 => ?_)
        · refine g_iload C 0 dX5_findRepairer_64 rfl ?_
          refine g_ifb_ne C 81 dX5_findRepairer_66 (by decide) (fun c_66 => ?_) (fun c_66 => ?_)
          · refine g_iinc C (v := nI (i + 1)) (L2 := [(2, .int (nI (i + 1))), (4, .int (b2i (vLv V (vL V i) = true))), (3, .int (nI (vL V i))), (0, .ref (gad G 146)), (1, .ref (gad G 1))]) 4 dX5_findRepairer_81 rfl (nI_1 _) (by decide) rfl ?_
            refine g_goto C 7 dX5_findRepairer_84 (by decide) ?_
            refine g_loc (L2 := [(0, .ref (gad G 146)), (1, .ref (gad G 1)), (2, .int (nI (i + 1)))]) [3, 4, 0] rfl ?_
            exact g_eq (ih_7 (i + 1) (hi2) (fun q hq => (Nat.lt_or_ge q i).elim (fun e2 => hno q e2) (fun e2 => by rw [show q = i by omega]; apply (Bool.not_eq_true _).mp; intro z; have z := rpG_los.mp z; first | exact c_39 z.1 | exact absurd c_50 (by rw [z.2]; decide))) (by omega)) (by first | (rw [ms_t (r := i) (by assumption)]; done) | (rw [upd_upd, ms_f (r := i) (by assumption)]; rfl)) (rfl) rfl
          · refine g_aload_n C 2 dX5_findRepairer_69 rfl ?_
            refine g_dup C dX5_findRepairer_70 rfl ?_
            refine g_get_i C ob_146 5 (by decide) rfl wd_259 dX5_findRepairer_71 ?_
            refine g_top (y := msF V i) (rfl) ?_
            refine g_iconst C (nI 1) dX5_findRepairer_74 (by decide) ?_
            refine g_iload_n C 1 dX5_findRepairer_75 rfl ?_
            refine g_ishl C dX5_findRepairer_76 ?_
            refine g_ior C dX5_findRepairer_77 ?_
            refine g_put_i C ob_146 5 (by decide) rfl wd_259 rfl rfl dX5_findRepairer_78 ?_
            refine g_mem (mem2 := gr mem 146 (upd (upd (mem 146) 5 (msF V i)) 5 ((msF V i) ||| ((nI 1) <<< ((nI (vL V i)) &&& 31))))) (gr_gr _ _ _ _) ?_
            refine g_iinc C (v := nI (i + 1)) (L2 := [(2, .int (nI (i + 1))), (4, .int (b2i (vLv V (vL V i) = true))), (3, .int (nI (vL V i))), (0, .ref (gad G 146)), (1, .ref (gad G 1))]) 4 dX5_findRepairer_81 rfl (nI_1 _) (by decide) rfl ?_
            refine g_goto C 7 dX5_findRepairer_84 (by decide) ?_
            refine g_loc (L2 := [(0, .ref (gad G 146)), (1, .ref (gad G 1)), (2, .int (nI (i + 1)))]) [3, 4, 0] rfl ?_
            exact g_eq (ih_7 (i + 1) (hi2) (fun q hq => (Nat.lt_or_ge q i).elim (fun e2 => hno q e2) (fun e2 => by rw [show q = i by omega]; apply (Bool.not_eq_true _).mp; intro z; have z := rpG_los.mp z; first | exact c_39 z.1 | exact absurd c_50 (by rw [z.2]; decide))) (by omega)) (by first | (rw [ms_t (r := i) (by assumption)]; done) | (rw [upd_upd, ms_f (r := i) (by assumption)]; rfl)) (rfl) rfl
        · refine g_aload_n C 2 dX5_findRepairer_42 rfl ?_
          refine g_get_i C ob_146 2 (by decide) rfl wd_250 dX5_findRepairer_43 ?_
          refine g_top (y := mem 146 2) (rfl) ?_
          refine g_iload_n C 1 dX5_findRepairer_46 rfl ?_
          refine g_cS1 C (As := [.int (mem 146 2), .int (nI (vL V i))]) (w := .int (b2i (hs (mem 146 2) (vL V i)))) (mem3 := gr mem 146 (upd (mem 146) 5 (msF V i))) iX4_has (c_X4_has l G (gr mem 146 (upd (mem 146) 5 (msF V i))) (mem 146 2) (vL V i)) wd_588 rfl ⟨Nat.le_of_ble_eq_true rfl, Nat.le_of_ble_eq_true rfl⟩ ⟨rfl, rfl⟩ rfl (Nat.le_of_ble_eq_true rfl) dX5_findRepairer_47 (rfl) (rfl) ?_
          refine g_ifb_ne C 64 dX5_findRepairer_50 (by decide) (fun c_50 => ?_) (fun c_50 => ?_)
          · have c_50 := (hs_los g hLi hl).mp c_50
            refine g_iload C 0 dX5_findRepairer_64 rfl ?_
            refine g_ifb_ne C 81 dX5_findRepairer_66 (by decide) (fun c_66 => ?_) (fun c_66 => ?_)
            · refine g_iinc C (v := nI (i + 1)) (L2 := [(2, .int (nI (i + 1))), (4, .int (b2i (vLv V (vL V i) = true))), (3, .int (nI (vL V i))), (0, .ref (gad G 146)), (1, .ref (gad G 1))]) 4 dX5_findRepairer_81 rfl (nI_1 _) (by decide) rfl ?_
              refine g_goto C 7 dX5_findRepairer_84 (by decide) ?_
              refine g_loc (L2 := [(0, .ref (gad G 146)), (1, .ref (gad G 1)), (2, .int (nI (i + 1)))]) [3, 4, 0] rfl ?_
              exact g_eq (ih_7 (i + 1) (hi2) (fun q hq => (Nat.lt_or_ge q i).elim (fun e2 => hno q e2) (fun e2 => by rw [show q = i by omega]; apply (Bool.not_eq_true _).mp; intro z; have z := rpG_los.mp z; first | exact c_39 z.1 | exact absurd c_50 (by rw [z.2]; decide))) (by omega)) (by first | (rw [ms_t (r := i) (by assumption)]; done) | (rw [upd_upd, ms_f (r := i) (by assumption)]; rfl)) (rfl) rfl
            · refine g_aload_n C 2 dX5_findRepairer_69 rfl ?_
              refine g_dup C dX5_findRepairer_70 rfl ?_
              refine g_get_i C ob_146 5 (by decide) rfl wd_259 dX5_findRepairer_71 ?_
              refine g_top (y := msF V i) (rfl) ?_
              refine g_iconst C (nI 1) dX5_findRepairer_74 (by decide) ?_
              refine g_iload_n C 1 dX5_findRepairer_75 rfl ?_
              refine g_ishl C dX5_findRepairer_76 ?_
              refine g_ior C dX5_findRepairer_77 ?_
              refine g_put_i C ob_146 5 (by decide) rfl wd_259 rfl rfl dX5_findRepairer_78 ?_
              refine g_mem (mem2 := gr mem 146 (upd (upd (mem 146) 5 (msF V i)) 5 ((msF V i) ||| ((nI 1) <<< ((nI (vL V i)) &&& 31))))) (gr_gr _ _ _ _) ?_
              refine g_iinc C (v := nI (i + 1)) (L2 := [(2, .int (nI (i + 1))), (4, .int (b2i (vLv V (vL V i) = true))), (3, .int (nI (vL V i))), (0, .ref (gad G 146)), (1, .ref (gad G 1))]) 4 dX5_findRepairer_81 rfl (nI_1 _) (by decide) rfl ?_
              refine g_goto C 7 dX5_findRepairer_84 (by decide) ?_
              refine g_loc (L2 := [(0, .ref (gad G 146)), (1, .ref (gad G 1)), (2, .int (nI (i + 1)))]) [3, 4, 0] rfl ?_
              exact g_eq (ih_7 (i + 1) (hi2) (fun q hq => (Nat.lt_or_ge q i).elim (fun e2 => hno q e2) (fun e2 => by rw [show q = i by omega]; apply (Bool.not_eq_true _).mp; intro z; have z := rpG_los.mp z; first | exact c_39 z.1 | exact absurd c_50 (by rw [z.2]; decide))) (by omega)) (by first | (rw [ms_t (r := i) (by assumption)]; done) | (rw [upd_upd, ms_f (r := i) (by assumption)]; rfl)) (rfl) rfl
          · have c_50 := mt (hs_los g hLi hl).mpr c_50
            refine g_aload_n C 2 dX5_findRepairer_53 rfl ?_
            refine g_iload_n C 1 dX5_findRepairer_54 rfl ?_
            refine g_put_i C ob_146 7 (by decide) rfl wd_262 rfl rfl dX5_findRepairer_55 ?_
            refine g_mem (mem2 := gr mem 146 (upd (upd (mem 146) 5 (msF V i)) 7 (nI (vL V i)))) (gr_gr _ _ _ _) ?_
            refine g_aload_n C 2 dX5_findRepairer_58 rfl ?_
            refine g_iload_n C 4 dX5_findRepairer_59 rfl ?_
            refine g_put_i C ob_146 8 (by decide) rfl wd_264 rfl rfl dX5_findRepairer_60 ?_
            refine g_mem (mem2 := gr mem 146 (upd (upd (upd (mem 146) 5 (msF V i)) 7 (nI (vL V i))) 8 (nI i))) (gr_gr _ _ _ _) ?_
            refine g_vret C hQ rfl dX5_findRepairer_63 ?_
            have hk : rpK V b = i := fa_first_is hno (rpG_los.mpr ⟨c_39, (Bool.not_eq_true _).mp c_50⟩) hi2
            exact ⟨rfl, by rw [if_pos (by omega), rpM, hk]⟩
  refine g_loc (L2 := [(0, .ref (gad G 146)), (1, .ref (gad G 1)), (2, .int (nI 0))]) [1, 2, 0] rfl ?_
  exact g_eq (lp_7 (_ + 1) 0 (Nat.zero_le _) (fun q hq => absurd hq (Nat.not_lt_zero q)) (Nat.lt_succ_self _)) (rfl) (rfl) rfl

/-- what hindranceIn does to a memory -/
def HK (V : Nat → Int32) (b : Nat) (mem u : gM) : Prop :=
  ∃ p : Nat → Int32, u = gr mem 146 p ∧ (∀ j, j ≠ 5 → j ≠ 7 → j ≠ 8 → p j = mem 146 j) ∧ (hcd V b = 0 → p 5 = msF V (rpK V b) ∧ p 7 = nI (rpM V b) ∧ p 8 = nI (rpK V b))

def rm_X5_hindranceIn : Room := { frames := 3, cells := 0, slots := 0, locals := 66 }
theorem iX5_hindranceIn : gIv yX5_hindranceIn cX5_hindranceIn 2 (some .int) 1 := ⟨⟨wd_581, wd_31, by decide +kernel, by decide +kernel, by decide +kernel⟩, wd_579, wd_580⟩
set_option maxRecDepth 100000 in
set_option maxHeartbeats 4000000 in
theorem c_X5_hindranceIn (l : Launch) (G : gG) {T : Nat} {V : Nat → Int32} (g : Good T V) (mem : gM) (r : Rel V mem) {b : Nat} (hb : b < 200) (hl : mem 146 2 = mk (los V b) (vN V)) : gMet l yX5_hindranceIn cX5_hindranceIn 2 (some .int) rm_X5_hindranceIn G [.ref (gad G 146), .ref (gad G 1)] mem (fun a u => ∃ r1 : Int32, a = some (.int r1) ∧ (r1 = nI (hcd V b) ∧ HK V b mem u)) := by
  refine g_of (own := RX5) (L0 := [(0, .ref (gad G 146)), (1, .ref (gad G 1))]) (by decide +kernel) rfl (Nat.le_of_ble_eq_true rfl) rfl ?_
  intro p e s m args below meth c C Q hQ
  have hn10 := gd_n10 g
  refine g_aload_n C 1 dX5_hindranceIn_0 rfl ?_
  refine g_get_r C ob_1 2 (by decide) rfl wd_183 dX5_hindranceIn_1 ?_
  refine g_get_i C ob_21 0 (by decide) rfl wd_129 dX5_hindranceIn_4 ?_
  refine g_top (y := V 6) (r_rd r) ?_
  refine g_if_ne C 12 dX5_hindranceIn_7 (by decide) (fun c_7 => ?_) (fun c_7 => ?_)
  · refine g_aload_n C 0 dX5_hindranceIn_12 rfl ?_
    refine g_get_i C ob_146 2 (by decide) rfl wd_250 dX5_hindranceIn_13 ?_
    refine g_top (y := mk (los V b) (vN V)) (hl) ?_
    refine g_if_ne C 21 dX5_hindranceIn_16 (by decide) (fun c_16 => ?_) (fun c_16 => ?_)
    · refine g_aload_n C 0 dX5_hindranceIn_21 rfl ?_
      refine g_aload_n C 1 dX5_hindranceIn_22 rfl ?_
      refine g_cV0 C (As := [.ref (gad G 1)]) (mem3 := gr mem 146 (if rpK V b < vZ V then upd (upd (upd (mem 146) 5 (msF V (rpK V b))) 7 (nI (rpM V b))) 8 (nI (rpK V b)) else upd (upd (mem 146) 5 (msF V (vZ V))) 7 kNone)) iX5_findRepairer (c_X5_findRepairer l G g mem r (hb) (hl)) wd_582 ob_146 rfl ⟨Nat.le_of_ble_eq_true rfl, Nat.le_of_ble_eq_true rfl⟩ ⟨rfl, rfl⟩ rfl (Nat.le_of_ble_eq_true rfl) dX5_hindranceIn_23 (rfl) ?_
      by_cases hk : rpK V b < vZ V
      · rw [if_pos hk]
        refine g_aload_n C 0 dX5_hindranceIn_26 rfl ?_
        refine g_get_i C ob_146 7 (by decide) rfl wd_262 dX5_hindranceIn_27 ?_
        refine g_top (y := nI (rpM V b)) (rfl) ?_
        refine g_ldc C wd_589 dX5_hindranceIn_30 ?_
        refine g_icmp_ne_t C 39 (nN_ne (by have := rp_lt g hk; omega)) dX5_hindranceIn_32 (by decide) ?_
        refine g_iconst C (nI 0) dX5_hindranceIn_39 (by decide) ?_
        refine g_iret C hQ rfl dX5_hindranceIn_40 ?_
        exact ⟨_, rfl, by rw [hcd, if_neg c_7, if_neg c_16, if_pos hk], _, rfl, fun j h5 h7 h8 => by rw [upd_n h8, upd_n h7, upd_n h5], fun _ => ⟨rfl, rfl, rfl⟩⟩
      · rw [if_neg hk]
        refine g_aload_n C 0 dX5_hindranceIn_26 rfl ?_
        refine g_get_i C ob_146 7 (by decide) rfl wd_262 dX5_hindranceIn_27 ?_
        refine g_top (y := kNone) (rfl) ?_
        refine g_ldc C wd_589 dX5_hindranceIn_30 ?_
        refine g_icmp_ne_f C 39 (rfl) dX5_hindranceIn_32 (by decide) ?_
        refine g_iconst C (nI 3) dX5_hindranceIn_35 (by decide) ?_
        refine g_goto C 40 dX5_hindranceIn_36 (by decide) ?_
        refine g_iret C hQ rfl dX5_hindranceIn_40 ?_
        exact ⟨_, rfl, by rw [hcd, if_neg c_7, if_neg c_16, if_neg hk], _, rfl, fun j h5 h7 _ => by rw [upd_n h7, upd_n h5], fun h => absurd (hc_0 h).2.2 hk⟩
    · refine g_iconst C (nI 2) dX5_hindranceIn_19 (by decide) ?_
      refine g_iret C hQ rfl dX5_hindranceIn_20 ?_
      exact ⟨_, rfl, by rw [hcd, if_neg c_7, if_pos c_16], mem 146, (gr_self mem 146).symm, fun _ _ _ _ => rfl, fun h => absurd c_16 (hc_0 h).2.1⟩
  · refine g_iconst C (nI 1) dX5_hindranceIn_10 (by decide) ?_
    refine g_iret C hQ rfl dX5_hindranceIn_11 ?_
    exact ⟨_, rfl, by rw [hcd, if_pos c_7], mem 146, (gr_self mem 146).symm, fun _ _ _ _ => rfl, fun h => absurd (hc_0 h).1 (fun z => z c_7)⟩

def rm_X5_drawWaits : Room := { frames := 1, cells := 0, slots := 0, locals := 22 }
theorem iX5_drawWaits : gIv yX5_drawWaits cX5_drawWaits 5 none 2 := ⟨⟨wd_593, wd_31, by decide +kernel, by decide +kernel, by decide +kernel⟩, wd_591, wd_592⟩
set_option maxRecDepth 100000 in
set_option maxHeartbeats 4000000 in
theorem c_X5_drawWaits (l : Launch) (G : gG) {T : Nat} {V : Nat → Int32} (g : Good T V) (mem : gM) (r : Rel V mem) {b wa : Nat} (hb : b < 200) (hwa : 1 ≤ wa) (hwa1 : wa ≤ 1000) (h0 : mem 146 0 = nI b) (hl : mem 146 2 = mk (los V b) (vN V)) : gMet l yX5_drawWaits cX5_drawWaits 5 none rm_X5_drawWaits G [.ref (gad G 146), .int (V 10), .int (nI wa)] mem (fun a u => a = none ∧ u = gr (gr mem 146 (upd (mem 146) 6 (oI (frF (los V b) (wt V b wa) 10)))) 148 (cpy 10 (fun j => if los V b j = true then nI (wt V b wa j) else mem 148 j) (mem 148))) := by
  refine g_of (own := RX5) (L0 := [(0, .ref (gad G 146)), (1, .int (V 10)), (2, .int (nI wa))]) (by decide +kernel) rfl (Nat.le_of_ble_eq_true rfl) rfl ?_
  intro p e s m args below meth c C Q hQ
  have hn10 := gd_n10 g
  refine g_aload_n C 0 dX5_drawWaits_0 rfl ?_
  refine g_ldc C wd_589 dX5_drawWaits_1 ?_
  refine g_put_i C ob_146 6 (by decide) rfl wd_260 rfl rfl dX5_drawWaits_3 ?_
  refine g_iconst C (nI 0) dX5_drawWaits_6 (by decide) ?_
  refine g_istore_n C (L2 := [(3, .int (nI 0)), (0, .ref (gad G 146)), (1, .int (V 10)), (2, .int (nI wa))]) dX5_drawWaits_7 (by decide) rfl ?_
  have lp_8 : ∀ (fu : Nat) (i : Nat), (i ≤ 10) → 10 - i < fu → gV p l e rm_X5_drawWaits s m args below meth c 0 0 Q G 5 (gr (gr mem 146 (upd (mem 146) 6 (oI (frF (los V b) (wt V b wa) i)))) 148 (cpy i (fun j => if los V b j = true then nI (wt V b wa j) else mem 148 j) (mem 148))) 8 [(0, .ref (gad G 146)), (1, .int (V 10)), (2, .int (nI wa)), (3, .int (nI i))] [] := by
    intro fu
    induction fu with
    | zero => intro i _ hfu; exact absurd hfu (Nat.not_lt_zero _)
    | succ fu ih_8 =>
      intro i hi hfu_8
      refine g_iload_n C 3 dX5_drawWaits_8 rfl ?_
      refine g_bipush C (nI 10) dX5_drawWaits_9 (by decide) ?_
      refine g_icmp_ge C 101 dX5_drawWaits_11 (by decide) (fun c_11 => ?_) (fun c_11 => ?_)
      · have hin : i = 10 := by have q := (nI_leI (a := 10) (b := i) (by omega) (by omega)).mp c_11; omega
        refine g_vret C hQ rfl dX5_drawWaits_101 ?_
        exact ⟨rfl, by rw [hin]⟩
      · have hi2 : i < 10 := by have q := mt (nI_leI (a := 10) (b := i) (by omega) (by omega)).mpr c_11; omega
        refine g_aload_n C 0 dX5_drawWaits_14 rfl ?_
        refine g_get_i C ob_146 2 (by decide) rfl wd_250 dX5_drawWaits_15 ?_
        refine g_top (y := mem 146 2) (rfl) ?_
        refine g_iload_n C 3 dX5_drawWaits_18 rfl ?_
        refine g_cS1 C (As := [.int (mem 146 2), .int (nI i)]) (w := .int (b2i (hs (mem 146 2) i))) (mem3 := gr (gr mem 146 (upd (mem 146) 6 (oI (frF (los V b) (wt V b wa) i)))) 148 (cpy i (fun j => if los V b j = true then nI (wt V b wa j) else mem 148 j) (mem 148))) iX4_has (c_X4_has l G (gr (gr mem 146 (upd (mem 146) 6 (oI (frF (los V b) (wt V b wa) i)))) 148 (cpy i (fun j => if los V b j = true then nI (wt V b wa j) else mem 148 j) (mem 148))) (mem 146 2) i) wd_588 rfl ⟨Nat.le_of_ble_eq_true rfl, Nat.le_of_ble_eq_true rfl⟩ ⟨rfl, rfl⟩ rfl (Nat.le_of_ble_eq_true rfl) dX5_drawWaits_19 (rfl) (rfl) ?_
        refine g_ifb_eq C 95 dX5_drawWaits_22 (by decide) (fun c_22 => ?_) (fun c_22 => ?_)
        · have hlos : los V b i = false := by
            have z := c_22
            rw [hl] at z
            apply (Bool.not_eq_true _).mp
            intro y
            exact z ((mk_hs (by omega) (los_n g hb y (by omega))).mpr y)
          refine g_iinc C (v := nI (i + 1)) (L2 := [(3, .int (nI (i + 1))), (0, .ref (gad G 146)), (1, .int (V 10)), (2, .int (nI wa))]) 3 dX5_drawWaits_95 rfl (nI_1 _) (by decide) rfl ?_
          refine g_goto C 8 dX5_drawWaits_98 (by decide) ?_
          refine g_loc (L2 := [(0, .ref (gad G 146)), (1, .int (V 10)), (2, .int (nI wa)), (3, .int (nI (i + 1)))]) [1, 2, 3, 0] rfl ?_
          exact g_eq (ih_8 (i + 1) (hi2) (by omega)) (by first | rw [fr_no hlos, ← cpy_k (f := fun j => if los V b j = true then nI (wt V b wa j) else mem 148 j) (by rw [hlos]; rfl)] | (rw [upd_upd, fr_0 hlos hfr, ← cpy_s (f := fun j => if los V b j = true then nI (wt V b wa j) else mem 148 j) (x := nI (wt V b wa i)) (by rw [if_pos hlos])]; rfl) | (rw [upd_upd, fr_lt hlos hfr c_87, ← cpy_s (f := fun j => if los V b j = true then nI (wt V b wa j) else mem 148 j) (x := nI (wt V b wa i)) (by rw [if_pos hlos])]; rfl) | (rw [fr_ge hlos hfr c_87, ← cpy_s (f := fun j => if los V b j = true then nI (wt V b wa j) else mem 148 j) (x := nI (wt V b wa i)) (by rw [if_pos hlos])]; rfl)) (rfl) rfl
        · have hlos : los V b i = true := by
            have z := c_22
            rw [hl, hs_bt (by omega), bt_mk _ _ (by omega) i (by omega)] at z
            simp only [Bool.and_eq_true, decide_eq_true_eq] at z
            exact z.2
          refine g_iload_n C 1 dX5_drawWaits_25 rfl ?_
          refine g_sipush C (nI 1000) dX5_drawWaits_26 (by decide) ?_
          refine g_aload_n C 0 dX5_drawWaits_29 rfl ?_
          refine g_get_i C ob_146 0 (by decide) rfl wd_245 dX5_drawWaits_30 ?_
          refine g_top (y := mem 146 0) (rfl) ?_
          refine g_top (y := nI b) (h0) ?_
          refine g_imul_n C (d := 1000 * b) dX5_drawWaits_33 rfl ?_
          refine g_iload_n C 3 dX5_drawWaits_34 rfl ?_
          refine g_iadd_n C (d := (1000 * b) + i) dX5_drawWaits_35 rfl ?_
          refine g_ixor C dX5_drawWaits_36 ?_
          refine g_cS1 C (As := [.int ((V 10) ^^^ (nI ((1000 * b) + i)))]) (w := .int (mixI ((V 10) ^^^ (nI ((1000 * b) + i))))) (mem3 := gr (gr mem 146 (upd (mem 146) 6 (oI (frF (los V b) (wt V b wa) i)))) 148 (cpy i (fun j => if los V b j = true then nI (wt V b wa j) else mem 148 j) (mem 148))) iX4_mixed (c_X4_mixed l G (gr (gr mem 146 (upd (mem 146) 6 (oI (frF (los V b) (wt V b wa) i)))) 148 (cpy i (fun j => if los V b j = true then nI (wt V b wa j) else mem 148 j) (mem 148))) ((V 10) ^^^ (nI ((1000 * b) + i)))) wd_594 rfl ⟨Nat.le_of_ble_eq_true rfl, Nat.le_of_ble_eq_true rfl⟩ ⟨rfl, rfl⟩ rfl (Nat.le_of_ble_eq_true rfl) dX5_drawWaits_37 (rfl) (rfl) ?_
          refine g_istore C (L2 := [(4, .int (mixI ((V 10) ^^^ (nI ((1000 * b) + i))))), (0, .ref (gad G 146)), (1, .int (V 10)), (2, .int (nI wa)), (3, .int (nI i))]) dX5_drawWaits_40 (by decide) rfl ?_
          refine g_aload_n C 1 dX5_drawWaits_42 rfl ?_
          refine g_get_r C ob_146 10 (by decide) rfl wd_268 dX5_drawWaits_43 ?_
          refine g_iload_n C 4 dX5_drawWaits_46 rfl ?_
          refine g_iload C 0 dX5_drawWaits_47 rfl ?_
          refine g_cS1 C (As := [.int (mixI ((V 10) ^^^ (nI ((1000 * b) + i))))]) (w := .int (mixI (mixI ((V 10) ^^^ (nI ((1000 * b) + i)))))) (mem3 := gr (gr mem 146 (upd (mem 146) 6 (oI (frF (los V b) (wt V b wa) i)))) 148 (cpy i (fun j => if los V b j = true then nI (wt V b wa j) else mem 148 j) (mem 148))) iX4_mixed (c_X4_mixed l G (gr (gr mem 146 (upd (mem 146) 6 (oI (frF (los V b) (wt V b wa) i)))) 148 (cpy i (fun j => if los V b j = true then nI (wt V b wa j) else mem 148 j) (mem 148))) (mixI ((V 10) ^^^ (nI ((1000 * b) + i))))) wd_594 rfl ⟨Nat.le_of_ble_eq_true rfl, Nat.le_of_ble_eq_true rfl⟩ ⟨rfl, rfl⟩ rfl (Nat.le_of_ble_eq_true rfl) dX5_drawWaits_49 (rfl) (rfl) ?_
          refine g_iload_n C 3 dX5_drawWaits_52 rfl ?_
          refine g_cS1 C (As := [.int (mixI (mixI ((V 10) ^^^ (nI ((1000 * b) + i))))), .int (nI wa)]) (w := .int (nI (lotN (mixI (mixI ((V 10) ^^^ (nI ((1000 * b) + i))))) wa))) (mem3 := gr (gr mem 146 (upd (mem 146) 6 (oI (frF (los V b) (wt V b wa) i)))) 148 (cpy i (fun j => if los V b j = true then nI (wt V b wa j) else mem 148 j) (mem 148))) iX4_lot (c_X4_lot l G (gr (gr mem 146 (upd (mem 146) 6 (oI (frF (los V b) (wt V b wa) i)))) 148 (cpy i (fun j => if los V b j = true then nI (wt V b wa j) else mem 148 j) (mem 148))) (mixI (mixI ((V 10) ^^^ (nI ((1000 * b) + i))))) (nI wa)) wd_595 rfl ⟨Nat.le_of_ble_eq_true rfl, Nat.le_of_ble_eq_true rfl⟩ ⟨rfl, rfl⟩ rfl (Nat.le_of_ble_eq_true rfl) dX5_drawWaits_53 (congrArg Value.int (lot_n _ (hwa) (by omega))) (rfl) ?_
          refine g_top (y := nI (wt V b wa i)) (rfl) ?_
          refine g_cV0 C (As := [.int (nI i), .int (nI (wt V b wa i))]) (mem3 := gr (gr (gr mem 146 (upd (mem 146) 6 (oI (frF (los V b) (wt V b wa) i)))) 148 (cpy i (fun j => if los V b j = true then nI (wt V b wa j) else mem 148 j) (mem 148))) 148 (upd (cpy i (fun j => if los V b j = true then nI (wt V b wa j) else mem 148 j) (mem 148)) i (nI (wt V b wa i)))) iX6_put (c_X6_put l G (gr (gr mem 146 (upd (mem 146) 6 (oI (frF (los V b) (wt V b wa) i)))) 148 (cpy i (fun j => if los V b j = true then nI (wt V b wa j) else mem 148 j) (mem 148))) ob_147 ar_148 (by decide) (by omega) (nI (wt V b wa i))) wd_596 ob_147 rfl ⟨Nat.le_of_ble_eq_true rfl, Nat.le_of_ble_eq_true rfl⟩ ⟨rfl, rfl⟩ rfl (Nat.le_of_ble_eq_true rfl) dX5_drawWaits_56 (rfl) ?_
          refine g_mem (mem2 := gr (gr mem 146 (upd (mem 146) 6 (oI (frF (los V b) (wt V b wa) i)))) 148 (upd (cpy i (fun j => if los V b j = true then nI (wt V b wa j) else mem 148 j) (mem 148)) i (nI (wt V b wa i)))) (gr_gr _ _ _ _) ?_
          rcases hfr : frF (los V b) (wt V b wa) i with _ | f
          · have hfx := hfr
            refine g_aload_n C 1 dX5_drawWaits_59 rfl ?_
            refine g_get_i C ob_146 6 (by decide) rfl wd_260 dX5_drawWaits_60 ?_
            refine g_top (y := oI none) (rfl) ?_
            refine g_top (y := kNone) (rfl) ?_
            refine g_ldc C wd_589 dX5_drawWaits_63 ?_
            refine g_icmp_eq_t C 90 (rfl) dX5_drawWaits_65 (by decide) ?_
            refine g_aload_n C 1 dX5_drawWaits_90 rfl ?_
            refine g_iload_n C 4 dX5_drawWaits_91 rfl ?_
            refine g_put_i C ob_146 6 (by decide) rfl wd_260 rfl rfl dX5_drawWaits_92 ?_
            refine g_mem (mem2 := gr (gr mem 146 (upd (upd (mem 146) 6 (oI none)) 6 (nI i))) 148 (upd (cpy i (fun j => if los V b j = true then nI (wt V b wa j) else mem 148 j) (mem 148)) i (nI (wt V b wa i)))) ((gr_comm _ (by decide) _ _).trans (congrArg (fun z => gr z 148 (upd (cpy i (fun j => if los V b j = true then nI (wt V b wa j) else mem 148 j) (mem 148)) i (nI (wt V b wa i)))) (gr_gr _ _ _ _))) ?_
            refine g_iinc C (v := nI (i + 1)) (L2 := [(3, .int (nI (i + 1))), (4, .int (mixI ((V 10) ^^^ (nI ((1000 * b) + i))))), (0, .ref (gad G 146)), (1, .int (V 10)), (2, .int (nI wa))]) 4 dX5_drawWaits_95 rfl (nI_1 _) (by decide) rfl ?_
            refine g_goto C 8 dX5_drawWaits_98 (by decide) ?_
            refine g_loc (L2 := [(0, .ref (gad G 146)), (1, .int (V 10)), (2, .int (nI wa)), (3, .int (nI (i + 1)))]) [2, 3, 4, 0] rfl ?_
            exact g_eq (ih_8 (i + 1) (hi2) (by omega)) (by first | rw [fr_no hlos, ← cpy_k (f := fun j => if los V b j = true then nI (wt V b wa j) else mem 148 j) (by rw [hlos]; rfl)] | (rw [upd_upd, fr_0 hlos hfr, ← cpy_s (f := fun j => if los V b j = true then nI (wt V b wa j) else mem 148 j) (x := nI (wt V b wa i)) (by rw [if_pos hlos])]; rfl) | (rw [upd_upd, fr_lt hlos hfr c_87, ← cpy_s (f := fun j => if los V b j = true then nI (wt V b wa j) else mem 148 j) (x := nI (wt V b wa i)) (by rw [if_pos hlos])]; rfl) | (rw [fr_ge hlos hfr c_87, ← cpy_s (f := fun j => if los V b j = true then nI (wt V b wa j) else mem 148 j) (x := nI (wt V b wa i)) (by rw [if_pos hlos])]; rfl)) (rfl) rfl
          · have hfx := (fr_some hfr)
            refine g_aload_n C 1 dX5_drawWaits_59 rfl ?_
            refine g_get_i C ob_146 6 (by decide) rfl wd_260 dX5_drawWaits_60 ?_
            refine g_top (y := nI f) (rfl) ?_
            refine g_top (y := nI f) (rfl) ?_
            refine g_ldc C wd_589 dX5_drawWaits_63 ?_
            refine g_icmp_eq_f C 90 (nN_ne (by omega)) dX5_drawWaits_65 (by decide) ?_
            refine g_aload_n C 1 dX5_drawWaits_68 rfl ?_
            refine g_get_r C ob_146 10 (by decide) rfl wd_268 dX5_drawWaits_69 ?_
            refine g_iload_n C 4 dX5_drawWaits_72 rfl ?_
            refine g_cV1 C (As := [.int (nI i)]) (w := .int (nI (wt V b wa i))) (mem3 := gr (gr mem 146 (upd (mem 146) 6 (nI f))) 148 (upd (cpy i (fun j => if los V b j = true then nI (wt V b wa j) else mem 148 j) (mem 148)) i (nI (wt V b wa i)))) iX6_at (c_X6_at l G (gr (gr mem 146 (upd (mem 146) 6 (nI f))) 148 (upd (cpy i (fun j => if los V b j = true then nI (wt V b wa j) else mem 148 j) (mem 148)) i (nI (wt V b wa i)))) ob_147 ar_148 (by decide) (by omega)) wd_577 ob_147 rfl ⟨Nat.le_of_ble_eq_true rfl, Nat.le_of_ble_eq_true rfl⟩ ⟨rfl, rfl⟩ rfl (Nat.le_of_ble_eq_true rfl) dX5_drawWaits_73 (congrArg Value.int (upd_s _ _ _)) (rfl) ?_
            refine g_aload_n C 1 dX5_drawWaits_76 rfl ?_
            refine g_get_r C ob_146 10 (by decide) rfl wd_268 dX5_drawWaits_77 ?_
            refine g_aload_n C 1 dX5_drawWaits_80 rfl ?_
            refine g_get_i C ob_146 6 (by decide) rfl wd_260 dX5_drawWaits_81 ?_
            refine g_top (y := nI f) (rfl) ?_
            refine g_top (y := nI f) (rfl) ?_
            refine g_cV1 C (As := [.int (nI f)]) (w := .int ((upd (cpy i (fun j => if los V b j = true then nI (wt V b wa j) else mem 148 j) (mem 148)) i (nI (wt V b wa i))) f)) (mem3 := gr (gr mem 146 (upd (mem 146) 6 (nI f))) 148 (upd (cpy i (fun j => if los V b j = true then nI (wt V b wa j) else mem 148 j) (mem 148)) i (nI (wt V b wa i)))) iX6_at (c_X6_at l G (gr (gr mem 146 (upd (mem 146) 6 (nI f))) 148 (upd (cpy i (fun j => if los V b j = true then nI (wt V b wa j) else mem 148 j) (mem 148)) i (nI (wt V b wa i)))) ob_147 ar_148 (by decide) (by omega)) wd_577 ob_147 rfl ⟨Nat.le_of_ble_eq_true rfl, Nat.le_of_ble_eq_true rfl⟩ ⟨rfl, rfl⟩ rfl (Nat.le_of_ble_eq_true rfl) dX5_drawWaits_84 (rfl) (rfl) ?_
            refine g_top (y := nI (wt V b wa f)) (by rw [upd_n (by omega), cpy_in hfx.1, if_pos hfx.2]) ?_
            refine g_icmp_ge C 95 dX5_drawWaits_87 (by decide) (fun c_87 => ?_) (fun c_87 => ?_)
            · have c_87 : ¬ wt V b wa i < wt V b wa f := by have q1 := wt_lt V b i hwa; have q2 := wt_lt V b f hwa; have q := (nI_leI (by omega) (by omega)).mp c_87; omega
              refine g_iinc C (v := nI (i + 1)) (L2 := [(3, .int (nI (i + 1))), (4, .int (mixI ((V 10) ^^^ (nI ((1000 * b) + i))))), (0, .ref (gad G 146)), (1, .int (V 10)), (2, .int (nI wa))]) 4 dX5_drawWaits_95 rfl (nI_1 _) (by decide) rfl ?_
              refine g_goto C 8 dX5_drawWaits_98 (by decide) ?_
              refine g_loc (L2 := [(0, .ref (gad G 146)), (1, .int (V 10)), (2, .int (nI wa)), (3, .int (nI (i + 1)))]) [2, 3, 4, 0] rfl ?_
              exact g_eq (ih_8 (i + 1) (hi2) (by omega)) (by first | rw [fr_no hlos, ← cpy_k (f := fun j => if los V b j = true then nI (wt V b wa j) else mem 148 j) (by rw [hlos]; rfl)] | (rw [upd_upd, fr_0 hlos hfr, ← cpy_s (f := fun j => if los V b j = true then nI (wt V b wa j) else mem 148 j) (x := nI (wt V b wa i)) (by rw [if_pos hlos])]; rfl) | (rw [upd_upd, fr_lt hlos hfr c_87, ← cpy_s (f := fun j => if los V b j = true then nI (wt V b wa j) else mem 148 j) (x := nI (wt V b wa i)) (by rw [if_pos hlos])]; rfl) | (rw [fr_ge hlos hfr c_87, ← cpy_s (f := fun j => if los V b j = true then nI (wt V b wa j) else mem 148 j) (x := nI (wt V b wa i)) (by rw [if_pos hlos])]; rfl)) (rfl) rfl
            · have c_87 : wt V b wa i < wt V b wa f := by have q1 := wt_lt V b i hwa; have q2 := wt_lt V b f hwa; have q := mt (nI_leI (by omega) (by omega)).mpr c_87; omega
              refine g_aload_n C 1 dX5_drawWaits_90 rfl ?_
              refine g_iload_n C 4 dX5_drawWaits_91 rfl ?_
              refine g_put_i C ob_146 6 (by decide) rfl wd_260 rfl rfl dX5_drawWaits_92 ?_
              refine g_mem (mem2 := gr (gr mem 146 (upd (upd (mem 146) 6 (nI f)) 6 (nI i))) 148 (upd (cpy i (fun j => if los V b j = true then nI (wt V b wa j) else mem 148 j) (mem 148)) i (nI (wt V b wa i)))) ((gr_comm _ (by decide) _ _).trans (congrArg (fun z => gr z 148 (upd (cpy i (fun j => if los V b j = true then nI (wt V b wa j) else mem 148 j) (mem 148)) i (nI (wt V b wa i)))) (gr_gr _ _ _ _))) ?_
              refine g_iinc C (v := nI (i + 1)) (L2 := [(3, .int (nI (i + 1))), (4, .int (mixI ((V 10) ^^^ (nI ((1000 * b) + i))))), (0, .ref (gad G 146)), (1, .int (V 10)), (2, .int (nI wa))]) 4 dX5_drawWaits_95 rfl (nI_1 _) (by decide) rfl ?_
              refine g_goto C 8 dX5_drawWaits_98 (by decide) ?_
              refine g_loc (L2 := [(0, .ref (gad G 146)), (1, .int (V 10)), (2, .int (nI wa)), (3, .int (nI (i + 1)))]) [2, 3, 4, 0] rfl ?_
              exact g_eq (ih_8 (i + 1) (hi2) (by omega)) (by first | rw [fr_no hlos, ← cpy_k (f := fun j => if los V b j = true then nI (wt V b wa j) else mem 148 j) (by rw [hlos]; rfl)] | (rw [upd_upd, fr_0 hlos hfr, ← cpy_s (f := fun j => if los V b j = true then nI (wt V b wa j) else mem 148 j) (x := nI (wt V b wa i)) (by rw [if_pos hlos])]; rfl) | (rw [upd_upd, fr_lt hlos hfr c_87, ← cpy_s (f := fun j => if los V b j = true then nI (wt V b wa j) else mem 148 j) (x := nI (wt V b wa i)) (by rw [if_pos hlos])]; rfl) | (rw [fr_ge hlos hfr c_87, ← cpy_s (f := fun j => if los V b j = true then nI (wt V b wa j) else mem 148 j) (x := nI (wt V b wa i)) (by rw [if_pos hlos])]; rfl)) (rfl) rfl
  refine g_loc (L2 := [(0, .ref (gad G 146)), (1, .int (V 10)), (2, .int (nI wa)), (3, .int (nI 0))]) [1, 2, 3, 0] rfl ?_
  exact g_eq (lp_8 (_ + 1) 0 (Nat.zero_le _) (Nat.lt_succ_self _)) (by rw [cpy_0, show mem 148 = (gr mem 146 (upd (mem 146) 6 (oI (frF (los V b) (wt V b wa) 0)))) 148 from rfl, gr_self]; rfl) (rfl) rfl
end
section
theorem ask_t {V : Nat → Int32} {b wa f m : Nat} (h : los V b m = true) (h2 : wt V b wa m ≤ wt V b wa f + dN (vP V m) (vP V f)) : ask V b wa f m = true := by
  unfold ask
  rw [h, decide_eq_true h2]
  rfl
theorem ask_f {V : Nat → Int32} {b wa f m : Nat} (h : los V b m = false) : ask V b wa f m = false := by
  unfold ask
  rw [h]
  rfl
theorem ask_n {V : Nat → Int32} {b wa f m : Nat} (h : ¬ wt V b wa m ≤ wt V b wa f + dN (vP V m) (vP V f)) : ask V b wa f m = false := by
  unfold ask
  rw [decide_eq_false h, Bool.and_false]
theorem ask_los {V : Nat → Int32} {b wa f m : Nat} (h : ask V b wa f m = true) : los V b m = true := by
  unfold ask at h
  rw [Bool.and_eq_true] at h
  exact h.1

def rm_X5_findWhoAsks : Room := { frames := 2, cells := 0, slots := 0, locals := 45 }
theorem iX5_findWhoAsks : gIv yX5_findWhoAsks cX5_findWhoAsks 4 none 1 := ⟨⟨wd_600, wd_31, by decide +kernel, by decide +kernel, by decide +kernel⟩, wd_598, wd_599⟩
set_option maxRecDepth 100000 in
set_option maxHeartbeats 4000000 in
theorem c_X5_findWhoAsks (l : Launch) (G : gG) {T : Nat} {V : Nat → Int32} (g : Good T V) (mem : gM) (r : Rel V mem) {b wa f : Nat} (hb : b < 200) (hwa : 1 ≤ wa) (hwa1 : wa ≤ 1000) (hl : mem 146 2 = mk (los V b) (vN V)) (hf : mem 146 6 = nI f) (hfn : f < vN V) (hfl : los V b f = true) (hw : ∀ m, m < vN V → los V b m = true → mem 148 m = nI (wt V b wa m)) : gMet l yX5_findWhoAsks cX5_findWhoAsks 4 none rm_X5_findWhoAsks G [.ref (gad G 146), .ref (gad G 4)] mem (fun a u => a = none ∧ u = gr mem 146 (upd (upd (mem 146) 3 (mk (ask V b wa f) (vN V))) 4 (mk (sil V b wa f) (vN V)))) := by
  refine g_of (own := RX5) (L0 := [(0, .ref (gad G 146)), (1, .ref (gad G 4))]) (by decide +kernel) rfl (Nat.le_of_ble_eq_true rfl) rfl ?_
  intro p e s m args below meth c C Q hQ
  have hn10 := gd_n10 g
  refine g_aload_n C 0 dX5_findWhoAsks_0 rfl ?_
  refine g_iconst C (nI 0) dX5_findWhoAsks_1 (by decide) ?_
  refine g_put_i C ob_146 3 (by decide) rfl wd_254 rfl rfl dX5_findWhoAsks_2 ?_
  refine g_iconst C (nI 0) dX5_findWhoAsks_5 (by decide) ?_
  refine g_istore_n C (L2 := [(2, .int (nI 0)), (0, .ref (gad G 146)), (1, .ref (gad G 4))]) dX5_findWhoAsks_6 (by decide) rfl ?_
  have lp_7 : ∀ (fu : Nat) (i : Nat), (i ≤ vN V) → vN V - i < fu → gV p l e rm_X5_findWhoAsks s m args below meth c 0 0 Q G 4 (gr mem 146 (upd (mem 146) 3 (mk (ask V b wa f) i))) 7 [(0, .ref (gad G 146)), (1, .ref (gad G 4)), (2, .int (nI i))] [] := by
    intro fu
    induction fu with
    | zero => intro i _ hfu; exact absurd hfu (Nat.not_lt_zero _)
    | succ fu ih_7 =>
      intro i hi hfu_7
      refine g_iload_n C 2 dX5_findWhoAsks_7 rfl ?_
      refine g_aload_n C 1 dX5_findWhoAsks_8 rfl ?_
      refine g_get_i C ob_4 0 (by decide) rfl wd_74 dX5_findWhoAsks_9 ?_
      refine g_top (y := mem 4 0) (rfl) ?_
      refine g_top (y := nI (vN V)) (r_n r g) ?_
      refine g_icmp_ge C 86 dX5_findWhoAsks_12 (by decide) (fun c_12 => ?_) (fun c_12 => ?_)
      · have hin : i = vN V := by have q := (nI_leI (a := vN V) (b := i) (by omega) (by omega)).mp c_12; omega
        rw [hin]
        refine g_aload_n C 0 dX5_findWhoAsks_86 rfl ?_
        refine g_aload_n C 0 dX5_findWhoAsks_87 rfl ?_
        refine g_get_i C ob_146 2 (by decide) rfl wd_250 dX5_findWhoAsks_88 ?_
        refine g_top (y := mem 146 2) (rfl) ?_
        refine g_aload_n C 0 dX5_findWhoAsks_91 rfl ?_
        refine g_get_i C ob_146 3 (by decide) rfl wd_254 dX5_findWhoAsks_92 ?_
        refine g_top (y := mk (ask V b wa f) (vN V)) (rfl) ?_
        refine g_iconst C (((-1) : Int32)) dX5_findWhoAsks_95 (by decide) ?_
        refine g_ixor C dX5_findWhoAsks_96 ?_
        refine g_iand C dX5_findWhoAsks_97 ?_
        refine g_put_i C ob_146 4 (by decide) rfl wd_256 rfl rfl dX5_findWhoAsks_98 ?_
        refine g_mem (mem2 := gr mem 146 (upd (upd (mem 146) 3 (mk (ask V b wa f) (vN V))) 4 ((mem 146 2) &&& ((mk (ask V b wa f) (vN V)) ^^^ ((-1) : Int32))))) (gr_gr _ _ _ _) ?_
        refine g_vret C hQ rfl dX5_findWhoAsks_101 ?_
        exact ⟨rfl, by rw [hl, mk_andn (by omega)]; rfl⟩
      · have hi2 : i < vN V := by have q := mt (nI_leI (a := vN V) (b := i) (by omega) (by omega)).mpr c_12; omega
        refine g_aload_n C 0 dX5_findWhoAsks_15 rfl ?_
        refine g_get_r C ob_146 10 (by decide) rfl wd_268 dX5_findWhoAsks_16 ?_
        refine g_iload_n C 2 dX5_findWhoAsks_19 rfl ?_
        refine g_cV1 C (As := [.int (nI i)]) (w := .int (mem 148 i)) (mem3 := gr mem 146 (upd (mem 146) 3 (mk (ask V b wa f) i))) iX6_at (c_X6_at l G (gr mem 146 (upd (mem 146) 3 (mk (ask V b wa f) i))) ob_147 ar_148 (by decide) (by omega)) wd_577 ob_147 rfl ⟨Nat.le_of_ble_eq_true rfl, Nat.le_of_ble_eq_true rfl⟩ ⟨rfl, rfl⟩ rfl (Nat.le_of_ble_eq_true rfl) dX5_findWhoAsks_20 (rfl) (rfl) ?_
        refine g_aload_n C 0 dX5_findWhoAsks_23 rfl ?_
        refine g_get_r C ob_146 10 (by decide) rfl wd_268 dX5_findWhoAsks_24 ?_
        refine g_aload_n C 0 dX5_findWhoAsks_27 rfl ?_
        refine g_get_i C ob_146 6 (by decide) rfl wd_260 dX5_findWhoAsks_28 ?_
        refine g_top (y := mem 146 6) (rfl) ?_
        refine g_top (y := nI f) (hf) ?_
        refine g_cV1 C (As := [.int (nI f)]) (w := .int (mem 148 f)) (mem3 := gr mem 146 (upd (mem 146) 3 (mk (ask V b wa f) i))) iX6_at (c_X6_at l G (gr mem 146 (upd (mem 146) 3 (mk (ask V b wa f) i))) ob_147 ar_148 (by decide) (by omega)) wd_577 ob_147 rfl ⟨Nat.le_of_ble_eq_true rfl, Nat.le_of_ble_eq_true rfl⟩ ⟨rfl, rfl⟩ rfl (Nat.le_of_ble_eq_true rfl) dX5_findWhoAsks_31 (rfl) (rfl) ?_
        refine g_top (y := nI (wt V b wa f)) (hw f hfn hfl) ?_
        refine g_aload_n C 1 dX5_findWhoAsks_34 rfl ?_
        refine g_iload_n C 2 dX5_findWhoAsks_35 rfl ?_
        refine g_aload_n C 0 dX5_findWhoAsks_36 rfl ?_
        refine g_get_i C ob_146 6 (by decide) rfl wd_260 dX5_findWhoAsks_37 ?_
        refine g_top (y := mem 146 6) (rfl) ?_
        refine g_top (y := nI f) (hf) ?_
        refine g_cV1 C (As := [.int (nI i), .int (nI f)]) (w := .int (nI (dN (vP V i) (vP V f)))) (mem3 := gr mem 146 (upd (mem 146) 3 (mk (ask V b wa f) i))) iX3_distance (c_X3_distance l G g (gr mem 146 (upd (mem 146) 3 (mk (ask V b wa f) i))) (r_gr (by decide) r) (hi2) (hfn)) wd_601 ob_4 rfl ⟨Nat.le_of_ble_eq_true rfl, Nat.le_of_ble_eq_true rfl⟩ ⟨rfl, rfl⟩ rfl (Nat.le_of_ble_eq_true rfl) dX5_findWhoAsks_40 (rfl) (rfl) ?_
        refine g_iadd_n C (d := (wt V b wa f) + (dN (vP V i) (vP V f))) dX5_findWhoAsks_43 rfl ?_
        refine g_icmp_gt C 51 dX5_findWhoAsks_44 (by decide) (fun c_44 => ?_) (fun c_44 => ?_)
        · refine g_iconst C (nI 0) dX5_findWhoAsks_51 (by decide) ?_
          refine g_istore_n C (L2 := [(3, .int (nI 0)), (0, .ref (gad G 146)), (1, .ref (gad G 4)), (2, .int (nI i))]) dX5_findWhoAsks_52 (by decide) rfl ?_
          refine g_aload_n C 1 dX5_findWhoAsks_53 rfl ?_
          refine g_get_i C ob_146 2 (by decide) rfl wd_250 dX5_findWhoAsks_54 ?_
          refine g_top (y := mem 146 2) (rfl) ?_
          refine g_iload_n C 3 dX5_findWhoAsks_57 rfl ?_
          refine g_cS1 C (As := [.int (mem 146 2), .int (nI i)]) (w := .int (b2i (hs (mem 146 2) i))) (mem3 := gr mem 146 (upd (mem 146) 3 (mk (ask V b wa f) i))) iX4_has (c_X4_has l G (gr mem 146 (upd (mem 146) 3 (mk (ask V b wa f) i))) (mem 146 2) i) wd_588 rfl ⟨Nat.le_of_ble_eq_true rfl, Nat.le_of_ble_eq_true rfl⟩ ⟨rfl, rfl⟩ rfl (Nat.le_of_ble_eq_true rfl) dX5_findWhoAsks_58 (rfl) (rfl) ?_
          refine g_ifb_eq C 80 dX5_findWhoAsks_61 (by decide) (fun c_61 => ?_) (fun c_61 => ?_)
          · have c_61 := (Bool.not_eq_true _).mp (mt (hs_los g hi2 hl).mpr c_61)
            refine g_iinc C (v := nI (i + 1)) (L2 := [(2, .int (nI (i + 1))), (3, .int (nI 0)), (0, .ref (gad G 146)), (1, .ref (gad G 4))]) 3 dX5_findWhoAsks_80 rfl (nI_1 _) (by decide) rfl ?_
            refine g_goto C 7 dX5_findWhoAsks_83 (by decide) ?_
            refine g_loc (L2 := [(0, .ref (gad G 146)), (1, .ref (gad G 4)), (2, .int (nI (i + 1)))]) [2, 3, 0] rfl ?_
            exact g_eq (ih_7 (i + 1) (hi2) (by omega)) (by first | rw [mk_f (ask_f c_61)] | (rw [mk_f (ask_n (by have q := (nI_ltI (by omega) (by omega)).mp c_44; omega))]; done) | (rw [upd_upd, mk_t (ask_t c_61 (by have q := mt (nI_ltI (by omega) (by omega)).mpr c_44; omega))]; rfl)) (rfl) rfl
          · have c_61 := (hs_los g hi2 hl).mp c_61
            have hwI := hw i hi2 c_61
            rw [hwI] at c_44
            have hwi := wt_lt V b i hwa
            have hwf := wt_lt V b f hwa
            have hdi : dN (vP V i) (vP V f) ≤ 1000 := dN_le (gd_p g hi2).2 (gd_p g hfn).2
            refine g_iload_n C 0 dX5_findWhoAsks_64 rfl ?_
            refine g_if_eq_t C 80 (by decide) dX5_findWhoAsks_65 (by decide) ?_
            refine g_iinc C (v := nI (i + 1)) (L2 := [(2, .int (nI (i + 1))), (3, .int (nI 0)), (0, .ref (gad G 146)), (1, .ref (gad G 4))]) 3 dX5_findWhoAsks_80 rfl (nI_1 _) (by decide) rfl ?_
            refine g_goto C 7 dX5_findWhoAsks_83 (by decide) ?_
            refine g_loc (L2 := [(0, .ref (gad G 146)), (1, .ref (gad G 4)), (2, .int (nI (i + 1)))]) [2, 3, 0] rfl ?_
            exact g_eq (ih_7 (i + 1) (hi2) (by omega)) (by first | rw [mk_f (ask_f c_61)] | (rw [mk_f (ask_n (by have q := (nI_ltI (by omega) (by omega)).mp c_44; omega))]; done) | (rw [upd_upd, mk_t (ask_t c_61 (by have q := mt (nI_ltI (by omega) (by omega)).mpr c_44; omega))]; rfl)) (rfl) rfl
        · refine g_iconst C (nI 1) dX5_findWhoAsks_47 (by decide) ?_
          refine g_goto C 52 dX5_findWhoAsks_48 (by decide) ?_
          refine g_istore_n C (L2 := [(3, .int (nI 1)), (0, .ref (gad G 146)), (1, .ref (gad G 4)), (2, .int (nI i))]) dX5_findWhoAsks_52 (by decide) rfl ?_
          refine g_aload_n C 1 dX5_findWhoAsks_53 rfl ?_
          refine g_get_i C ob_146 2 (by decide) rfl wd_250 dX5_findWhoAsks_54 ?_
          refine g_top (y := mem 146 2) (rfl) ?_
          refine g_iload_n C 3 dX5_findWhoAsks_57 rfl ?_
          refine g_cS1 C (As := [.int (mem 146 2), .int (nI i)]) (w := .int (b2i (hs (mem 146 2) i))) (mem3 := gr mem 146 (upd (mem 146) 3 (mk (ask V b wa f) i))) iX4_has (c_X4_has l G (gr mem 146 (upd (mem 146) 3 (mk (ask V b wa f) i))) (mem 146 2) i) wd_588 rfl ⟨Nat.le_of_ble_eq_true rfl, Nat.le_of_ble_eq_true rfl⟩ ⟨rfl, rfl⟩ rfl (Nat.le_of_ble_eq_true rfl) dX5_findWhoAsks_58 (rfl) (rfl) ?_
          refine g_ifb_eq C 80 dX5_findWhoAsks_61 (by decide) (fun c_61 => ?_) (fun c_61 => ?_)
          · have c_61 := (Bool.not_eq_true _).mp (mt (hs_los g hi2 hl).mpr c_61)
            refine g_iinc C (v := nI (i + 1)) (L2 := [(2, .int (nI (i + 1))), (3, .int (nI 1)), (0, .ref (gad G 146)), (1, .ref (gad G 4))]) 3 dX5_findWhoAsks_80 rfl (nI_1 _) (by decide) rfl ?_
            refine g_goto C 7 dX5_findWhoAsks_83 (by decide) ?_
            refine g_loc (L2 := [(0, .ref (gad G 146)), (1, .ref (gad G 4)), (2, .int (nI (i + 1)))]) [2, 3, 0] rfl ?_
            exact g_eq (ih_7 (i + 1) (hi2) (by omega)) (by first | rw [mk_f (ask_f c_61)] | (rw [mk_f (ask_n (by have q := (nI_ltI (by omega) (by omega)).mp c_44; omega))]; done) | (rw [upd_upd, mk_t (ask_t c_61 (by have q := mt (nI_ltI (by omega) (by omega)).mpr c_44; omega))]; rfl)) (rfl) rfl
          · have c_61 := (hs_los g hi2 hl).mp c_61
            have hwI := hw i hi2 c_61
            rw [hwI] at c_44
            have hwi := wt_lt V b i hwa
            have hwf := wt_lt V b f hwa
            have hdi : dN (vP V i) (vP V f) ≤ 1000 := dN_le (gd_p g hi2).2 (gd_p g hfn).2
            refine g_iload_n C 0 dX5_findWhoAsks_64 rfl ?_
            refine g_if_eq_f C 80 (by decide) dX5_findWhoAsks_65 (by decide) ?_
            refine g_aload_n C 1 dX5_findWhoAsks_68 rfl ?_
            refine g_dup C dX5_findWhoAsks_69 rfl ?_
            refine g_get_i C ob_146 3 (by decide) rfl wd_254 dX5_findWhoAsks_70 ?_
            refine g_top (y := mk (ask V b wa f) i) (rfl) ?_
            refine g_iconst C (nI 1) dX5_findWhoAsks_73 (by decide) ?_
            refine g_iload_n C 3 dX5_findWhoAsks_74 rfl ?_
            refine g_ishl C dX5_findWhoAsks_75 ?_
            refine g_ior C dX5_findWhoAsks_76 ?_
            refine g_put_i C ob_146 3 (by decide) rfl wd_254 rfl rfl dX5_findWhoAsks_77 ?_
            refine g_mem (mem2 := gr mem 146 (upd (upd (mem 146) 3 (mk (ask V b wa f) i)) 3 ((mk (ask V b wa f) i) ||| ((nI 1) <<< ((nI i) &&& 31))))) (gr_gr _ _ _ _) ?_
            refine g_iinc C (v := nI (i + 1)) (L2 := [(2, .int (nI (i + 1))), (3, .int (nI 1)), (0, .ref (gad G 146)), (1, .ref (gad G 4))]) 3 dX5_findWhoAsks_80 rfl (nI_1 _) (by decide) rfl ?_
            refine g_goto C 7 dX5_findWhoAsks_83 (by decide) ?_
            refine g_loc (L2 := [(0, .ref (gad G 146)), (1, .ref (gad G 4)), (2, .int (nI (i + 1)))]) [2, 3, 0] rfl ?_
            exact g_eq (ih_7 (i + 1) (hi2) (by omega)) (by first | rw [mk_f (ask_f c_61)] | (rw [mk_f (ask_n (by have q := (nI_ltI (by omega) (by omega)).mp c_44; omega))]; done) | (rw [upd_upd, mk_t (ask_t c_61 (by have q := mt (nI_ltI (by omega) (by omega)).mpr c_44; omega))]; rfl)) (rfl) rfl
  refine g_loc (L2 := [(0, .ref (gad G 146)), (1, .ref (gad G 4)), (2, .int (nI 0))]) [1, 2, 0] rfl ?_
  exact g_eq (lp_7 (_ + 1) 0 (Nat.zero_le _) (Nat.lt_succ_self _)) (rfl) (rfl) rfl

def rm_X5_timeOfHearing : Room := { frames := 2, cells := 0, slots := 0, locals := 45 }
theorem iX5_timeOfHearing : gIv yX5_timeOfHearing cX5_timeOfHearing 4 (some .int) 1 := ⟨⟨wd_615, wd_31, by decide +kernel, by decide +kernel, by decide +kernel⟩, wd_613, wd_614⟩
set_option maxRecDepth 100000 in
set_option maxHeartbeats 4000000 in
theorem c_X5_timeOfHearing (l : Launch) (G : gG) {T : Nat} {V : Nat → Int32} (g : Good T V) (mem : gM) (r : Rel V mem) {b wa f : Nat} (hb : b < 200) (hwa : 1 ≤ wa) (hwa1 : wa ≤ 1000) (ha : mem 146 3 = mk (ask V b wa f) (vN V)) (hrk : rpK V b < vZ V) (hr : mem 146 7 = nI (rpM V b)) (hl : mem 146 2 = mk (los V b) (vN V)) (hf : mem 146 6 = nI f) (hfn : f < vN V) (hfl : los V b f = true) (hw : ∀ m, m < vN V → los V b m = true → mem 148 m = nI (wt V b wa m)) : gMet l yX5_timeOfHearing cX5_timeOfHearing 4 (some .int) rm_X5_timeOfHearing G [.ref (gad G 146), .ref (gad G 4)] mem (fun a u => a = some (.int (nI (hrd V b wa f))) ∧ u = mem) := by
  refine g_of (own := RX5) (L0 := [(0, .ref (gad G 146)), (1, .ref (gad G 4))]) (by decide +kernel) rfl (Nat.le_of_ble_eq_true rfl) rfl ?_
  intro p e s m args below meth c C Q hQ
  have hn10 := gd_n10 g
  have hrn := rp_lt g hrk
  have hwf := wt_lt V b f hwa
  have hdf : dR V b f ≤ 1000 := dN_le (gd_p g hfn).2 (gd_p g hrn).2
  refine g_aload_n C 0 dX5_timeOfHearing_0 rfl ?_
  refine g_get_r C ob_146 10 (by decide) rfl wd_268 dX5_timeOfHearing_1 ?_
  refine g_aload_n C 0 dX5_timeOfHearing_4 rfl ?_
  refine g_get_i C ob_146 6 (by decide) rfl wd_260 dX5_timeOfHearing_5 ?_
  refine g_top (y := nI f) (hf) ?_
  refine g_cV1 C (As := [.int (nI f)]) (w := .int (mem 148 f)) (mem3 := mem) iX6_at (c_X6_at l G mem ob_147 ar_148 (by decide) (by omega)) wd_577 ob_147 rfl ⟨Nat.le_of_ble_eq_true rfl, Nat.le_of_ble_eq_true rfl⟩ ⟨rfl, rfl⟩ rfl (Nat.le_of_ble_eq_true rfl) dX5_timeOfHearing_8 (rfl) (rfl) ?_
  refine g_top (y := nI (wt V b wa f)) (hw f hfn hfl) ?_
  refine g_aload_n C 1 dX5_timeOfHearing_11 rfl ?_
  refine g_aload_n C 0 dX5_timeOfHearing_12 rfl ?_
  refine g_get_i C ob_146 6 (by decide) rfl wd_260 dX5_timeOfHearing_13 ?_
  refine g_top (y := nI f) (hf) ?_
  refine g_aload_n C 0 dX5_timeOfHearing_16 rfl ?_
  refine g_get_i C ob_146 7 (by decide) rfl wd_262 dX5_timeOfHearing_17 ?_
  refine g_top (y := nI (rpM V b)) (hr) ?_
  refine g_cV1 C (As := [.int (nI f), .int (nI (rpM V b))]) (w := .int (nI (dN (vP V f) (vP V (rpM V b))))) (mem3 := mem) iX3_distance (c_X3_distance l G g mem r (hfn) (hrn)) wd_601 ob_4 rfl ⟨Nat.le_of_ble_eq_true rfl, Nat.le_of_ble_eq_true rfl⟩ ⟨rfl, rfl⟩ rfl (Nat.le_of_ble_eq_true rfl) dX5_timeOfHearing_20 (rfl) (rfl) ?_
  refine g_top (y := nI (dR V b f)) (rfl) ?_
  refine g_iadd_n C (d := (wt V b wa f) + (dR V b f)) dX5_timeOfHearing_23 rfl ?_
  refine g_istore_n C (L2 := [(2, .int (nI ((wt V b wa f) + (dR V b f)))), (0, .ref (gad G 146)), (1, .ref (gad G 4))]) dX5_timeOfHearing_24 (by decide) rfl ?_
  refine g_iconst C (nI 0) dX5_timeOfHearing_25 (by decide) ?_
  refine g_istore_n C (L2 := [(3, .int (nI 0)), (2, .int (nI ((wt V b wa f) + (dR V b f)))), (0, .ref (gad G 146)), (1, .ref (gad G 4))]) dX5_timeOfHearing_26 (by decide) rfl ?_
  have lp_27 : ∀ (fu : Nat) (i : Nat), (i ≤ vN V) → vN V - i < fu → gV p l e rm_X5_timeOfHearing s m args below meth c 0 0 Q G 4 mem 27 [(0, .ref (gad G 146)), (1, .ref (gad G 4)), (2, .int (nI (hdF (ask V b wa f) (fun m => wt V b wa m + dR V b m) (wt V b wa f + dR V b f) i))), (3, .int (nI i))] [] := by
    intro fu
    induction fu with
    | zero => intro i _ hfu; exact absurd hfu (Nat.not_lt_zero _)
    | succ fu ih_27 =>
      intro i hi hfu_27
      refine g_iload_n C 3 dX5_timeOfHearing_27 rfl ?_
      refine g_aload_n C 1 dX5_timeOfHearing_28 rfl ?_
      refine g_get_i C ob_4 0 (by decide) rfl wd_74 dX5_timeOfHearing_29 ?_
      refine g_top (y := nI (vN V)) (r_n r g) ?_
      refine g_icmp_ge C 75 dX5_timeOfHearing_32 (by decide) (fun c_32 => ?_) (fun c_32 => ?_)
      · have hin : i = vN V := by have q := (nI_leI (a := vN V) (b := i) (by omega) (by omega)).mp c_32; omega
        refine g_iload_n C 2 dX5_timeOfHearing_75 rfl ?_
        refine g_iret C hQ rfl dX5_timeOfHearing_76 ?_
        exact ⟨by rw [hin]; rfl, rfl⟩
      · have hi2 : i < vN V := by have q := mt (nI_leI (a := vN V) (b := i) (by omega) (by omega)).mpr c_32; omega
        refine g_aload_n C 0 dX5_timeOfHearing_35 rfl ?_
        refine g_get_i C ob_146 3 (by decide) rfl wd_254 dX5_timeOfHearing_36 ?_
        refine g_iload_n C 3 dX5_timeOfHearing_39 rfl ?_
        refine g_cS1 C (As := [.int (mem 146 3), .int (nI i)]) (w := .int (b2i (hs (mem 146 3) i))) (mem3 := mem) iX4_has (c_X4_has l G mem (mem 146 3) i) wd_588 rfl ⟨Nat.le_of_ble_eq_true rfl, Nat.le_of_ble_eq_true rfl⟩ ⟨rfl, rfl⟩ rfl (Nat.le_of_ble_eq_true rfl) dX5_timeOfHearing_40 (rfl) (rfl) ?_
        refine g_ifb_eq C 69 dX5_timeOfHearing_43 (by decide) (fun c_43 => ?_) (fun c_43 => ?_)
        · have c_43 : ask V b wa f i = false := by rw [ha] at c_43; exact (Bool.not_eq_true _).mp (mt (mk_hs (by omega) hi2).mpr c_43)
          refine g_iinc C (v := nI (i + 1)) (L2 := [(3, .int (nI (i + 1))), (0, .ref (gad G 146)), (1, .ref (gad G 4)), (2, .int (nI (hdF (ask V b wa f) (fun m => wt V b wa m + dR V b m) (wt V b wa f + dR V b f) i)))]) 3 dX5_timeOfHearing_69 rfl (nI_1 _) (by decide) rfl ?_
          refine g_goto C 27 dX5_timeOfHearing_72 (by decide) ?_
          refine g_loc (L2 := [(0, .ref (gad G 146)), (1, .ref (gad G 4)), (2, .int (nI (hdF (ask V b wa f) (fun m => wt V b wa m + dR V b m) (wt V b wa f + dR V b f) i))), (3, .int (nI (i + 1)))]) [1, 2, 3, 0] rfl ?_
          exact g_eq (ih_27 (i + 1) (hi2) (by omega)) (rfl) (gLc rfl (gLc rfl (gLc (congrArg Value.int (by first | rw [hd_t c_43] | rw [hd_f c_43])) (rfl)))) rfl
        · have c_43 : ask V b wa f i = true := by rw [ha] at c_43; exact (mk_hs (by omega) hi2).mp c_43
          have hwi := wt_lt V b i hwa
          have hdi : dR V b i ≤ 1000 := dN_le (gd_p g hi2).2 (gd_p g hrn).2
          have hhd := hd_le (q := ask V b wa f) (x := fun m => wt V b wa m + dR V b m) (h0 := wt V b wa f + dR V b f) i
          refine g_iload_n C 2 dX5_timeOfHearing_46 rfl ?_
          refine g_aload_n C 0 dX5_timeOfHearing_47 rfl ?_
          refine g_get_r C ob_146 10 (by decide) rfl wd_268 dX5_timeOfHearing_48 ?_
          refine g_iload_n C 3 dX5_timeOfHearing_51 rfl ?_
          refine g_cV1 C (As := [.int (nI i)]) (w := .int (mem 148 i)) (mem3 := mem) iX6_at (c_X6_at l G mem ob_147 ar_148 (by decide) (by omega)) wd_577 ob_147 rfl ⟨Nat.le_of_ble_eq_true rfl, Nat.le_of_ble_eq_true rfl⟩ ⟨rfl, rfl⟩ rfl (Nat.le_of_ble_eq_true rfl) dX5_timeOfHearing_52 (rfl) (rfl) ?_
          refine g_top (y := nI (wt V b wa i)) (hw i hi2 (ask_los c_43)) ?_
          refine g_aload_n C 1 dX5_timeOfHearing_55 rfl ?_
          refine g_iload_n C 3 dX5_timeOfHearing_56 rfl ?_
          refine g_aload_n C 0 dX5_timeOfHearing_57 rfl ?_
          refine g_get_i C ob_146 7 (by decide) rfl wd_262 dX5_timeOfHearing_58 ?_
          refine g_top (y := nI (rpM V b)) (hr) ?_
          refine g_cV1 C (As := [.int (nI i), .int (nI (rpM V b))]) (w := .int (nI (dN (vP V i) (vP V (rpM V b))))) (mem3 := mem) iX3_distance (c_X3_distance l G g mem r (hi2) (hrn)) wd_601 ob_4 rfl ⟨Nat.le_of_ble_eq_true rfl, Nat.le_of_ble_eq_true rfl⟩ ⟨rfl, rfl⟩ rfl (Nat.le_of_ble_eq_true rfl) dX5_timeOfHearing_61 (rfl) (rfl) ?_
          refine g_top (y := nI (dR V b i)) (rfl) ?_
          refine g_iadd_n C (d := (wt V b wa i) + (dR V b i)) dX5_timeOfHearing_64 rfl ?_
          refine g_mmin C wd_616 wd_344 wd_33 wd_345 (by decide) (Nat.le_of_ble_eq_true rfl) dX5_timeOfHearing_65 ?_
          refine g_top (y := nI (min (hdF (ask V b wa f) (fun m => wt V b wa m + dR V b m) (wt V b wa f + dR V b f) i) (wt V b wa i + dR V b i))) (min_nI (by omega) (by omega)) ?_
          refine g_istore_n C (L2 := [(2, .int (nI (min (hdF (ask V b wa f) (fun m => wt V b wa m + dR V b m) (wt V b wa f + dR V b f) i) (wt V b wa i + dR V b i)))), (0, .ref (gad G 146)), (1, .ref (gad G 4)), (3, .int (nI i))]) dX5_timeOfHearing_68 (by decide) rfl ?_
          refine g_iinc C (v := nI (i + 1)) (L2 := [(3, .int (nI (i + 1))), (2, .int (nI (min (hdF (ask V b wa f) (fun m => wt V b wa m + dR V b m) (wt V b wa f + dR V b f) i) (wt V b wa i + dR V b i)))), (0, .ref (gad G 146)), (1, .ref (gad G 4))]) 3 dX5_timeOfHearing_69 rfl (nI_1 _) (by decide) rfl ?_
          refine g_goto C 27 dX5_timeOfHearing_72 (by decide) ?_
          refine g_loc (L2 := [(0, .ref (gad G 146)), (1, .ref (gad G 4)), (2, .int (nI (min (hdF (ask V b wa f) (fun m => wt V b wa m + dR V b m) (wt V b wa f + dR V b f) i) (wt V b wa i + dR V b i)))), (3, .int (nI (i + 1)))]) [2, 3, 1, 0] rfl ?_
          exact g_eq (ih_27 (i + 1) (hi2) (by omega)) (rfl) (gLc rfl (gLc rfl (gLc (congrArg Value.int (by first | rw [hd_t c_43] | rw [hd_f c_43])) (rfl)))) rfl
  refine g_loc (L2 := [(0, .ref (gad G 146)), (1, .ref (gad G 4)), (2, .int (nI ((wt V b wa f) + (dR V b f)))), (3, .int (nI 0))]) [2, 3, 1, 0] rfl ?_
  exact g_eq (lp_27 (_ + 1) 0 (Nat.zero_le _) (Nat.lt_succ_self _)) (rfl) (gLc rfl (gLc rfl (gLc (congrArg Value.int (rfl)) (rfl)))) rfl

theorem hrd_le {T : Nat} {V : Nat → Int32} {b wa f : Nat} (g : Good T V) (hwa : 1 ≤ wa) (hfn : f < vN V) (hrk : rpK V b < vZ V) : hrd V b wa f < wa + 1000 := by
  have h1 := wt_lt V b f hwa
  have h2 : dR V b f ≤ 1000 := dN_le (gd_p g hfn).2 (gd_p g (rp_lt g hrk)).2
  have h3 := hd_le (q := ask V b wa f) (x := fun m => wt V b wa m + dR V b m) (h0 := wt V b wa f + dR V b f) (vN V)
  show hdF _ _ _ _ < _
  omega
theorem step_le {T : Nat} {V : Nat → Int32} {b : Nat} (g : Good T V) (hrk : rpK V b < vZ V) : toN (V 1) * rpK V b ≤ 5000 := by
  have h1 := (gd_step g).2
  have h2 := gd_n10 g
  have h3 := (gd_z g).2
  have h4 : toN (V 1) * rpK V b ≤ 500 * 10 := Nat.mul_le_mul h1 (by omega)
  omega
theorem dR_le {T : Nat} {V : Nat → Int32} {b m : Nat} (g : Good T V) (hrk : rpK V b < vZ V) (hm : m < vN V) : dR V b m ≤ 1000 := dN_le (gd_p g hm).2 (gd_p g (rp_lt g hrk)).2
theorem tim_le {T : Nat} {V : Nat → Int32} {b wa f : Nat} (g : Good T V) (hwa : 1 ≤ wa) (hwa1 : wa ≤ 1000) (hfn : f < vN V) (hrk : rpK V b < vZ V) : tim V b wa f ≤ 8000 := by
  have h1 := hrd_le g hwa hfn hrk
  have h2 := step_le (b := b) g hrk
  refine tm_le fun m hm => ?_
  have h3 := dR_le (b := b) g hrk hm
  show hrd V b wa f + _ + _ ≤ _
  omega

def rm_X5_reckonTimes : Room := { frames := 3, cells := 0, slots := 0, locals := 68 }
theorem iX5_reckonTimes : gIv yX5_reckonTimes cX5_reckonTimes 6 none 2 := ⟨⟨wd_611, wd_31, by decide +kernel, by decide +kernel, by decide +kernel⟩, wd_609, wd_610⟩
set_option maxRecDepth 100000 in
set_option maxHeartbeats 4000000 in
theorem c_X5_reckonTimes (l : Launch) (G : gG) {T : Nat} {V : Nat → Int32} (g : Good T V) (mem : gM) (r : Rel V mem) {b wa f : Nat} (hb : b < 200) (hwa : 1 ≤ wa) (hwa1 : wa ≤ 1000) (ha : mem 146 3 = mk (ask V b wa f) (vN V)) (hrk : rpK V b < vZ V) (hr : mem 146 7 = nI (rpM V b)) (hl : mem 146 2 = mk (los V b) (vN V)) (hf : mem 146 6 = nI f) (hfn : f < vN V) (hfl : los V b f = true) (hw : ∀ m, m < vN V → los V b m = true → mem 148 m = nI (wt V b wa m)) (hq : mem 146 8 = nI (rpK V b)) : gMet l yX5_reckonTimes cX5_reckonTimes 6 none rm_X5_reckonTimes G [.ref (gad G 146), .ref (gad G 4), .int (nI (toN (V 1)))] mem (fun a u => a = none ∧ u = gr (gr mem 146 (upd (mem 146) 9 (nI (tim V b wa f)))) 150 (cpy (vN V) (fun j => if los V b j = true then nI (sent V b wa f + dR V b j) else mem 150 j) (mem 150))) := by
  refine g_of (own := RX5) (L0 := [(0, .ref (gad G 146)), (1, .ref (gad G 4)), (2, .int (nI (toN (V 1))))]) (by decide +kernel) rfl (Nat.le_of_ble_eq_true rfl) rfl ?_
  intro p e s m args below meth c C Q hQ
  have hn10 := gd_n10 g
  have hrn := rp_lt g hrk
  have hs1 := hrd_le g hwa hfn hrk
  have hs2 := step_le (b := b) g hrk
  have hs3 : sent V b wa f < 10000 := by show hrd V b wa f + _ < _; omega
  refine g_aload_n C 0 dX5_reckonTimes_0 rfl ?_
  refine g_aload_n C 1 dX5_reckonTimes_1 rfl ?_
  refine g_cV1 C (As := [.ref (gad G 4)]) (w := .int (nI (hrd V b wa f))) (mem3 := mem) iX5_timeOfHearing (c_X5_timeOfHearing l G g mem r hb hwa hwa1 (ha) hrk (hr) (hl) (hf) hfn hfl (hw)) wd_612 ob_146 rfl ⟨Nat.le_of_ble_eq_true rfl, Nat.le_of_ble_eq_true rfl⟩ ⟨rfl, rfl⟩ rfl (Nat.le_of_ble_eq_true rfl) dX5_reckonTimes_2 (rfl) (rfl) ?_
  refine g_iload_n C 2 dX5_reckonTimes_5 rfl ?_
  refine g_aload_n C 0 dX5_reckonTimes_6 rfl ?_
  refine g_get_i C ob_146 8 (by decide) rfl wd_264 dX5_reckonTimes_7 ?_
  refine g_top (y := nI (rpK V b)) (hq) ?_
  refine g_imul_n C (d := (toN (V 1)) * (rpK V b)) dX5_reckonTimes_10 rfl ?_
  refine g_iadd_n C (d := (hrd V b wa f) + ((toN (V 1)) * (rpK V b))) dX5_reckonTimes_11 rfl ?_
  refine g_top (y := nI (sent V b wa f)) (rfl) ?_
  refine g_istore_n C (L2 := [(3, .int (nI (sent V b wa f))), (0, .ref (gad G 146)), (1, .ref (gad G 4)), (2, .int (nI (toN (V 1))))]) dX5_reckonTimes_12 (by decide) rfl ?_
  refine g_aload_n C 1 dX5_reckonTimes_13 rfl ?_
  refine g_iconst C (nI 0) dX5_reckonTimes_14 (by decide) ?_
  refine g_put_i C ob_146 9 (by decide) rfl wd_266 rfl rfl dX5_reckonTimes_15 ?_
  refine g_iconst C (nI 0) dX5_reckonTimes_18 (by decide) ?_
  refine g_istore C (L2 := [(4, .int (nI 0)), (3, .int (nI (sent V b wa f))), (0, .ref (gad G 146)), (1, .ref (gad G 4)), (2, .int (nI (toN (V 1))))]) dX5_reckonTimes_19 (by decide) rfl ?_
  have lp_21 : ∀ (fu : Nat) (i : Nat), (i ≤ vN V) → vN V - i < fu → gV p l e rm_X5_reckonTimes s m args below meth c 0 0 Q G 6 (gr (gr mem 146 (upd (mem 146) 9 (nI (tmF (los V b) (fun m => sent V b wa f + dR V b m) i)))) 150 (cpy i (fun j => if los V b j = true then nI (sent V b wa f + dR V b j) else mem 150 j) (mem 150))) 21 [(0, .ref (gad G 146)), (1, .ref (gad G 4)), (2, .int (nI (toN (V 1)))), (3, .int (nI (sent V b wa f))), (4, .int (nI i))] [] := by
    intro fu
    induction fu with
    | zero => intro i _ hfu; exact absurd hfu (Nat.not_lt_zero _)
    | succ fu ih_21 =>
      intro i hi hfu_21
      refine g_iload C 4 dX5_reckonTimes_21 rfl ?_
      refine g_aload_n C 1 dX5_reckonTimes_23 rfl ?_
      refine g_get_i C ob_4 0 (by decide) rfl wd_74 dX5_reckonTimes_24 ?_
      refine g_top (y := mem 4 0) (rfl) ?_
      refine g_top (y := nI (vN V)) (r_n r g) ?_
      refine g_icmp_ge C 86 dX5_reckonTimes_27 (by decide) (fun c_27 => ?_) (fun c_27 => ?_)
      · have hin : i = vN V := by have q := (nI_leI (a := vN V) (b := i) (by omega) (by omega)).mp c_27; omega
        refine g_vret C hQ rfl dX5_reckonTimes_86 ?_
        exact ⟨rfl, by rw [hin]; rfl⟩
      · have hi2 : i < vN V := by have q := mt (nI_leI (a := vN V) (b := i) (by omega) (by omega)).mpr c_27; omega
        refine g_aload_n C 0 dX5_reckonTimes_30 rfl ?_
        refine g_get_i C ob_146 2 (by decide) rfl wd_250 dX5_reckonTimes_31 ?_
        refine g_top (y := mem 146 2) (rfl) ?_
        refine g_iload C 4 dX5_reckonTimes_34 rfl ?_
        refine g_cS1 C (As := [.int (mem 146 2), .int (nI i)]) (w := .int (b2i (hs (mem 146 2) i))) (mem3 := gr (gr mem 146 (upd (mem 146) 9 (nI (tmF (los V b) (fun m => sent V b wa f + dR V b m) i)))) 150 (cpy i (fun j => if los V b j = true then nI (sent V b wa f + dR V b j) else mem 150 j) (mem 150))) iX4_has (c_X4_has l G (gr (gr mem 146 (upd (mem 146) 9 (nI (tmF (los V b) (fun m => sent V b wa f + dR V b m) i)))) 150 (cpy i (fun j => if los V b j = true then nI (sent V b wa f + dR V b j) else mem 150 j) (mem 150))) (mem 146 2) i) wd_588 rfl ⟨Nat.le_of_ble_eq_true rfl, Nat.le_of_ble_eq_true rfl⟩ ⟨rfl, rfl⟩ rfl (Nat.le_of_ble_eq_true rfl) dX5_reckonTimes_36 (rfl) (rfl) ?_
        refine g_ifb_eq C 80 dX5_reckonTimes_39 (by decide) (fun c_39 => ?_) (fun c_39 => ?_)
        · have c_39 := (Bool.not_eq_true _).mp (mt (hs_los g hi2 hl).mpr c_39)
          refine g_iinc C (v := nI (i + 1)) (L2 := [(4, .int (nI (i + 1))), (0, .ref (gad G 146)), (1, .ref (gad G 4)), (2, .int (nI (toN (V 1)))), (3, .int (nI (sent V b wa f)))]) 4 dX5_reckonTimes_80 rfl (nI_1 _) (by decide) rfl ?_
          refine g_goto C 21 dX5_reckonTimes_83 (by decide) ?_
          refine g_loc (L2 := [(0, .ref (gad G 146)), (1, .ref (gad G 4)), (2, .int (nI (toN (V 1)))), (3, .int (nI (sent V b wa f))), (4, .int (nI (i + 1)))]) [1, 2, 3, 4, 0] rfl ?_
          exact g_eq (ih_21 (i + 1) (hi2) (by omega)) (by first | (rw [tm_f c_39, ← cpy_k (f := fun j => if los V b j = true then nI (sent V b wa f + dR V b j) else mem 150 j) (by rw [c_39]; rfl)]; done) | (rw [upd_upd, tm_t c_39, ← cpy_s (f := fun j => if los V b j = true then nI (sent V b wa f + dR V b j) else mem 150 j) (x := nI (sent V b wa f + dR V b i)) (by rw [if_pos c_39])]; done)) (rfl) rfl
        · have c_39 := (hs_los g hi2 hl).mp c_39
          have hdi := dR_le (b := b) g hrk hi2
          have htl : tmF (los V b) (fun m => sent V b wa f + dR V b m) i ≤ sent V b wa f + 1000 := tm_le fun m hm => by have := dR_le (b := b) (m := m) g hrk (by omega); omega
          refine g_iload_n C 3 dX5_reckonTimes_42 rfl ?_
          refine g_aload_n C 1 dX5_reckonTimes_43 rfl ?_
          refine g_iload C 4 dX5_reckonTimes_44 rfl ?_
          refine g_aload_n C 0 dX5_reckonTimes_46 rfl ?_
          refine g_get_i C ob_146 7 (by decide) rfl wd_262 dX5_reckonTimes_47 ?_
          refine g_top (y := mem 146 7) (rfl) ?_
          refine g_top (y := nI (rpM V b)) (hr) ?_
          refine g_cV1 C (As := [.int (nI i), .int (nI (rpM V b))]) (w := .int (nI (dN (vP V i) (vP V (rpM V b))))) (mem3 := gr (gr mem 146 (upd (mem 146) 9 (nI (tmF (los V b) (fun m => sent V b wa f + dR V b m) i)))) 150 (cpy i (fun j => if los V b j = true then nI (sent V b wa f + dR V b j) else mem 150 j) (mem 150))) iX3_distance (c_X3_distance l G g (gr (gr mem 146 (upd (mem 146) 9 (nI (tmF (los V b) (fun m => sent V b wa f + dR V b m) i)))) 150 (cpy i (fun j => if los V b j = true then nI (sent V b wa f + dR V b j) else mem 150 j) (mem 150))) (r_gr (by decide) (r_gr (by decide) r)) (hi2) (hrn)) wd_601 ob_4 rfl ⟨Nat.le_of_ble_eq_true rfl, Nat.le_of_ble_eq_true rfl⟩ ⟨rfl, rfl⟩ rfl (Nat.le_of_ble_eq_true rfl) dX5_reckonTimes_50 (rfl) (rfl) ?_
          refine g_top (y := nI (dR V b i)) (rfl) ?_
          refine g_iadd_n C (d := (sent V b wa f) + (dR V b i)) dX5_reckonTimes_53 rfl ?_
          refine g_istore C (L2 := [(5, .int (nI ((sent V b wa f) + (dR V b i)))), (0, .ref (gad G 146)), (1, .ref (gad G 4)), (2, .int (nI (toN (V 1)))), (3, .int (nI (sent V b wa f))), (4, .int (nI i))]) dX5_reckonTimes_54 (by decide) rfl ?_
          refine g_aload_n C 1 dX5_reckonTimes_56 rfl ?_
          refine g_get_r C ob_146 11 (by decide) rfl wd_270 dX5_reckonTimes_57 ?_
          refine g_iload C 5 dX5_reckonTimes_60 rfl ?_
          refine g_iload C 0 dX5_reckonTimes_62 rfl ?_
          refine g_cV0 C (As := [.int (nI i), .int (nI ((sent V b wa f) + (dR V b i)))]) (mem3 := gr (gr (gr mem 146 (upd (mem 146) 9 (nI (tmF (los V b) (fun m => sent V b wa f + dR V b m) i)))) 150 (cpy i (fun j => if los V b j = true then nI (sent V b wa f + dR V b j) else mem 150 j) (mem 150))) 150 (upd (cpy i (fun j => if los V b j = true then nI (sent V b wa f + dR V b j) else mem 150 j) (mem 150)) i (nI ((sent V b wa f) + (dR V b i))))) iX6_put (c_X6_put l G (gr (gr mem 146 (upd (mem 146) 9 (nI (tmF (los V b) (fun m => sent V b wa f + dR V b m) i)))) 150 (cpy i (fun j => if los V b j = true then nI (sent V b wa f + dR V b j) else mem 150 j) (mem 150))) ob_149 ar_150 (by decide) (by omega) (nI ((sent V b wa f) + (dR V b i)))) wd_596 ob_149 rfl ⟨Nat.le_of_ble_eq_true rfl, Nat.le_of_ble_eq_true rfl⟩ ⟨rfl, rfl⟩ rfl (Nat.le_of_ble_eq_true rfl) dX5_reckonTimes_64 (rfl) ?_
          refine g_mem (mem2 := gr (gr mem 146 (upd (mem 146) 9 (nI (tmF (los V b) (fun m => sent V b wa f + dR V b m) i)))) 150 (upd (cpy i (fun j => if los V b j = true then nI (sent V b wa f + dR V b j) else mem 150 j) (mem 150)) i (nI ((sent V b wa f) + (dR V b i))))) (gr_gr _ _ _ _) ?_
          refine g_aload_n C 1 dX5_reckonTimes_67 rfl ?_
          refine g_aload_n C 1 dX5_reckonTimes_68 rfl ?_
          refine g_get_i C ob_146 9 (by decide) rfl wd_266 dX5_reckonTimes_69 ?_
          refine g_top (y := nI (tmF (los V b) (fun m => sent V b wa f + dR V b m) i)) (rfl) ?_
          refine g_iload C 0 dX5_reckonTimes_72 rfl ?_
          refine g_mmax C wd_617 wd_618 wd_33 wd_619 (by decide) (Nat.le_of_ble_eq_true rfl) dX5_reckonTimes_74 ?_
          refine g_top (y := nI (max (tmF (los V b) (fun m => sent V b wa f + dR V b m) i) (sent V b wa f + dR V b i))) (max_nI (by omega) (by omega)) ?_
          refine g_put_i C ob_146 9 (by decide) rfl wd_266 rfl rfl dX5_reckonTimes_77 ?_
          refine g_mem (mem2 := gr (gr mem 146 (upd (upd (mem 146) 9 (nI (tmF (los V b) (fun m => sent V b wa f + dR V b m) i))) 9 (nI (max (tmF (los V b) (fun m => sent V b wa f + dR V b m) i) (sent V b wa f + dR V b i))))) 150 (upd (cpy i (fun j => if los V b j = true then nI (sent V b wa f + dR V b j) else mem 150 j) (mem 150)) i (nI ((sent V b wa f) + (dR V b i))))) ((gr_comm _ (by decide) _ _).trans (congrArg (fun z => gr z 150 (upd (cpy i (fun j => if los V b j = true then nI (sent V b wa f + dR V b j) else mem 150 j) (mem 150)) i (nI ((sent V b wa f) + (dR V b i))))) (gr_gr _ _ _ _))) ?_
          refine g_iinc C (v := nI (i + 1)) (L2 := [(4, .int (nI (i + 1))), (5, .int (nI ((sent V b wa f) + (dR V b i)))), (0, .ref (gad G 146)), (1, .ref (gad G 4)), (2, .int (nI (toN (V 1)))), (3, .int (nI (sent V b wa f)))]) 5 dX5_reckonTimes_80 rfl (nI_1 _) (by decide) rfl ?_
          refine g_goto C 21 dX5_reckonTimes_83 (by decide) ?_
          refine g_loc (L2 := [(0, .ref (gad G 146)), (1, .ref (gad G 4)), (2, .int (nI (toN (V 1)))), (3, .int (nI (sent V b wa f))), (4, .int (nI (i + 1)))]) [2, 3, 4, 5, 0] rfl ?_
          exact g_eq (ih_21 (i + 1) (hi2) (by omega)) (by first | (rw [tm_f c_39, ← cpy_k (f := fun j => if los V b j = true then nI (sent V b wa f + dR V b j) else mem 150 j) (by rw [c_39]; rfl)]; done) | (rw [upd_upd, tm_t c_39, ← cpy_s (f := fun j => if los V b j = true then nI (sent V b wa f + dR V b j) else mem 150 j) (x := nI (sent V b wa f + dR V b i)) (by rw [if_pos c_39])]; done)) (rfl) rfl
  refine g_loc (L2 := [(0, .ref (gad G 146)), (1, .ref (gad G 4)), (2, .int (nI (toN (V 1)))), (3, .int (nI (sent V b wa f))), (4, .int (nI 0))]) [2, 3, 4, 1, 0] rfl ?_
  exact g_eq (lp_21 (_ + 1) 0 (Nat.zero_le _) (Nat.lt_succ_self _)) (by rw [cpy_0, show mem 150 = (gr mem 146 (upd (mem 146) 9 (nI (tmF (los V b) (fun m => sent V b wa f + dR V b m) 0)))) 150 from rfl, gr_self]; rfl) (rfl) rfl
end
section
theorem hcd_lt (V : Nat → Int32) (b : Nat) : hcd V b < 4 := by
  unfold hcd
  split
  · omega
  · split
    · omega
    · split <;> omega
theorem hcd_0 {V : Nat → Int32} {b : Nat} (h : nI (hcd V b) = 0) : hcd V b = 0 := by
  have := hcd_lt V b
  exact (nI_iff (by omega) (by decide)).mp h
theorem fr_ex {V : Nat → Int32} {b wa : Nat} (hn : vN V ≤ 10) (h : ¬ mk (los V b) (vN V) = 0) : ∃ f, frF (los V b) (wt V b wa) (vN V) = some f := by
  cases hr : frF (los V b) (wt V b wa) (vN V) with
  | some f => exact ⟨f, rfl⟩
  | none => exact absurd ((mk_0 (by omega)).mpr (fr_none hr)) h
theorem RK_no {V : Nat → Int32} {b wa : Nat} {mem : gM} {P : Nat → Int32} (h0 : P 0 = nI b) (h1 : P 1 = nI (hcd V b)) (hh : ¬ hcd V b = 0) : RK V b wa mem (gr mem 146 P) :=
  ⟨P, mem 148, mem 150, by rw [show mem 148 = (gr mem 146 P) 148 from rfl, gr_self, show mem 150 = (gr mem 146 P) 150 from rfl, gr_self], h0, h1, fun q => absurd q hh⟩

def rm_X5_reckon : Room := { frames := 4, cells := 0, slots := 0, locals := 93 }
theorem iX5_reckon : gIv yX5_reckon cX5_reckon 4 none 3 := ⟨⟨wd_576, wd_31, by decide +kernel, by decide +kernel, by decide +kernel⟩, wd_574, wd_575⟩
set_option maxRecDepth 100000 in
set_option maxHeartbeats 4000000 in
theorem c_X5_reckon (l : Launch) (G : gG) {T : Nat} {V : Nat → Int32} (g : Good T V) (mem : gM) (r : Rel V mem) {b wa : Nat} (hb : b < 200) (hwa : 1 ≤ wa) (hwa1 : wa ≤ 1000) : gMet l yX5_reckon cX5_reckon 4 none rm_X5_reckon G [.ref (gad G 146), .ref (gad G 1), .int (nI b), .int (nI wa)] mem (fun a u => a = none ∧ RK V b wa mem u) := by
  refine g_of (own := RX5) (L0 := [(0, .ref (gad G 146)), (1, .ref (gad G 1)), (2, .int (nI b)), (3, .int (nI wa))]) (by decide +kernel) rfl (Nat.le_of_ble_eq_true rfl) rfl ?_
  intro p e s m args below meth c C Q hQ
  have hn10 := gd_n10 g
  refine g_aload_n C 0 dX5_reckon_0 rfl ?_
  refine g_iload_n C 2 dX5_reckon_1 rfl ?_
  refine g_put_i C ob_146 0 (by decide) rfl wd_245 rfl rfl dX5_reckon_2 ?_
  refine g_aload_n C 0 dX5_reckon_5 rfl ?_
  refine g_aload_n C 1 dX5_reckon_6 rfl ?_
  refine g_get_r C ob_1 1 (by decide) rfl wd_180 dX5_reckon_7 ?_
  refine g_get_i C ob_4 1 (by decide) rfl wd_75 dX5_reckon_10 ?_
  refine g_top (y := mem 4 1) (rfl) ?_
  refine g_top (y := mk (vLv V) (vN V)) (r_lv r) ?_
  refine g_aload_n C 1 dX5_reckon_13 rfl ?_
  refine g_get_r C ob_1 3 (by decide) rfl wd_186 dX5_reckon_14 ?_
  refine g_aload_n C 0 dX5_reckon_17 rfl ?_
  refine g_get_i C ob_146 0 (by decide) rfl wd_245 dX5_reckon_18 ?_
  refine g_top (y := nI b) (rfl) ?_
  refine g_cV1 C (As := [.int (nI b)]) (w := .int (mem 25 b)) (mem3 := gr mem 146 (upd (mem 146) 0 (nI b))) iX6_at (c_X6_at l G (gr mem 146 (upd (mem 146) 0 (nI b))) ob_24 ar_25 (by decide) (by omega)) wd_577 ob_24 rfl ⟨Nat.le_of_ble_eq_true rfl, Nat.le_of_ble_eq_true rfl⟩ ⟨rfl, rfl⟩ rfl (Nat.le_of_ble_eq_true rfl) dX5_reckon_21 (rfl) (rfl) ?_
  refine g_top (y := V (150 + b)) (r_lo r hb) ?_
  refine g_iand C dX5_reckon_24 ?_
  refine g_top (y := mk (los V b) (vN V)) (los_mk g hb) ?_
  refine g_put_i C ob_146 2 (by decide) rfl wd_250 rfl rfl dX5_reckon_25 ?_
  refine g_mem (mem2 := gr mem 146 (upd (upd (mem 146) 0 (nI b)) 2 (mk (los V b) (vN V)))) (gr_gr _ _ _ _) ?_
  refine g_aload_n C 0 dX5_reckon_28 rfl ?_
  refine g_aload_n C 0 dX5_reckon_29 rfl ?_
  refine g_aload_n C 1 dX5_reckon_30 rfl ?_
  refine g_cVr C (As := [.ref (gad G 1)]) iX5_hindranceIn (c_X5_hindranceIn l G g (gr mem 146 (upd (upd (mem 146) 0 (nI b)) 2 (mk (los V b) (vN V)))) (r_gr (by decide) r) (hb) (rfl)) wd_578 ob_146 rfl ⟨Nat.le_of_ble_eq_true rfl, Nat.le_of_ble_eq_true rfl⟩ ⟨rfl, rfl⟩ rfl (Nat.le_of_ble_eq_true rfl) dX5_reckon_31 (fun r1 u1 hq => ?_)
  obtain ⟨hr1, p1, hu1, hp1, hp1c⟩ := hq
  subst hr1
  subst hu1
  refine g_mem (gr_gr _ _ _ _) ?_
  have q0 : p1 0 = nI b := hp1 0 (by decide) (by decide) (by decide)
  have q2 : p1 2 = mk (los V b) (vN V) := hp1 2 (by decide) (by decide) (by decide)
  refine g_put_i C ob_146 1 (by decide) rfl wd_248 rfl rfl dX5_reckon_34 ?_
  refine g_mem (mem2 := gr mem 146 (upd p1 1 (nI (hcd V b)))) (gr_gr _ _ _ _) ?_
  refine g_aload_n C 0 dX5_reckon_37 rfl ?_
  refine g_get_i C ob_146 1 (by decide) rfl wd_248 dX5_reckon_38 ?_
  refine g_top (y := nI (hcd V b)) (rfl) ?_
  refine g_if_ne C 80 dX5_reckon_41 (by decide) (fun c_41 => ?_) (fun c_41 => ?_)
  · refine g_vret C hQ rfl dX5_reckon_80 ?_
    exact ⟨rfl, RK_no q0 rfl (fun h => c_41 (by rw [h]; rfl))⟩
  · have hh0 := hcd_0 c_41
    obtain ⟨e6, e2, hrk⟩ := hc_0 hh0
    obtain ⟨e5, e7, e8⟩ := hp1c hh0
    obtain ⟨f, hf1⟩ := fr_ex (wa := wa) hn10 e2
    obtain ⟨hfn, hfl⟩ := fr_some hf1
    have hf10 : oI (frF (los V b) (wt V b wa) 10) = nI f := by rw [fr_wide hn10 (fun m h1 h2 => (Bool.not_eq_true _).mp fun z => absurd (los_n g hb z (by omega)) (by omega)), hf1]; rfl
    refine g_aload_n C 0 dX5_reckon_44 rfl ?_
    refine g_aload_n C 1 dX5_reckon_45 rfl ?_
    refine g_get_r C ob_1 2 (by decide) rfl wd_183 dX5_reckon_46 ?_
    refine g_get_i C ob_21 1 (by decide) rfl wd_133 dX5_reckon_49 ?_
    refine g_top (y := mem 21 1) (rfl) ?_
    refine g_top (y := V 10) (r_sd r) ?_
    refine g_iload_n C 3 dX5_reckon_52 rfl ?_
    refine g_cV0 C (As := [.int (V 10), .int (nI wa)]) (mem3 := gr (gr mem 146 (upd (upd p1 1 (nI (hcd V b))) 6 (oI (frF (los V b) (wt V b wa) 10)))) 148 (cpy 10 (fun j => if los V b j = true then nI (wt V b wa j) else mem 148 j) (mem 148))) iX5_drawWaits (c_X5_drawWaits l G g (gr mem 146 (upd p1 1 (nI (hcd V b)))) (r_gr (by decide) r) (wa := wa) hb hwa hwa1 (q0) (q2)) wd_590 ob_146 rfl ⟨Nat.le_of_ble_eq_true rfl, Nat.le_of_ble_eq_true rfl⟩ ⟨rfl, rfl⟩ rfl (Nat.le_of_ble_eq_true rfl) dX5_reckon_53 (congrArg (fun z => gr z 148 _) (gr_gr _ _ _ _)) ?_
    refine g_aload_n C 0 dX5_reckon_56 rfl ?_
    refine g_aload_n C 1 dX5_reckon_57 rfl ?_
    refine g_get_r C ob_1 1 (by decide) rfl wd_180 dX5_reckon_58 ?_
    refine g_cV0 C (As := [.ref (gad G 4)]) (mem3 := gr (gr mem 146 (upd (upd (upd (upd p1 1 (nI (hcd V b))) 6 (oI (frF (los V b) (wt V b wa) 10))) 3 (mk (ask V b wa f) (vN V))) 4 (mk (sil V b wa f) (vN V)))) 148 (cpy 10 (fun j => if los V b j = true then nI (wt V b wa j) else mem 148 j) (mem 148))) iX5_findWhoAsks (c_X5_findWhoAsks l G g (gr (gr mem 146 (upd (upd p1 1 (nI (hcd V b))) 6 (oI (frF (los V b) (wt V b wa) 10)))) 148 (cpy 10 (fun j => if los V b j = true then nI (wt V b wa j) else mem 148 j) (mem 148))) (r_gr (by decide) (r_gr (by decide) r)) hb hwa hwa1 (q2) (hf10) hfn hfl (fun m hm hl => by rw [gr_s, cpy_in (by omega), if_pos hl])) wd_597 ob_146 rfl ⟨Nat.le_of_ble_eq_true rfl, Nat.le_of_ble_eq_true rfl⟩ ⟨rfl, rfl⟩ rfl (Nat.le_of_ble_eq_true rfl) dX5_reckon_61 ((gr_comm _ (by decide) _ _).trans (congrArg (fun z => gr z 148 (cpy 10 (fun j => if los V b j = true then nI (wt V b wa j) else mem 148 j) (mem 148))) (gr_gr _ _ _ _))) ?_
    refine g_aload_n C 0 dX5_reckon_64 rfl ?_
    refine g_aload_n C 1 dX5_reckon_65 rfl ?_
    refine g_get_r C ob_1 1 (by decide) rfl wd_180 dX5_reckon_66 ?_
    refine g_aload_n C 1 dX5_reckon_69 rfl ?_
    refine g_get_r C ob_1 0 (by decide) rfl wd_177 dX5_reckon_70 ?_
    refine g_iconst C (nI 1) dX5_reckon_73 (by decide) ?_
    refine g_cV1 C (As := [.int (nI 1)]) (w := .int (mem 3 1)) (mem3 := gr (gr mem 146 (upd (upd (upd (upd p1 1 (nI (hcd V b))) 6 (oI (frF (los V b) (wt V b wa) 10))) 3 (mk (ask V b wa f) (vN V))) 4 (mk (sil V b wa f) (vN V)))) 148 (cpy 10 (fun j => if los V b j = true then nI (wt V b wa j) else mem 148 j) (mem 148))) iX6_at (c_X6_at l G (gr (gr mem 146 (upd (upd (upd (upd p1 1 (nI (hcd V b))) 6 (oI (frF (los V b) (wt V b wa) 10))) 3 (mk (ask V b wa f) (vN V))) 4 (mk (sil V b wa f) (vN V)))) 148 (cpy 10 (fun j => if los V b j = true then nI (wt V b wa j) else mem 148 j) (mem 148))) ob_2 ar_3 (by decide) (by omega)) wd_577 ob_2 rfl ⟨Nat.le_of_ble_eq_true rfl, Nat.le_of_ble_eq_true rfl⟩ ⟨rfl, rfl⟩ rfl (Nat.le_of_ble_eq_true rfl) dX5_reckon_74 (rfl) (rfl) ?_
    refine g_top (y := nI (toN (V 1))) ((r_set r (by decide)).trans (gd_step g).1) ?_
    refine g_cV0 C (As := [.ref (gad G 4), .int (nI (toN (V 1)))]) (mem3 := gr (gr (gr mem 146 (upd (upd (upd (upd (upd p1 1 (nI (hcd V b))) 6 (oI (frF (los V b) (wt V b wa) 10))) 3 (mk (ask V b wa f) (vN V))) 4 (mk (sil V b wa f) (vN V))) 9 (nI (tim V b wa f)))) 148 (cpy 10 (fun j => if los V b j = true then nI (wt V b wa j) else mem 148 j) (mem 148))) 150 (cpy (vN V) (fun j => if los V b j = true then nI (sent V b wa f + dR V b j) else mem 150 j) (mem 150))) iX5_reckonTimes (c_X5_reckonTimes l G g (gr (gr mem 146 (upd (upd (upd (upd p1 1 (nI (hcd V b))) 6 (oI (frF (los V b) (wt V b wa) 10))) 3 (mk (ask V b wa f) (vN V))) 4 (mk (sil V b wa f) (vN V)))) 148 (cpy 10 (fun j => if los V b j = true then nI (wt V b wa j) else mem 148 j) (mem 148))) (r_gr (by decide) (r_gr (by decide) r)) hb hwa hwa1 (rfl) hrk (e7) (q2) (hf10) hfn hfl (fun m hm hl => by rw [gr_s, cpy_in (by omega), if_pos hl]) (e8)) wd_608 ob_146 rfl ⟨Nat.le_of_ble_eq_true rfl, Nat.le_of_ble_eq_true rfl⟩ ⟨rfl, rfl⟩ rfl (Nat.le_of_ble_eq_true rfl) dX5_reckon_77 (congrArg (fun z => gr z 150 _) ((gr_comm _ (by decide) _ _).trans (congrArg (fun z => gr z 148 (cpy 10 (fun j => if los V b j = true then nI (wt V b wa j) else mem 148 j) (mem 148))) (gr_gr _ _ _ _)))) ?_
    refine g_vret C hQ rfl dX5_reckon_80 ?_
    exact ⟨rfl, _, _, _, rfl, q0, rfl, fun _ => ⟨f, hf1, q2, rfl, rfl, e5, hf10, e7, e8, rfl, fun m hm hl => ⟨by rw [cpy_in (by omega), if_pos hl], by rw [cpy_in hm, if_pos hl]⟩⟩⟩

/-- what a member would be in a repair -/
def role (V : Nat → Int32) (b wa f m : Nat) : Nat := if m = f then 1 else if ask V b wa f m = true then 2 else if sil V b wa f m = true then 3 else if m = rpM V b then 4 else if hs (msF V (rpK V b)) m then 5 else 0

def rm_X5_partOf : Room := { frames := 1, cells := 0, slots := 0, locals := 21 }
theorem iX5_partOf : gIv yX5_partOf cX5_partOf 2 (some .int) 1 := ⟨⟨wd_642, wd_31, by decide +kernel, by decide +kernel, by decide +kernel⟩, wd_640, wd_641⟩
set_option maxRecDepth 100000 in
set_option maxHeartbeats 4000000 in
theorem c_X5_partOf (l : Launch) (G : gG) {T : Nat} {V : Nat → Int32} (g : Good T V) (mem : gM) (r : Rel V mem) {b wa f m1 : Nat} {w a : Nat → Int32} (hk : PlanOK V b wa f (mem 146) w a) (hrk : rpK V b < vZ V) (hm : m1 < vN V) : gMet l yX5_partOf cX5_partOf 2 (some .int) rm_X5_partOf G [.ref (gad G 146), .int (nI m1)] mem (fun a u => a = some (.int (nI (role V b wa f m1))) ∧ u = mem) := by
  refine g_of (own := RX5) (L0 := [(0, .ref (gad G 146)), (1, .int (nI m1))]) (by decide +kernel) rfl (Nat.le_of_ble_eq_true rfl) rfl ?_
  intro p e s m args below meth c C Q hQ
  have hn10 := gd_n10 g
  obtain ⟨k1, k2, k3, k4, k5, k6, k7, k8, k9, -⟩ := hk
  have hfn := (fr_some k1).1
  have hrn := rp_lt g hrk
  refine g_iload_n C 1 dX5_partOf_0 rfl ?_
  refine g_aload_n C 0 dX5_partOf_1 rfl ?_
  refine g_get_i C ob_146 6 (by decide) rfl wd_260 dX5_partOf_2 ?_
  refine g_top (y := nI f) (k6) ?_
  refine g_icmp_ne C 10 dX5_partOf_5 (by decide) (fun c_5 => ?_) (fun c_5 => ?_)
  · have c_5 := mt (fun q => congrArg nI q) c_5
    refine g_aload_n C 0 dX5_partOf_10 rfl ?_
    refine g_get_i C ob_146 3 (by decide) rfl wd_254 dX5_partOf_11 ?_
    refine g_top (y := mk (ask V b wa f) (vN V)) (k3) ?_
    refine g_iload_n C 1 dX5_partOf_14 rfl ?_
    refine g_cS1 C (As := [.int (mk (ask V b wa f) (vN V)), .int (nI m1)]) (w := .int (b2i (hs (mk (ask V b wa f) (vN V)) m1))) (mem3 := mem) iX4_has (c_X4_has l G mem (mk (ask V b wa f) (vN V)) m1) wd_588 rfl ⟨Nat.le_of_ble_eq_true rfl, Nat.le_of_ble_eq_true rfl⟩ ⟨rfl, rfl⟩ rfl (Nat.le_of_ble_eq_true rfl) dX5_partOf_15 (rfl) (rfl) ?_
    refine g_ifb_eq C 23 dX5_partOf_18 (by decide) (fun c_18 => ?_) (fun c_18 => ?_)
    · have c_18 := mt (mk_hs (by omega) hm).mpr c_18
      refine g_aload_n C 0 dX5_partOf_23 rfl ?_
      refine g_get_i C ob_146 4 (by decide) rfl wd_256 dX5_partOf_24 ?_
      refine g_top (y := mk (sil V b wa f) (vN V)) (k4) ?_
      refine g_iload_n C 1 dX5_partOf_27 rfl ?_
      refine g_cS1 C (As := [.int (mk (sil V b wa f) (vN V)), .int (nI m1)]) (w := .int (b2i (hs (mk (sil V b wa f) (vN V)) m1))) (mem3 := mem) iX4_has (c_X4_has l G mem (mk (sil V b wa f) (vN V)) m1) wd_588 rfl ⟨Nat.le_of_ble_eq_true rfl, Nat.le_of_ble_eq_true rfl⟩ ⟨rfl, rfl⟩ rfl (Nat.le_of_ble_eq_true rfl) dX5_partOf_28 (rfl) (rfl) ?_
      refine g_ifb_eq C 36 dX5_partOf_31 (by decide) (fun c_31 => ?_) (fun c_31 => ?_)
      · have c_31 := mt (mk_hs (by omega) hm).mpr c_31
        refine g_iload_n C 1 dX5_partOf_36 rfl ?_
        refine g_aload_n C 0 dX5_partOf_37 rfl ?_
        refine g_get_i C ob_146 7 (by decide) rfl wd_262 dX5_partOf_38 ?_
        refine g_top (y := nI (rpM V b)) (k7) ?_
        refine g_icmp_ne C 46 dX5_partOf_41 (by decide) (fun c_41 => ?_) (fun c_41 => ?_)
        · have c_41 := mt (fun q => congrArg nI q) c_41
          refine g_aload_n C 0 dX5_partOf_46 rfl ?_
          refine g_get_i C ob_146 5 (by decide) rfl wd_259 dX5_partOf_47 ?_
          refine g_top (y := msF V (rpK V b)) (k5) ?_
          refine g_iload_n C 1 dX5_partOf_50 rfl ?_
          refine g_cS1 C (As := [.int (msF V (rpK V b)), .int (nI m1)]) (w := .int (b2i (hs (msF V (rpK V b)) m1))) (mem3 := mem) iX4_has (c_X4_has l G mem (msF V (rpK V b)) m1) wd_588 rfl ⟨Nat.le_of_ble_eq_true rfl, Nat.le_of_ble_eq_true rfl⟩ ⟨rfl, rfl⟩ rfl (Nat.le_of_ble_eq_true rfl) dX5_partOf_51 (rfl) (rfl) ?_
          refine g_ifb_eq C 61 dX5_partOf_54 (by decide) (fun c_54 => ?_) (fun c_54 => ?_)
          · refine g_iconst C (nI 0) dX5_partOf_61 (by decide) ?_
            refine g_iret C hQ rfl dX5_partOf_62 ?_
            first
              | exact ⟨by rw [role, if_pos c_5], rfl⟩
              | exact ⟨by rw [role, if_neg c_5, if_pos c_18], rfl⟩
              | exact ⟨by rw [role, if_neg c_5, if_neg c_18, if_pos c_31], rfl⟩
              | exact ⟨by rw [role, if_neg c_5, if_neg c_18, if_neg c_31, if_pos c_41], rfl⟩
              | exact ⟨by rw [role, if_neg c_5, if_neg c_18, if_neg c_31, if_neg c_41, if_pos c_54], rfl⟩
              | exact ⟨by rw [role, if_neg c_5, if_neg c_18, if_neg c_31, if_neg c_41, if_neg c_54], rfl⟩
          · refine g_iconst C (nI 5) dX5_partOf_57 (by decide) ?_
            refine g_goto C 62 dX5_partOf_58 (by decide) ?_
            refine g_iret C hQ rfl dX5_partOf_62 ?_
            first
              | exact ⟨by rw [role, if_pos c_5], rfl⟩
              | exact ⟨by rw [role, if_neg c_5, if_pos c_18], rfl⟩
              | exact ⟨by rw [role, if_neg c_5, if_neg c_18, if_pos c_31], rfl⟩
              | exact ⟨by rw [role, if_neg c_5, if_neg c_18, if_neg c_31, if_pos c_41], rfl⟩
              | exact ⟨by rw [role, if_neg c_5, if_neg c_18, if_neg c_31, if_neg c_41, if_pos c_54], rfl⟩
              | exact ⟨by rw [role, if_neg c_5, if_neg c_18, if_neg c_31, if_neg c_41, if_neg c_54], rfl⟩
        · have c_41 := (nI_iff (by omega) (by omega)).mp c_41
          refine g_iconst C (nI 4) dX5_partOf_44 (by decide) ?_
          refine g_iret C hQ rfl dX5_partOf_45 ?_
          first
            | exact ⟨by rw [role, if_pos c_5], rfl⟩
            | exact ⟨by rw [role, if_neg c_5, if_pos c_18], rfl⟩
            | exact ⟨by rw [role, if_neg c_5, if_neg c_18, if_pos c_31], rfl⟩
            | exact ⟨by rw [role, if_neg c_5, if_neg c_18, if_neg c_31, if_pos c_41], rfl⟩
            | exact ⟨by rw [role, if_neg c_5, if_neg c_18, if_neg c_31, if_neg c_41, if_pos c_54], rfl⟩
            | exact ⟨by rw [role, if_neg c_5, if_neg c_18, if_neg c_31, if_neg c_41, if_neg c_54], rfl⟩
      · have c_31 := (mk_hs (by omega) hm).mp c_31
        refine g_iconst C (nI 3) dX5_partOf_34 (by decide) ?_
        refine g_iret C hQ rfl dX5_partOf_35 ?_
        first
          | exact ⟨by rw [role, if_pos c_5], rfl⟩
          | exact ⟨by rw [role, if_neg c_5, if_pos c_18], rfl⟩
          | exact ⟨by rw [role, if_neg c_5, if_neg c_18, if_pos c_31], rfl⟩
          | exact ⟨by rw [role, if_neg c_5, if_neg c_18, if_neg c_31, if_pos c_41], rfl⟩
          | exact ⟨by rw [role, if_neg c_5, if_neg c_18, if_neg c_31, if_neg c_41, if_pos c_54], rfl⟩
          | exact ⟨by rw [role, if_neg c_5, if_neg c_18, if_neg c_31, if_neg c_41, if_neg c_54], rfl⟩
    · have c_18 := (mk_hs (by omega) hm).mp c_18
      refine g_iconst C (nI 2) dX5_partOf_21 (by decide) ?_
      refine g_iret C hQ rfl dX5_partOf_22 ?_
      first
        | exact ⟨by rw [role, if_pos c_5], rfl⟩
        | exact ⟨by rw [role, if_neg c_5, if_pos c_18], rfl⟩
        | exact ⟨by rw [role, if_neg c_5, if_neg c_18, if_pos c_31], rfl⟩
        | exact ⟨by rw [role, if_neg c_5, if_neg c_18, if_neg c_31, if_pos c_41], rfl⟩
        | exact ⟨by rw [role, if_neg c_5, if_neg c_18, if_neg c_31, if_neg c_41, if_pos c_54], rfl⟩
        | exact ⟨by rw [role, if_neg c_5, if_neg c_18, if_neg c_31, if_neg c_41, if_neg c_54], rfl⟩
  · have c_5 := (nI_iff (by omega) (by omega)).mp c_5
    refine g_iconst C (nI 1) dX5_partOf_8 (by decide) ?_
    refine g_iret C hQ rfl dX5_partOf_9 ?_
    first
      | exact ⟨by rw [role, if_pos c_5], rfl⟩
      | exact ⟨by rw [role, if_neg c_5, if_pos c_18], rfl⟩
      | exact ⟨by rw [role, if_neg c_5, if_neg c_18, if_pos c_31], rfl⟩
      | exact ⟨by rw [role, if_neg c_5, if_neg c_18, if_neg c_31, if_pos c_41], rfl⟩
      | exact ⟨by rw [role, if_neg c_5, if_neg c_18, if_neg c_31, if_neg c_41, if_pos c_54], rfl⟩
      | exact ⟨by rw [role, if_neg c_5, if_neg c_18, if_neg c_31, if_neg c_41, if_neg c_54], rfl⟩
end
