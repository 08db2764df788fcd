section
-- ===== PART A: goes FIRST, ahead of the names: the tables' words, and 'selects' of the private methods out of them =====
/-- a private method of a class that the tables say can be made, by its rows of tables_1 -/
def lw_okq (q : MethodName × Nat) : Prop := (q.1.cls ≠ "java/lang/invoke/MethodHandle" ∧ q.1.cls ≠ "java/lang/invoke/VarHandle") ∧ Cond.instantiable q.1.cls q.2 ∈ tables_1 ∧ Cond.privateMethod q.1 ∈ tables_1 ∧ Cond.instanceMethod q.1 ∈ tables_1
theorem lw_p0 : lw_okq (⟨"IceTongue", "recordState", "()V"⟩, 5) := ⟨⟨by decide +kernel, by decide +kernel⟩, List.mem_of_getElem? (i := 12) (by decide +kernel), List.mem_of_getElem? (i := 254) (by decide +kernel), List.mem_of_getElem? (i := 255) (by decide +kernel)⟩
theorem lw_p1 : lw_okq (⟨"IceTongue", "dropOldestState", "()V"⟩, 5) := ⟨⟨by decide +kernel, by decide +kernel⟩, List.mem_of_getElem? (i := 12) (by decide +kernel), List.mem_of_getElem? (i := 258) (by decide +kernel), List.mem_of_getElem? (i := 259) (by decide +kernel)⟩
theorem lw_p2 : lw_okq (⟨"IceTongue$Layers", "narrow", "()V"⟩, 4) := ⟨⟨by decide +kernel, by decide +kernel⟩, List.mem_of_getElem? (i := 69) (by decide +kernel), List.mem_of_getElem? (i := 312) (by decide +kernel), List.mem_of_getElem? (i := 313) (by decide +kernel)⟩
theorem lw_p3 : lw_okq (⟨"IceTongue$Tongue", "snowAndMelt", "(LIceTongue$Band;)V"⟩, 11) := ⟨⟨by decide +kernel, by decide +kernel⟩, List.mem_of_getElem? (i := 20) (by decide +kernel), List.mem_of_getElem? (i := 451) (by decide +kernel), List.mem_of_getElem? (i := 452) (by decide +kernel)⟩
theorem lw_p4 : lw_okq (⟨"IceTongue$Layers", "takeOfYear", "(II)I"⟩, 4) := ⟨⟨by decide +kernel, by decide +kernel⟩, List.mem_of_getElem? (i := 69) (by decide +kernel), List.mem_of_getElem? (i := 461) (by decide +kernel), List.mem_of_getElem? (i := 462) (by decide +kernel)⟩
theorem lw_p5 : lw_okq (⟨"IceTongue$Tongue", "creepDown", "()V"⟩, 11) := ⟨⟨by decide +kernel, by decide +kernel⟩, List.mem_of_getElem? (i := 20) (by decide +kernel), List.mem_of_getElem? (i := 465) (by decide +kernel), List.mem_of_getElem? (i := 466) (by decide +kernel)⟩
theorem lw_p6 : lw_okq (⟨"IceTongue$Tongue", "ride", "(LIceTongue$Stake;)V"⟩, 11) := ⟨⟨by decide +kernel, by decide +kernel⟩, List.mem_of_getElem? (i := 20) (by decide +kernel), List.mem_of_getElem? (i := 483) (by decide +kernel), List.mem_of_getElem? (i := 484) (by decide +kernel)⟩
theorem lw_p7 : lw_okq (⟨"IceTongue$Tongue", "moveDown", "(LIceTongue$Stake;I)V"⟩, 11) := ⟨⟨by decide +kernel, by decide +kernel⟩, List.mem_of_getElem? (i := 20) (by decide +kernel), List.mem_of_getElem? (i := 492) (by decide +kernel), List.mem_of_getElem? (i := 493) (by decide +kernel)⟩
theorem lw_p8 : lw_okq (⟨"IceTongue", "isSoInTrial", "(II)Z"⟩, 5) := ⟨⟨by decide +kernel, by decide +kernel⟩, List.mem_of_getElem? (i := 12) (by decide +kernel), List.mem_of_getElem? (i := 501) (by decide +kernel), List.mem_of_getElem? (i := 502) (by decide +kernel)⟩
theorem lw_p9 : lw_okq (⟨"IceTongue", "possibleYears", "()I"⟩, 5) := ⟨⟨by decide +kernel, by decide +kernel⟩, List.mem_of_getElem? (i := 12) (by decide +kernel), List.mem_of_getElem? (i := 522) (by decide +kernel), List.mem_of_getElem? (i := 523) (by decide +kernel)⟩
theorem lw_p10 : lw_okq (⟨"IceTongue", "reasonAt", "(II)I"⟩, 5) := ⟨⟨by decide +kernel, by decide +kernel⟩, List.mem_of_getElem? (i := 12) (by decide +kernel), List.mem_of_getElem? (i := 526) (by decide +kernel), List.mem_of_getElem? (i := 527) (by decide +kernel)⟩
theorem lw_p11 : lw_okq (⟨"IceTongue$Text", "endOfNumber", "(I)I"⟩, 2) := ⟨⟨by decide +kernel, by decide +kernel⟩, List.mem_of_getElem? (i := 211) (by decide +kernel), List.mem_of_getElem? (i := 534) (by decide +kernel), List.mem_of_getElem? (i := 535) (by decide +kernel)⟩
theorem lw_p12 : lw_okq (⟨"IceTongue$Text", "isDigitAt", "(I)Z"⟩, 2) := ⟨⟨by decide +kernel, by decide +kernel⟩, List.mem_of_getElem? (i := 211) (by decide +kernel), List.mem_of_getElem? (i := 538) (by decide +kernel), List.mem_of_getElem? (i := 539) (by decide +kernel)⟩
theorem lw_p13 : lw_okq (⟨"IceTongue$Text", "isSignAt", "(IC)Z"⟩, 2) := ⟨⟨by decide +kernel, by decide +kernel⟩, List.mem_of_getElem? (i := 211) (by decide +kernel), List.mem_of_getElem? (i := 542) (by decide +kernel), List.mem_of_getElem? (i := 543) (by decide +kernel)⟩
theorem lw_p14 : lw_okq (⟨"IceTongue$Text", "numberAt", "(I)I"⟩, 2) := ⟨⟨by decide +kernel, by decide +kernel⟩, List.mem_of_getElem? (i := 211) (by decide +kernel), List.mem_of_getElem? (i := 550) (by decide +kernel), List.mem_of_getElem? (i := 551) (by decide +kernel)⟩
def lw_privs_1 : List (MethodName × Nat) := [(⟨"IceTongue", "recordState", "()V"⟩, 5), (⟨"IceTongue", "dropOldestState", "()V"⟩, 5), (⟨"IceTongue$Layers", "narrow", "()V"⟩, 4), (⟨"IceTongue$Tongue", "snowAndMelt", "(LIceTongue$Band;)V"⟩, 11), (⟨"IceTongue$Layers", "takeOfYear", "(II)I"⟩, 4), (⟨"IceTongue$Tongue", "creepDown", "()V"⟩, 11), (⟨"IceTongue$Tongue", "ride", "(LIceTongue$Stake;)V"⟩, 11), (⟨"IceTongue$Tongue", "moveDown", "(LIceTongue$Stake;I)V"⟩, 11), (⟨"IceTongue", "isSoInTrial", "(II)Z"⟩, 5), (⟨"IceTongue", "possibleYears", "()I"⟩, 5), (⟨"IceTongue", "reasonAt", "(II)I"⟩, 5), (⟨"IceTongue$Text", "endOfNumber", "(I)I"⟩, 2), (⟨"IceTongue$Text", "isDigitAt", "(I)Z"⟩, 2), (⟨"IceTongue$Text", "isSignAt", "(IC)Z"⟩, 2), (⟨"IceTongue$Text", "numberAt", "(I)I"⟩, 2)]
theorem lw_r1 : ∀ q ∈ lw_privs_1, lw_okq q := List.forall_mem_cons.mpr ⟨lw_p0, List.forall_mem_cons.mpr ⟨lw_p1, List.forall_mem_cons.mpr ⟨lw_p2, List.forall_mem_cons.mpr ⟨lw_p3, List.forall_mem_cons.mpr ⟨lw_p4, List.forall_mem_cons.mpr ⟨lw_p5, List.forall_mem_cons.mpr ⟨lw_p6, List.forall_mem_cons.mpr ⟨lw_p7, List.forall_mem_cons.mpr ⟨lw_p8, List.forall_mem_cons.mpr ⟨lw_p9, List.forall_mem_cons.mpr ⟨lw_p10, List.forall_mem_cons.mpr ⟨lw_p11, List.forall_mem_cons.mpr ⟨lw_p12, List.forall_mem_cons.mpr ⟨lw_p13, List.forall_mem_cons.mpr ⟨lw_p14, fun _ h => absurd h List.not_mem_nil⟩⟩⟩⟩⟩⟩⟩⟩⟩⟩⟩⟩⟩⟩⟩
def lw_privs : List (MethodName × Nat) := lw_privs_1
def lw_tbl : List Cond := k2_sels lw_privs ++ tables_1
theorem lw_privs_ok : ∀ q ∈ lw_privs, lw_okq q := lw_r1
end
section
def RX0 : String := "IceTongue$Band"
def TX0 : u_T := fun k => match k with
  | 0 => ("IceTongue$Band", "layers", "LIceTongue$Layers;", true)
  | 1 => ("IceTongue$Band", "height", "I", false)
  | 2 => ("IceTongue$Band", "length", "I", false)
  | 3 => ("IceTongue$Band", "creep", "I", false)
  | 4 => ("IceTongue$Band", "melted", "I", false)
  | 5 => ("IceTongue$Band", "gave", "I", false)
  | _ => ("IceTongue$Band", "got", "I", false)
def tyX0 : Nat → FieldType := fun k => match k with
  | 0 => .object "IceTongue$Layers"
  | 1 => .int
  | 2 => .int
  | 3 => .int
  | 4 => .int
  | 5 => .int
  | _ => .int
abbrev wsX00 : List Cond := u_ws RX0 TX0 7
theorem nmX0 : ∀ a, a < 7 → ∀ b, b < 7 → a ≠ b → (TX0 a).2.1 ≠ (TX0 b).2.1 := by decide +kernel
theorem tyX0_ok : ∀ k, k < 7 → parseFieldDescriptor (TX0 k).2.2.1 = some (tyX0 k) := by decide +kernel
abbrev cX0_init : ByteArray := prog_2_method_1_code
def yX0_init : MethodName := ⟨RX0, "<init>", "()V"⟩
abbrev cX0_begin : ByteArray := prog_2_method_2_code
def yX0_begin : MethodName := ⟨RX0, "begin", "(III)V"⟩
abbrev cX0_copyFrom : ByteArray := prog_2_method_3_code
def yX0_copyFrom : MethodName := ⟨RX0, "copyFrom", "(LIceTongue$Band;)V"⟩
abbrev cX0_iceToGive : ByteArray := prog_2_method_4_code
def yX0_iceToGive : MethodName := ⟨RX0, "iceToGive", "()I"⟩
abbrev cX0_way : ByteArray := prog_2_method_5_code
def yX0_way : MethodName := ⟨RX0, "way", "()I"⟩
def RX1 : String := "IceTongue$Front"
def TX1 : u_T := fun k => match k with
  | 0 => ("IceTongue$Front", "ice", "I", false)
  | 1 => ("IceTongue$Front", "rest", "I", false)
  | 2 => ("IceTongue$Front", "pieces", "I", false)
  | _ => ("IceTongue$Front", "latestCalving", "I", false)
def tyX1 : Nat → FieldType := fun k => match k with
  | 0 => .int
  | 1 => .int
  | 2 => .int
  | _ => .int
abbrev wsX10 : List Cond := u_ws RX1 TX1 4
theorem nmX1 : ∀ a, a < 4 → ∀ b, b < 4 → a ≠ b → (TX1 a).2.1 ≠ (TX1 b).2.1 := by decide +kernel
theorem tyX1_ok : ∀ k, k < 4 → parseFieldDescriptor (TX1 k).2.2.1 = some (tyX1 k) := by decide +kernel
abbrev cX1_init : ByteArray := prog_3_method_1_code
def yX1_init : MethodName := ⟨RX1, "<init>", "()V"⟩
abbrev cX1_copyFrom : ByteArray := prog_3_method_2_code
def yX1_copyFrom : MethodName := ⟨RX1, "copyFrom", "(LIceTongue$Front;)V"⟩
abbrev cX1_calve : ByteArray := prog_3_method_3_code
def yX1_calve : MethodName := ⟨RX1, "calve", "(III)I"⟩
def RX2 : String := "IceTongue$Layers"
def TX2 : u_T := fun k => match k with
  | 0 => ("IceTongue$Layers", "left", "[I", true)
  | 1 => ("IceTongue$Layers", "ice", "I", false)
  | 2 => ("IceTongue$Layers", "oldest", "I", false)
  | _ => ("IceTongue$Layers", "latest", "I", false)
def tyX2 : Nat → FieldType := fun k => match k with
  | 0 => .array .int
  | 1 => .int
  | 2 => .int
  | _ => .int
abbrev wsX20 : List Cond := u_ws RX2 TX2 4
theorem nmX2 : ∀ a, a < 4 → ∀ b, b < 4 → a ≠ b → (TX2 a).2.1 ≠ (TX2 b).2.1 := by decide +kernel
theorem tyX2_ok : ∀ k, k < 4 → parseFieldDescriptor (TX2 k).2.2.1 = some (tyX2 k) := by decide +kernel
abbrev cX2_init : ByteArray := prog_4_method_1_code
def yX2_init : MethodName := ⟨RX2, "<init>", "()V"⟩
abbrev cX2_copyFrom : ByteArray := prog_4_method_2_code
def yX2_copyFrom : MethodName := ⟨RX2, "copyFrom", "(LIceTongue$Layers;)V"⟩
abbrev cX2_empty : ByteArray := prog_4_method_3_code
def yX2_empty : MethodName := ⟨RX2, "empty", "()V"⟩
abbrev cX2_add : ByteArray := prog_4_method_4_code
def yX2_add : MethodName := ⟨RX2, "add", "(II)V"⟩
abbrev cX2_takeFromLatest : ByteArray := prog_4_method_5_code
def yX2_takeFromLatest : MethodName := ⟨RX2, "takeFromLatest", "(I)I"⟩
abbrev cX2_giveFromOldest : ByteArray := prog_4_method_6_code
def yX2_giveFromOldest : MethodName := ⟨RX2, "giveFromOldest", "(ILIceTongue$Layers;)V"⟩
abbrev cX2_takeOfYear : ByteArray := prog_4_method_7_code
def yX2_takeOfYear : MethodName := ⟨RX2, "takeOfYear", "(II)I"⟩
abbrev cX2_narrow : ByteArray := prog_4_method_8_code
def yX2_narrow : MethodName := ⟨RX2, "narrow", "()V"⟩
abbrev cX2_leftOf : ByteArray := prog_4_method_9_code
def yX2_leftOf : MethodName := ⟨RX2, "leftOf", "(I)I"⟩
abbrev cX2_number : ByteArray := prog_4_method_10_code
def yX2_number : MethodName := ⟨RX2, "number", "()I"⟩
abbrev cX2_yearOfLayer : ByteArray := prog_4_method_11_code
def yX2_yearOfLayer : MethodName := ⟨RX2, "yearOfLayer", "(I)I"⟩
def RX3 : String := "IceTongue$Stake"
def TX3 : u_T := fun k => match k with
  | 0 => ("IceTongue$Stake", "band", "I", false)
  | 1 => ("IceTongue$Stake", "place", "I", false)
  | 2 => ("IceTongue$Stake", "depth", "I", false)
  | 3 => ("IceTongue$Stake", "change", "I", false)
  | 4 => ("IceTongue$Stake", "fate", "I", false)
  | _ => ("IceTongue$Stake", "years", "I", false)
def tyX3 : Nat → FieldType := fun k => match k with
  | 0 => .int
  | 1 => .int
  | 2 => .int
  | 3 => .int
  | 4 => .int
  | _ => .int
abbrev wsX30 : List Cond := u_ws RX3 TX3 6
theorem nmX3 : ∀ a, a < 6 → ∀ b, b < 6 → a ≠ b → (TX3 a).2.1 ≠ (TX3 b).2.1 := by decide +kernel
theorem tyX3_ok : ∀ k, k < 6 → parseFieldDescriptor (TX3 k).2.2.1 = some (tyX3 k) := by decide +kernel
abbrev cX3_init : ByteArray := prog_5_method_1_code
def yX3_init : MethodName := ⟨RX3, "<init>", "()V"⟩
abbrev cX3_begin : ByteArray := prog_5_method_2_code
def yX3_begin : MethodName := ⟨RX3, "begin", "(III)V"⟩
abbrev cX3_copyFrom : ByteArray := prog_5_method_3_code
def yX3_copyFrom : MethodName := ⟨RX3, "copyFrom", "(LIceTongue$Stake;)V"⟩
def RX4 : String := "IceTongue$Text"
def TX4 : u_T := fun k => match k with
  | 0 => ("IceTongue$Text", "signs", "[C", true)
  | _ => ("IceTongue$Text", "length", "I", false)
def tyX4 : Nat → FieldType := fun k => match k with
  | 0 => .array .char
  | _ => .int
abbrev wsX40 : List Cond := u_ws RX4 TX4 2
theorem nmX4 : ∀ a, a < 2 → ∀ b, b < 2 → a ≠ b → (TX4 a).2.1 ≠ (TX4 b).2.1 := by decide +kernel
theorem tyX4_ok : ∀ k, k < 2 → parseFieldDescriptor (TX4 k).2.2.1 = some (tyX4 k) := by decide +kernel
abbrev cX4_init : ByteArray := prog_6_method_1_code
def yX4_init : MethodName := ⟨RX4, "<init>", "()V"⟩
abbrev cX4_append : ByteArray := prog_6_method_2_code
def yX4_append : MethodName := ⟨RX4, "append", "(C)V"⟩
abbrev cX4_isSignAt : ByteArray := prog_6_method_3_code
def yX4_isSignAt : MethodName := ⟨RX4, "isSignAt", "(IC)Z"⟩
abbrev cX4_isDigitAt : ByteArray := prog_6_method_4_code
def yX4_isDigitAt : MethodName := ⟨RX4, "isDigitAt", "(I)Z"⟩
abbrev cX4_endOfNumber : ByteArray := prog_6_method_5_code
def yX4_endOfNumber : MethodName := ⟨RX4, "endOfNumber", "(I)I"⟩
abbrev cX4_numberAt : ByteArray := prog_6_method_6_code
def yX4_numberAt : MethodName := ⟨RX4, "numberAt", "(I)I"⟩
abbrev cX4_endOfYear : ByteArray := prog_6_method_7_code
def yX4_endOfYear : MethodName := ⟨RX4, "endOfYear", "(I)I"⟩
abbrev cX4_snowOfYear : ByteArray := prog_6_method_8_code
def yX4_snowOfYear : MethodName := ⟨RX4, "snowOfYear", "(I)I"⟩
abbrev cX4_meltOfYear : ByteArray := prog_6_method_9_code
def yX4_meltOfYear : MethodName := ⟨RX4, "meltOfYear", "(I)I"⟩
abbrev cX4_startOfYear : ByteArray := prog_6_method_10_code
def yX4_startOfYear : MethodName := ⟨RX4, "startOfYear", "(I)I"⟩
def RX5 : String := "IceTongue$Tongue"
def TX5 : u_T := fun k => match k with
  | 0 => ("IceTongue$Tongue", "settings", "[I", true)
  | 1 => ("IceTongue$Tongue", "bands", "[LIceTongue$Band;", true)
  | 2 => ("IceTongue$Tongue", "stakes", "[LIceTongue$Stake;", true)
  | 3 => ("IceTongue$Tongue", "front", "LIceTongue$Front;", true)
  | 4 => ("IceTongue$Tongue", "bandCount", "I", false)
  | 5 => ("IceTongue$Tongue", "stakeCount", "I", false)
  | 6 => ("IceTongue$Tongue", "year", "I", false)
  | 7 => ("IceTongue$Tongue", "added", "J", false)
  | 8 => ("IceTongue$Tongue", "snowed", "J", false)
  | 9 => ("IceTongue$Tongue", "melted", "J", false)
  | _ => ("IceTongue$Tongue", "calved", "J", false)
def tyX5 : Nat → FieldType := fun k => match k with
  | 0 => .array .int
  | 1 => .array (.object "IceTongue$Band")
  | 2 => .array (.object "IceTongue$Stake")
  | 3 => .object "IceTongue$Front"
  | 4 => .int
  | 5 => .int
  | 6 => .int
  | 7 => .long
  | 8 => .long
  | 9 => .long
  | _ => .long
abbrev wsX50 : List Cond := u_ws RX5 TX5 11
theorem nmX5 : ∀ a, a < 11 → ∀ b, b < 11 → a ≠ b → (TX5 a).2.1 ≠ (TX5 b).2.1 := by decide +kernel
theorem tyX5_ok : ∀ k, k < 11 → parseFieldDescriptor (TX5 k).2.2.1 = some (tyX5 k) := by decide +kernel
abbrev cX5_init : ByteArray := prog_7_method_1_code
def yX5_init : MethodName := ⟨RX5, "<init>", "()V"⟩
abbrev cX5_copyFrom : ByteArray := prog_7_method_2_code
def yX5_copyFrom : MethodName := ⟨RX5, "copyFrom", "(LIceTongue$Tongue;)V"⟩
abbrev cX5_hasBand : ByteArray := prog_7_method_3_code
def yX5_hasBand : MethodName := ⟨RX5, "hasBand", "(I)Z"⟩
abbrev cX5_hasStake : ByteArray := prog_7_method_4_code
def yX5_hasStake : MethodName := ⟨RX5, "hasStake", "(I)Z"⟩
abbrev cX5_isBelowAll : ByteArray := prog_7_method_5_code
def yX5_isBelowAll : MethodName := ⟨RX5, "isBelowAll", "(I)Z"⟩
abbrev cX5_addBand : ByteArray := prog_7_method_6_code
def yX5_addBand : MethodName := ⟨RX5, "addBand", "(IIII)I"⟩
abbrev cX5_isStakeAt : ByteArray := prog_7_method_7_code
def yX5_isStakeAt : MethodName := ⟨RX5, "isStakeAt", "(II)Z"⟩
abbrev cX5_addStake : ByteArray := prog_7_method_8_code
def yX5_addStake : MethodName := ⟨RX5, "addStake", "(III)I"⟩
abbrev cX5_removeStake : ByteArray := prog_7_method_9_code
def yX5_removeStake : MethodName := ⟨RX5, "removeStake", "(I)I"⟩
abbrev cX5_standingStakes : ByteArray := prog_7_method_10_code
def yX5_standingStakes : MethodName := ⟨RX5, "standingStakes", "()I"⟩
abbrev cX5_snowAt : ByteArray := prog_7_method_11_code
def yX5_snowAt : MethodName := ⟨RX5, "snowAt", "(I)I"⟩
abbrev cX5_meltAt : ByteArray := prog_7_method_12_code
def yX5_meltAt : MethodName := ⟨RX5, "meltAt", "(II)I"⟩
abbrev cX5_snowOutweighsMelt : ByteArray := prog_7_method_13_code
def yX5_snowOutweighsMelt : MethodName := ⟨RX5, "snowOutweighsMelt", "(I)Z"⟩
abbrev cX5_leftOf : ByteArray := prog_7_method_14_code
def yX5_leftOf : MethodName := ⟨RX5, "leftOf", "(I)I"⟩
abbrev cX5_bandIce : ByteArray := prog_7_method_15_code
def yX5_bandIce : MethodName := ⟨RX5, "bandIce", "()I"⟩
abbrev cX5_allIce : ByteArray := prog_7_method_16_code
def yX5_allIce : MethodName := ⟨RX5, "allIce", "()J"⟩
abbrev cX5_allIceByYears : ByteArray := prog_7_method_17_code
def yX5_allIceByYears : MethodName := ⟨RX5, "allIceByYears", "()J"⟩
abbrev cX5_layersOfAllBands : ByteArray := prog_7_method_18_code
def yX5_layersOfAllBands : MethodName := ⟨RX5, "layersOfAllBands", "()I"⟩
abbrev cX5_differentYears : ByteArray := prog_7_method_19_code
def yX5_differentYears : MethodName := ⟨RX5, "differentYears", "()I"⟩
abbrev cX5_oldestYear : ByteArray := prog_7_method_20_code
def yX5_oldestYear : MethodName := ⟨RX5, "oldestYear", "()I"⟩
abbrev cX5_letYearsGoBy : ByteArray := prog_7_method_21_code
def yX5_letYearsGoBy : MethodName := ⟨RX5, "letYearsGoBy", "(I)V"⟩
abbrev cX5_letYearGoBy : ByteArray := prog_7_method_22_code
def yX5_letYearGoBy : MethodName := ⟨RX5, "letYearGoBy", "()V"⟩
abbrev cX5_snowAndMelt : ByteArray := prog_7_method_23_code
def yX5_snowAndMelt : MethodName := ⟨RX5, "snowAndMelt", "(LIceTongue$Band;)V"⟩
abbrev cX5_creepDown : ByteArray := prog_7_method_24_code
def yX5_creepDown : MethodName := ⟨RX5, "creepDown", "()V"⟩
abbrev cX5_ride : ByteArray := prog_7_method_25_code
def yX5_ride : MethodName := ⟨RX5, "ride", "(LIceTongue$Stake;)V"⟩
abbrev cX5_moveDown : ByteArray := prog_7_method_26_code
def yX5_moveDown : MethodName := ⟨RX5, "moveDown", "(LIceTongue$Stake;I)V"⟩
def RX6 : String := "IceTongue"
def TX6 : u_T := fun k => match k with
  | 0 => ("IceTongue", "trial", "LIceTongue$Tongue;", true)
  | 1 => ("IceTongue", "history", "[LIceTongue$Tongue;", true)
  | 2 => ("IceTongue", "text", "LIceTongue$Text;", true)
  | 3 => ("IceTongue", "now", "LIceTongue$Tongue;", false)
  | _ => ("IceTongue", "states", "I", false)
def tyX6 : Nat → FieldType := fun k => match k with
  | 0 => .object "IceTongue$Tongue"
  | 1 => .array (.object "IceTongue$Tongue")
  | 2 => .object "IceTongue$Text"
  | 3 => .object "IceTongue$Tongue"
  | _ => .int
abbrev wsX60 : List Cond := u_ws RX6 TX6 5
theorem nmX6 : ∀ a, a < 5 → ∀ b, b < 5 → a ≠ b → (TX6 a).2.1 ≠ (TX6 b).2.1 := by decide +kernel
theorem tyX6_ok : ∀ k, k < 5 → parseFieldDescriptor (TX6 k).2.2.1 = some (tyX6 k) := by decide +kernel
abbrev cX6_init : ByteArray := prog_1_method_1_code
def yX6_init : MethodName := ⟨RX6, "<init>", "()V"⟩
abbrev cX6_set : ByteArray := prog_1_method_2_code
def yX6_set : MethodName := ⟨RX6, "set", "(II)I"⟩
abbrev cX6_band : ByteArray := prog_1_method_3_code
def yX6_band : MethodName := ⟨RX6, "band", "(IIII)I"⟩
abbrev cX6_creep : ByteArray := prog_1_method_4_code
def yX6_creep : MethodName := ⟨RX6, "creep", "(II)I"⟩
abbrev cX6_bandInfo : ByteArray := prog_1_method_5_code
def yX6_bandInfo : MethodName := ⟨RX6, "bandInfo", "(II)I"⟩
abbrev cX6_layer : ByteArray := prog_1_method_6_code
def yX6_layer : MethodName := ⟨RX6, "layer", "(III)I"⟩
abbrev cX6_ofYear : ByteArray := prog_1_method_7_code
def yX6_ofYear : MethodName := ⟨RX6, "ofYear", "(I)I"⟩
abbrev cX6_line : ByteArray := prog_1_method_8_code
def yX6_line : MethodName := ⟨RX6, "line", "()I"⟩
abbrev cX6_front : ByteArray := prog_1_method_9_code
def yX6_front : MethodName := ⟨RX6, "front", "(I)I"⟩
abbrev cX6_account : ByteArray := prog_1_method_10_code
def yX6_account : MethodName := ⟨RX6, "account", "(I)J"⟩
abbrev cX6_count : ByteArray := prog_1_method_11_code
def yX6_count : MethodName := ⟨RX6, "count", "(I)I"⟩
abbrev cX6_stake : ByteArray := prog_1_method_12_code
def yX6_stake : MethodName := ⟨RX6, "stake", "(III)I"⟩
abbrev cX6_pull : ByteArray := prog_1_method_13_code
def yX6_pull : MethodName := ⟨RX6, "pull", "(I)I"⟩
abbrev cX6_stakeInfo : ByteArray := prog_1_method_14_code
def yX6_stakeInfo : MethodName := ⟨RX6, "stakeInfo", "(II)I"⟩
abbrev cX6_stakesIn : ByteArray := prog_1_method_15_code
def yX6_stakesIn : MethodName := ⟨RX6, "stakesIn", "(I)I"⟩
abbrev cX6_years : ByteArray := prog_1_method_16_code
def yX6_years : MethodName := ⟨RX6, "years", "(I)I"⟩
abbrev cX6_ifYears : ByteArray := prog_1_method_17_code
def yX6_ifYears : MethodName := ⟨RX6, "ifYears", "(II)I"⟩
abbrev cX6_yearsTo : ByteArray := prog_1_method_18_code
def yX6_yearsTo : MethodName := ⟨RX6, "yearsTo", "(I)I"⟩
abbrev cX6_isSoInTrial : ByteArray := prog_1_method_19_code
def yX6_isSoInTrial : MethodName := ⟨RX6, "isSoInTrial", "(II)Z"⟩
abbrev cX6_steadyMelt : ByteArray := prog_1_method_20_code
def yX6_steadyMelt : MethodName := ⟨RX6, "steadyMelt", "()I"⟩
abbrev cX6_undo : ByteArray := prog_1_method_21_code
def yX6_undo : MethodName := ⟨RX6, "undo", "()I"⟩
abbrev cX6_recordState : ByteArray := prog_1_method_22_code
def yX6_recordState : MethodName := ⟨RX6, "recordState", "()V"⟩
abbrev cX6_dropOldestState : ByteArray := prog_1_method_23_code
def yX6_dropOldestState : MethodName := ⟨RX6, "dropOldestState", "()V"⟩
abbrev cX6_type : ByteArray := prog_1_method_24_code
def yX6_type : MethodName := ⟨RX6, "type", "(I)I"⟩
abbrev cX6_fault : ByteArray := prog_1_method_26_code
def yX6_fault : MethodName := ⟨RX6, "fault", "(I)I"⟩
abbrev cX6_possibleYears : ByteArray := prog_1_method_28_code
def yX6_possibleYears : MethodName := ⟨RX6, "possibleYears", "()I"⟩
abbrev cX6_reasonAt : ByteArray := prog_1_method_29_code
def yX6_reasonAt : MethodName := ⟨RX6, "reasonAt", "(II)I"⟩
abbrev cX6_isWithin : ByteArray := prog_1_method_30_code
def yX6_isWithin : MethodName := ⟨RX6, "isWithin", "(III)Z"⟩
def RX7 : String := "IceTongueModel"
def TX7 : u_T := fun k => match k with
  | _ => ("", "", "", false)
def tyX7 : Nat → FieldType := fun k => match k with
  | _ => .int
abbrev wsX70 : List Cond := u_ws RX7 TX7 0
theorem nmX7 : ∀ a, a < 0 → ∀ b, b < 0 → a ≠ b → (TX7 a).2.1 ≠ (TX7 b).2.1 := by decide +kernel
theorem tyX7_ok : ∀ k, k < 0 → parseFieldDescriptor (TX7 k).2.2.1 = some (tyX7 k) := by decide +kernel
def RJx8e188 : String := "java/lang/Cloneable"
def RJ9 : String := "java/lang/Math"
abbrev cJ9_floorDiv_7cf53 : ByteArray := prog_11_method_47_code
def yJ9_floorDiv_7cf53 : MethodName := ⟨RJ9, "floorDiv", "(II)I"⟩
abbrev cJ9_max_7cf53 : ByteArray := prog_11_method_65_code
def yJ9_max_7cf53 : MethodName := ⟨RJ9, "max", "(II)I"⟩
abbrev cJ9_min_7cf53 : ByteArray := prog_11_method_69_code
def yJ9_min_7cf53 : MethodName := ⟨RJ9, "min", "(II)I"⟩
def RJ10 : String := "java/lang/System"
def RJ7 : String := "java/util/Arrays"
abbrev cJ7_fill_53178 : ByteArray := prog_13_method_103_code
def yJ7_fill_53178 : MethodName := ⟨RJ7, "fill", "([II)V"⟩
def RL : String := "IceTongueLaw"
abbrev cL_lot : ByteArray := method_2_code
def yL_lot : MethodName := ⟨RL, "lot", "([II)I"⟩
abbrev cL_low : ByteArray := method_3_code
def yL_low : MethodName := ⟨RL, "low", "(II)I"⟩
abbrev cL_sound : ByteArray := method_4_code
def yL_sound : MethodName := ⟨RL, "sound", "(LIceTongue;)Z"⟩
abbrev cL_year : ByteArray := method_5_code
def yL_year : MethodName := ⟨RL, "year", "(LIceTongue;)Z"⟩
abbrev cL_thoughts : ByteArray := method_6_code
def yL_thoughts : MethodName := ⟨RL, "thoughts", "(LIceTongue;I)Z"⟩
abbrev cL_refuses : ByteArray := method_7_code
def yL_refuses : MethodName := ⟨RL, "refuses", "(LIceTongue;)Z"⟩
abbrev cL_law : ByteArray := code
def yL_law : MethodName := ⟨RL, "law", "([I)Z"⟩
abbrev vwCl : List vw_C := [(RX0, TX0, 7), (RX1, TX1, 4), (RX2, TX2, 4), (RX3, TX3, 6), (RX4, TX4, 2), (RX5, TX5, 11), (RX6, TX6, 5)]
end
section
theorem dJ9_floorDiv_7cf53_0 : decode cJ9_floorDiv_7cf53 0 = .ok (.iload_n 0, 1) := by decide +kernel
theorem dJ9_floorDiv_7cf53_1 : decode cJ9_floorDiv_7cf53 1 = .ok (.iload_n 1, 1) := by decide +kernel
theorem dJ9_floorDiv_7cf53_2 : decode cJ9_floorDiv_7cf53 2 = .ok (.idiv, 1) := by decide +kernel
theorem dJ9_floorDiv_7cf53_3 : decode cJ9_floorDiv_7cf53 3 = .ok (.istore_n 2, 1) := by decide +kernel
theorem dJ9_floorDiv_7cf53_4 : decode cJ9_floorDiv_7cf53 4 = .ok (.iload_n 0, 1) := by decide +kernel
theorem dJ9_floorDiv_7cf53_5 : decode cJ9_floorDiv_7cf53 5 = .ok (.iload_n 1, 1) := by decide +kernel
theorem dJ9_floorDiv_7cf53_6 : decode cJ9_floorDiv_7cf53 6 = .ok (.ixor, 1) := by decide +kernel
theorem dJ9_floorDiv_7cf53_7 : decode cJ9_floorDiv_7cf53 7 = .ok (.ifCond .ge 14, 3) := by decide +kernel
theorem dJ9_floorDiv_7cf53_10 : decode cJ9_floorDiv_7cf53 10 = .ok (.iload_n 2, 1) := by decide +kernel
theorem dJ9_floorDiv_7cf53_11 : decode cJ9_floorDiv_7cf53 11 = .ok (.iload_n 1, 1) := by decide +kernel
theorem dJ9_floorDiv_7cf53_12 : decode cJ9_floorDiv_7cf53 12 = .ok (.imul, 1) := by decide +kernel
theorem dJ9_floorDiv_7cf53_13 : decode cJ9_floorDiv_7cf53 13 = .ok (.iload_n 0, 1) := by decide +kernel
theorem dJ9_floorDiv_7cf53_14 : decode cJ9_floorDiv_7cf53 14 = .ok (.if_icmp .eq 7, 3) := by decide +kernel
theorem dJ9_floorDiv_7cf53_17 : decode cJ9_floorDiv_7cf53 17 = .ok (.iload_n 2, 1) := by decide +kernel
theorem dJ9_floorDiv_7cf53_18 : decode cJ9_floorDiv_7cf53 18 = .ok (.iconst 1, 1) := by decide +kernel
theorem dJ9_floorDiv_7cf53_19 : decode cJ9_floorDiv_7cf53 19 = .ok (.isub, 1) := by decide +kernel
theorem dJ9_floorDiv_7cf53_20 : decode cJ9_floorDiv_7cf53 20 = .ok (.ireturn, 1) := by decide +kernel
theorem dJ9_floorDiv_7cf53_21 : decode cJ9_floorDiv_7cf53 21 = .ok (.iload_n 2, 1) := by decide +kernel
theorem dJ9_floorDiv_7cf53_22 : decode cJ9_floorDiv_7cf53 22 = .ok (.ireturn, 1) := by decide +kernel
theorem dJ9_max_7cf53_0 : decode cJ9_max_7cf53 0 = .ok (.iload_n 0, 1) := by decide +kernel
theorem dJ9_max_7cf53_1 : decode cJ9_max_7cf53 1 = .ok (.iload_n 1, 1) := by decide +kernel
theorem dJ9_max_7cf53_2 : decode cJ9_max_7cf53 2 = .ok (.if_icmp .lt 7, 3) := by decide +kernel
theorem dJ9_max_7cf53_5 : decode cJ9_max_7cf53 5 = .ok (.iload_n 0, 1) := by decide +kernel
theorem dJ9_max_7cf53_6 : decode cJ9_max_7cf53 6 = .ok (.goto 4, 3) := by decide +kernel
theorem dJ9_max_7cf53_9 : decode cJ9_max_7cf53 9 = .ok (.iload_n 1, 1) := by decide +kernel
theorem dJ9_max_7cf53_10 : decode cJ9_max_7cf53 10 = .ok (.ireturn, 1) := by decide +kernel
theorem dJ9_min_7cf53_0 : decode cJ9_min_7cf53 0 = .ok (.iload_n 0, 1) := by decide +kernel
theorem dJ9_min_7cf53_1 : decode cJ9_min_7cf53 1 = .ok (.iload_n 1, 1) := by decide +kernel
theorem dJ9_min_7cf53_2 : decode cJ9_min_7cf53 2 = .ok (.if_icmp .gt 7, 3) := by decide +kernel
theorem dJ9_min_7cf53_5 : decode cJ9_min_7cf53 5 = .ok (.iload_n 0, 1) := by decide +kernel
theorem dJ9_min_7cf53_6 : decode cJ9_min_7cf53 6 = .ok (.goto 4, 3) := by decide +kernel
theorem dJ9_min_7cf53_9 : decode cJ9_min_7cf53 9 = .ok (.iload_n 1, 1) := by decide +kernel
theorem dJ9_min_7cf53_10 : decode cJ9_min_7cf53 10 = .ok (.ireturn, 1) := by decide +kernel
theorem dJ7_fill_53178_0 : decode cJ7_fill_53178 0 = .ok (.iconst 0, 1) := by decide +kernel
theorem dJ7_fill_53178_1 : decode cJ7_fill_53178 1 = .ok (.istore_n 2, 1) := by decide +kernel
theorem dJ7_fill_53178_2 : decode cJ7_fill_53178 2 = .ok (.aload_n 0, 1) := by decide +kernel
theorem dJ7_fill_53178_3 : decode cJ7_fill_53178 3 = .ok (.arraylength, 1) := by decide +kernel
theorem dJ7_fill_53178_4 : decode cJ7_fill_53178 4 = .ok (.istore_n 3, 1) := by decide +kernel
theorem dJ7_fill_53178_5 : decode cJ7_fill_53178 5 = .ok (.iload_n 2, 1) := by decide +kernel
theorem dJ7_fill_53178_6 : decode cJ7_fill_53178 6 = .ok (.iload_n 3, 1) := by decide +kernel
theorem dJ7_fill_53178_7 : decode cJ7_fill_53178 7 = .ok (.if_icmp .ge 13, 3) := by decide +kernel
theorem dJ7_fill_53178_10 : decode cJ7_fill_53178 10 = .ok (.aload_n 0, 1) := by decide +kernel
theorem dJ7_fill_53178_11 : decode cJ7_fill_53178 11 = .ok (.iload_n 2, 1) := by decide +kernel
theorem dJ7_fill_53178_12 : decode cJ7_fill_53178 12 = .ok (.iload_n 1, 1) := by decide +kernel
theorem dJ7_fill_53178_13 : decode cJ7_fill_53178 13 = .ok (.iastore, 1) := by decide +kernel
theorem dJ7_fill_53178_14 : decode cJ7_fill_53178 14 = .ok (.iinc 2 1, 3) := by decide +kernel
theorem dJ7_fill_53178_17 : decode cJ7_fill_53178 17 = .ok (.goto (-12), 3) := by decide +kernel
theorem dJ7_fill_53178_20 : decode cJ7_fill_53178 20 = .ok (.return_, 1) := by decide +kernel
theorem dX0_init_0 : decode cX0_init 0 = .ok (.aload_n 0, 1) := by decide +kernel
theorem dX0_init_1 : decode cX0_init 1 = .ok (.invokespecial 1, 3) := by decide +kernel
theorem dX0_init_4 : decode cX0_init 4 = .ok (.aload_n 0, 1) := by decide +kernel
theorem dX0_init_5 : decode cX0_init 5 = .ok (.new 7, 3) := by decide +kernel
theorem dX0_init_8 : decode cX0_init 8 = .ok (.dup, 1) := by decide +kernel
theorem dX0_init_9 : decode cX0_init 9 = .ok (.invokespecial 9, 3) := by decide +kernel
theorem dX0_init_12 : decode cX0_init 12 = .ok (.putfield 10, 3) := by decide +kernel
theorem dX0_init_15 : decode cX0_init 15 = .ok (.aload_n 0, 1) := by decide +kernel
theorem dX0_init_16 : decode cX0_init 16 = .ok (.iconst 0, 1) := by decide +kernel
theorem dX0_init_17 : decode cX0_init 17 = .ok (.putfield 16, 3) := by decide +kernel
theorem dX0_init_20 : decode cX0_init 20 = .ok (.aload_n 0, 1) := by decide +kernel
theorem dX0_init_21 : decode cX0_init 21 = .ok (.iconst 0, 1) := by decide +kernel
theorem dX0_init_22 : decode cX0_init 22 = .ok (.putfield 20, 3) := by decide +kernel
theorem dX0_init_25 : decode cX0_init 25 = .ok (.aload_n 0, 1) := by decide +kernel
theorem dX0_init_26 : decode cX0_init 26 = .ok (.iconst 0, 1) := by decide +kernel
theorem dX0_init_27 : decode cX0_init 27 = .ok (.putfield 23, 3) := by decide +kernel
theorem dX0_init_30 : decode cX0_init 30 = .ok (.aload_n 0, 1) := by decide +kernel
theorem dX0_init_31 : decode cX0_init 31 = .ok (.iconst 0, 1) := by decide +kernel
theorem dX0_init_32 : decode cX0_init 32 = .ok (.putfield 26, 3) := by decide +kernel
theorem dX0_init_35 : decode cX0_init 35 = .ok (.aload_n 0, 1) := by decide +kernel
theorem dX0_init_36 : decode cX0_init 36 = .ok (.iconst 0, 1) := by decide +kernel
theorem dX0_init_37 : decode cX0_init 37 = .ok (.putfield 29, 3) := by decide +kernel
theorem dX0_init_40 : decode cX0_init 40 = .ok (.aload_n 0, 1) := by decide +kernel
theorem dX0_init_41 : decode cX0_init 41 = .ok (.iconst 0, 1) := by decide +kernel
theorem dX0_init_42 : decode cX0_init 42 = .ok (.putfield 32, 3) := by decide +kernel
theorem dX0_init_45 : decode cX0_init 45 = .ok (.return_, 1) := by decide +kernel
theorem dX0_begin_0 : decode cX0_begin 0 = .ok (.aload_n 0, 1) := by decide +kernel
theorem dX0_begin_1 : decode cX0_begin 1 = .ok (.iload_n 1, 1) := by decide +kernel
theorem dX0_begin_2 : decode cX0_begin 2 = .ok (.putfield 16, 3) := by decide +kernel
theorem dX0_begin_5 : decode cX0_begin 5 = .ok (.aload_n 0, 1) := by decide +kernel
theorem dX0_begin_6 : decode cX0_begin 6 = .ok (.iload_n 2, 1) := by decide +kernel
theorem dX0_begin_7 : decode cX0_begin 7 = .ok (.putfield 20, 3) := by decide +kernel
theorem dX0_begin_10 : decode cX0_begin 10 = .ok (.aload_n 0, 1) := by decide +kernel
theorem dX0_begin_11 : decode cX0_begin 11 = .ok (.iload_n 3, 1) := by decide +kernel
theorem dX0_begin_12 : decode cX0_begin 12 = .ok (.putfield 23, 3) := by decide +kernel
theorem dX0_begin_15 : decode cX0_begin 15 = .ok (.aload_n 0, 1) := by decide +kernel
theorem dX0_begin_16 : decode cX0_begin 16 = .ok (.iconst 0, 1) := by decide +kernel
theorem dX0_begin_17 : decode cX0_begin 17 = .ok (.putfield 26, 3) := by decide +kernel
theorem dX0_begin_20 : decode cX0_begin 20 = .ok (.aload_n 0, 1) := by decide +kernel
theorem dX0_begin_21 : decode cX0_begin 21 = .ok (.iconst 0, 1) := by decide +kernel
theorem dX0_begin_22 : decode cX0_begin 22 = .ok (.putfield 29, 3) := by decide +kernel
theorem dX0_begin_25 : decode cX0_begin 25 = .ok (.aload_n 0, 1) := by decide +kernel
theorem dX0_begin_26 : decode cX0_begin 26 = .ok (.iconst 0, 1) := by decide +kernel
theorem dX0_begin_27 : decode cX0_begin 27 = .ok (.putfield 32, 3) := by decide +kernel
theorem dX0_begin_30 : decode cX0_begin 30 = .ok (.aload_n 0, 1) := by decide +kernel
theorem dX0_begin_31 : decode cX0_begin 31 = .ok (.getfield 10, 3) := by decide +kernel
theorem dX0_begin_34 : decode cX0_begin 34 = .ok (.invokevirtual 35, 3) := by decide +kernel
theorem dX0_begin_37 : decode cX0_begin 37 = .ok (.return_, 1) := by decide +kernel
theorem dX0_copyFrom_0 : decode cX0_copyFrom 0 = .ok (.aload_n 0, 1) := by decide +kernel
theorem dX0_copyFrom_1 : decode cX0_copyFrom 1 = .ok (.getfield 10, 3) := by decide +kernel
theorem dX0_copyFrom_4 : decode cX0_copyFrom 4 = .ok (.aload_n 1, 1) := by decide +kernel
theorem dX0_copyFrom_5 : decode cX0_copyFrom 5 = .ok (.getfield 10, 3) := by decide +kernel
theorem dX0_copyFrom_8 : decode cX0_copyFrom 8 = .ok (.invokevirtual 38, 3) := by decide +kernel
theorem dX0_copyFrom_11 : decode cX0_copyFrom 11 = .ok (.aload_n 0, 1) := by decide +kernel
theorem dX0_copyFrom_12 : decode cX0_copyFrom 12 = .ok (.aload_n 1, 1) := by decide +kernel
theorem dX0_copyFrom_13 : decode cX0_copyFrom 13 = .ok (.getfield 16, 3) := by decide +kernel
theorem dX0_copyFrom_16 : decode cX0_copyFrom 16 = .ok (.putfield 16, 3) := by decide +kernel
theorem dX0_copyFrom_19 : decode cX0_copyFrom 19 = .ok (.aload_n 0, 1) := by decide +kernel
theorem dX0_copyFrom_20 : decode cX0_copyFrom 20 = .ok (.aload_n 1, 1) := by decide +kernel
theorem dX0_copyFrom_21 : decode cX0_copyFrom 21 = .ok (.getfield 20, 3) := by decide +kernel
theorem dX0_copyFrom_24 : decode cX0_copyFrom 24 = .ok (.putfield 20, 3) := by decide +kernel
theorem dX0_copyFrom_27 : decode cX0_copyFrom 27 = .ok (.aload_n 0, 1) := by decide +kernel
theorem dX0_copyFrom_28 : decode cX0_copyFrom 28 = .ok (.aload_n 1, 1) := by decide +kernel
theorem dX0_copyFrom_29 : decode cX0_copyFrom 29 = .ok (.getfield 23, 3) := by decide +kernel
theorem dX0_copyFrom_32 : decode cX0_copyFrom 32 = .ok (.putfield 23, 3) := by decide +kernel
theorem dX0_copyFrom_35 : decode cX0_copyFrom 35 = .ok (.aload_n 0, 1) := by decide +kernel
theorem dX0_copyFrom_36 : decode cX0_copyFrom 36 = .ok (.aload_n 1, 1) := by decide +kernel
theorem dX0_copyFrom_37 : decode cX0_copyFrom 37 = .ok (.getfield 26, 3) := by decide +kernel
theorem dX0_copyFrom_40 : decode cX0_copyFrom 40 = .ok (.putfield 26, 3) := by decide +kernel
theorem dX0_copyFrom_43 : decode cX0_copyFrom 43 = .ok (.aload_n 0, 1) := by decide +kernel
theorem dX0_copyFrom_44 : decode cX0_copyFrom 44 = .ok (.aload_n 1, 1) := by decide +kernel
theorem dX0_copyFrom_45 : decode cX0_copyFrom 45 = .ok (.getfield 29, 3) := by decide +kernel
theorem dX0_copyFrom_48 : decode cX0_copyFrom 48 = .ok (.putfield 29, 3) := by decide +kernel
theorem dX0_copyFrom_51 : decode cX0_copyFrom 51 = .ok (.aload_n 0, 1) := by decide +kernel
theorem dX0_copyFrom_52 : decode cX0_copyFrom 52 = .ok (.aload_n 1, 1) := by decide +kernel
theorem dX0_copyFrom_53 : decode cX0_copyFrom 53 = .ok (.getfield 32, 3) := by decide +kernel
theorem dX0_copyFrom_56 : decode cX0_copyFrom 56 = .ok (.putfield 32, 3) := by decide +kernel
theorem dX0_copyFrom_59 : decode cX0_copyFrom 59 = .ok (.return_, 1) := by decide +kernel
theorem dX0_iceToGive_0 : decode cX0_iceToGive 0 = .ok (.aload_n 0, 1) := by decide +kernel
theorem dX0_iceToGive_1 : decode cX0_iceToGive 1 = .ok (.getfield 10, 3) := by decide +kernel
theorem dX0_iceToGive_4 : decode cX0_iceToGive 4 = .ok (.getfield 42, 3) := by decide +kernel
theorem dX0_iceToGive_7 : decode cX0_iceToGive 7 = .ok (.i2l, 1) := by decide +kernel
theorem dX0_iceToGive_8 : decode cX0_iceToGive 8 = .ok (.aload_n 0, 1) := by decide +kernel
theorem dX0_iceToGive_9 : decode cX0_iceToGive 9 = .ok (.getfield 23, 3) := by decide +kernel
theorem dX0_iceToGive_12 : decode cX0_iceToGive 12 = .ok (.i2l, 1) := by decide +kernel
theorem dX0_iceToGive_13 : decode cX0_iceToGive 13 = .ok (.lmul, 1) := by decide +kernel
theorem dX0_iceToGive_14 : decode cX0_iceToGive 14 = .ok (.ldc2_w 45, 3) := by decide +kernel
theorem dX0_iceToGive_17 : decode cX0_iceToGive 17 = .ok (.ldiv, 1) := by decide +kernel
theorem dX0_iceToGive_18 : decode cX0_iceToGive 18 = .ok (.l2i, 1) := by decide +kernel
theorem dX0_iceToGive_19 : decode cX0_iceToGive 19 = .ok (.ireturn, 1) := by decide +kernel
theorem dX0_way_0 : decode cX0_way 0 = .ok (.aload_n 0, 1) := by decide +kernel
theorem dX0_way_1 : decode cX0_way 1 = .ok (.getfield 20, 3) := by decide +kernel
theorem dX0_way_4 : decode cX0_way 4 = .ok (.aload_n 0, 1) := by decide +kernel
theorem dX0_way_5 : decode cX0_way 5 = .ok (.getfield 23, 3) := by decide +kernel
theorem dX0_way_8 : decode cX0_way 8 = .ok (.imul, 1) := by decide +kernel
theorem dX0_way_9 : decode cX0_way 9 = .ok (.sipush 1000, 3) := by decide +kernel
theorem dX0_way_12 : decode cX0_way 12 = .ok (.idiv, 1) := by decide +kernel
theorem dX0_way_13 : decode cX0_way 13 = .ok (.ireturn, 1) := by decide +kernel
theorem dX1_init_0 : decode cX1_init 0 = .ok (.aload_n 0, 1) := by decide +kernel
theorem dX1_init_1 : decode cX1_init 1 = .ok (.invokespecial 1, 3) := by decide +kernel
theorem dX1_init_4 : decode cX1_init 4 = .ok (.aload_n 0, 1) := by decide +kernel
theorem dX1_init_5 : decode cX1_init 5 = .ok (.iconst 0, 1) := by decide +kernel
theorem dX1_init_6 : decode cX1_init 6 = .ok (.putfield 7, 3) := by decide +kernel
theorem dX1_init_9 : decode cX1_init 9 = .ok (.aload_n 0, 1) := by decide +kernel
theorem dX1_init_10 : decode cX1_init 10 = .ok (.iconst 0, 1) := by decide +kernel
theorem dX1_init_11 : decode cX1_init 11 = .ok (.putfield 13, 3) := by decide +kernel
theorem dX1_init_14 : decode cX1_init 14 = .ok (.aload_n 0, 1) := by decide +kernel
theorem dX1_init_15 : decode cX1_init 15 = .ok (.iconst 0, 1) := by decide +kernel
theorem dX1_init_16 : decode cX1_init 16 = .ok (.putfield 16, 3) := by decide +kernel
theorem dX1_init_19 : decode cX1_init 19 = .ok (.aload_n 0, 1) := by decide +kernel
theorem dX1_init_20 : decode cX1_init 20 = .ok (.iconst 0, 1) := by decide +kernel
theorem dX1_init_21 : decode cX1_init 21 = .ok (.putfield 19, 3) := by decide +kernel
theorem dX1_init_24 : decode cX1_init 24 = .ok (.return_, 1) := by decide +kernel
theorem dX1_copyFrom_0 : decode cX1_copyFrom 0 = .ok (.aload_n 0, 1) := by decide +kernel
theorem dX1_copyFrom_1 : decode cX1_copyFrom 1 = .ok (.aload_n 1, 1) := by decide +kernel
theorem dX1_copyFrom_2 : decode cX1_copyFrom 2 = .ok (.getfield 7, 3) := by decide +kernel
theorem dX1_copyFrom_5 : decode cX1_copyFrom 5 = .ok (.putfield 7, 3) := by decide +kernel
theorem dX1_copyFrom_8 : decode cX1_copyFrom 8 = .ok (.aload_n 0, 1) := by decide +kernel
theorem dX1_copyFrom_9 : decode cX1_copyFrom 9 = .ok (.aload_n 1, 1) := by decide +kernel
theorem dX1_copyFrom_10 : decode cX1_copyFrom 10 = .ok (.getfield 13, 3) := by decide +kernel
theorem dX1_copyFrom_13 : decode cX1_copyFrom 13 = .ok (.putfield 13, 3) := by decide +kernel
theorem dX1_copyFrom_16 : decode cX1_copyFrom 16 = .ok (.aload_n 0, 1) := by decide +kernel
theorem dX1_copyFrom_17 : decode cX1_copyFrom 17 = .ok (.aload_n 1, 1) := by decide +kernel
theorem dX1_copyFrom_18 : decode cX1_copyFrom 18 = .ok (.getfield 16, 3) := by decide +kernel
theorem dX1_copyFrom_21 : decode cX1_copyFrom 21 = .ok (.putfield 16, 3) := by decide +kernel
theorem dX1_copyFrom_24 : decode cX1_copyFrom 24 = .ok (.aload_n 0, 1) := by decide +kernel
theorem dX1_copyFrom_25 : decode cX1_copyFrom 25 = .ok (.aload_n 1, 1) := by decide +kernel
theorem dX1_copyFrom_26 : decode cX1_copyFrom 26 = .ok (.getfield 19, 3) := by decide +kernel
theorem dX1_copyFrom_29 : decode cX1_copyFrom 29 = .ok (.putfield 19, 3) := by decide +kernel
theorem dX1_copyFrom_32 : decode cX1_copyFrom 32 = .ok (.return_, 1) := by decide +kernel
theorem dX1_calve_0 : decode cX1_calve 0 = .ok (.aload_n 0, 1) := by decide +kernel
theorem dX1_calve_1 : decode cX1_calve 1 = .ok (.getfield 13, 3) := by decide +kernel
theorem dX1_calve_4 : decode cX1_calve 4 = .ok (.ifCond .le 15, 3) := by decide +kernel
theorem dX1_calve_7 : decode cX1_calve 7 = .ok (.aload_n 0, 1) := by decide +kernel
theorem dX1_calve_8 : decode cX1_calve 8 = .ok (.dup, 1) := by decide +kernel
theorem dX1_calve_9 : decode cX1_calve 9 = .ok (.getfield 13, 3) := by decide +kernel
theorem dX1_calve_12 : decode cX1_calve 12 = .ok (.iconst 1, 1) := by decide +kernel
theorem dX1_calve_13 : decode cX1_calve 13 = .ok (.isub, 1) := by decide +kernel
theorem dX1_calve_14 : decode cX1_calve 14 = .ok (.putfield 13, 3) := by decide +kernel
theorem dX1_calve_17 : decode cX1_calve 17 = .ok (.iconst 0, 1) := by decide +kernel
theorem dX1_calve_18 : decode cX1_calve 18 = .ok (.ireturn, 1) := by decide +kernel
theorem dX1_calve_19 : decode cX1_calve 19 = .ok (.iload_n 1, 1) := by decide +kernel
theorem dX1_calve_20 : decode cX1_calve 20 = .ok (.ifCond .le 11, 3) := by decide +kernel
theorem dX1_calve_23 : decode cX1_calve 23 = .ok (.aload_n 0, 1) := by decide +kernel
theorem dX1_calve_24 : decode cX1_calve 24 = .ok (.getfield 7, 3) := by decide +kernel
theorem dX1_calve_27 : decode cX1_calve 27 = .ok (.iload_n 1, 1) := by decide +kernel
theorem dX1_calve_28 : decode cX1_calve 28 = .ok (.if_icmp .ge 5, 3) := by decide +kernel
theorem dX1_calve_31 : decode cX1_calve 31 = .ok (.iconst 0, 1) := by decide +kernel
theorem dX1_calve_32 : decode cX1_calve 32 = .ok (.ireturn, 1) := by decide +kernel
theorem dX1_calve_33 : decode cX1_calve 33 = .ok (.aload_n 0, 1) := by decide +kernel
theorem dX1_calve_34 : decode cX1_calve 34 = .ok (.getfield 7, 3) := by decide +kernel
theorem dX1_calve_37 : decode cX1_calve 37 = .ok (.iload_n 1, 1) := by decide +kernel
theorem dX1_calve_38 : decode cX1_calve 38 = .ok (.idiv, 1) := by decide +kernel
theorem dX1_calve_39 : decode cX1_calve 39 = .ok (.istore 4, 2) := by decide +kernel
theorem dX1_calve_41 : decode cX1_calve 41 = .ok (.aload_n 0, 1) := by decide +kernel
theorem dX1_calve_42 : decode cX1_calve 42 = .ok (.dup, 1) := by decide +kernel
theorem dX1_calve_43 : decode cX1_calve 43 = .ok (.getfield 16, 3) := by decide +kernel
theorem dX1_calve_46 : decode cX1_calve 46 = .ok (.iload 4, 2) := by decide +kernel
theorem dX1_calve_48 : decode cX1_calve 48 = .ok (.iadd, 1) := by decide +kernel
theorem dX1_calve_49 : decode cX1_calve 49 = .ok (.putfield 16, 3) := by decide +kernel
theorem dX1_calve_52 : decode cX1_calve 52 = .ok (.aload_n 0, 1) := by decide +kernel
theorem dX1_calve_53 : decode cX1_calve 53 = .ok (.dup, 1) := by decide +kernel
theorem dX1_calve_54 : decode cX1_calve 54 = .ok (.getfield 7, 3) := by decide +kernel
theorem dX1_calve_57 : decode cX1_calve 57 = .ok (.iload 4, 2) := by decide +kernel
theorem dX1_calve_59 : decode cX1_calve 59 = .ok (.iload_n 1, 1) := by decide +kernel
theorem dX1_calve_60 : decode cX1_calve 60 = .ok (.imul, 1) := by decide +kernel
theorem dX1_calve_61 : decode cX1_calve 61 = .ok (.isub, 1) := by decide +kernel
theorem dX1_calve_62 : decode cX1_calve 62 = .ok (.putfield 7, 3) := by decide +kernel
theorem dX1_calve_65 : decode cX1_calve 65 = .ok (.aload_n 0, 1) := by decide +kernel
theorem dX1_calve_66 : decode cX1_calve 66 = .ok (.iload_n 2, 1) := by decide +kernel
theorem dX1_calve_67 : decode cX1_calve 67 = .ok (.putfield 13, 3) := by decide +kernel
theorem dX1_calve_70 : decode cX1_calve 70 = .ok (.aload_n 0, 1) := by decide +kernel
theorem dX1_calve_71 : decode cX1_calve 71 = .ok (.iload_n 3, 1) := by decide +kernel
theorem dX1_calve_72 : decode cX1_calve 72 = .ok (.putfield 19, 3) := by decide +kernel
theorem dX1_calve_75 : decode cX1_calve 75 = .ok (.iload 4, 2) := by decide +kernel
theorem dX1_calve_77 : decode cX1_calve 77 = .ok (.iload_n 1, 1) := by decide +kernel
theorem dX1_calve_78 : decode cX1_calve 78 = .ok (.imul, 1) := by decide +kernel
theorem dX1_calve_79 : decode cX1_calve 79 = .ok (.ireturn, 1) := by decide +kernel
theorem dX2_init_0 : decode cX2_init 0 = .ok (.aload_n 0, 1) := by decide +kernel
theorem dX2_init_1 : decode cX2_init 1 = .ok (.invokespecial 3, 3) := by decide +kernel
theorem dX2_init_4 : decode cX2_init 4 = .ok (.aload_n 0, 1) := by decide +kernel
theorem dX2_init_5 : decode cX2_init 5 = .ok (.sipush 801, 3) := by decide +kernel
theorem dX2_init_8 : decode cX2_init 8 = .ok (.newarray .int, 2) := by decide +kernel
theorem dX2_init_10 : decode cX2_init 10 = .ok (.putfield 9, 3) := by decide +kernel
theorem dX2_init_13 : decode cX2_init 13 = .ok (.aload_n 0, 1) := by decide +kernel
theorem dX2_init_14 : decode cX2_init 14 = .ok (.iconst 0, 1) := by decide +kernel
theorem dX2_init_15 : decode cX2_init 15 = .ok (.putfield 15, 3) := by decide +kernel
theorem dX2_init_18 : decode cX2_init 18 = .ok (.aload_n 0, 1) := by decide +kernel
theorem dX2_init_19 : decode cX2_init 19 = .ok (.sipush 801, 3) := by decide +kernel
theorem dX2_init_22 : decode cX2_init 22 = .ok (.putfield 19, 3) := by decide +kernel
theorem dX2_init_25 : decode cX2_init 25 = .ok (.aload_n 0, 1) := by decide +kernel
theorem dX2_init_26 : decode cX2_init 26 = .ok (.iconst (-1), 1) := by decide +kernel
theorem dX2_init_27 : decode cX2_init 27 = .ok (.putfield 22, 3) := by decide +kernel
theorem dX2_init_30 : decode cX2_init 30 = .ok (.return_, 1) := by decide +kernel
theorem dX2_copyFrom_0 : decode cX2_copyFrom 0 = .ok (.aload_n 1, 1) := by decide +kernel
theorem dX2_copyFrom_1 : decode cX2_copyFrom 1 = .ok (.getfield 9, 3) := by decide +kernel
theorem dX2_copyFrom_4 : decode cX2_copyFrom 4 = .ok (.iconst 0, 1) := by decide +kernel
theorem dX2_copyFrom_5 : decode cX2_copyFrom 5 = .ok (.aload_n 0, 1) := by decide +kernel
theorem dX2_copyFrom_6 : decode cX2_copyFrom 6 = .ok (.getfield 9, 3) := by decide +kernel
theorem dX2_copyFrom_9 : decode cX2_copyFrom 9 = .ok (.iconst 0, 1) := by decide +kernel
theorem dX2_copyFrom_10 : decode cX2_copyFrom 10 = .ok (.sipush 801, 3) := by decide +kernel
theorem dX2_copyFrom_13 : decode cX2_copyFrom 13 = .ok (.invokestatic 25, 3) := by decide +kernel
theorem dX2_copyFrom_16 : decode cX2_copyFrom 16 = .ok (.aload_n 0, 1) := by decide +kernel
theorem dX2_copyFrom_17 : decode cX2_copyFrom 17 = .ok (.aload_n 1, 1) := by decide +kernel
theorem dX2_copyFrom_18 : decode cX2_copyFrom 18 = .ok (.getfield 15, 3) := by decide +kernel
theorem dX2_copyFrom_21 : decode cX2_copyFrom 21 = .ok (.putfield 15, 3) := by decide +kernel
theorem dX2_copyFrom_24 : decode cX2_copyFrom 24 = .ok (.aload_n 0, 1) := by decide +kernel
theorem dX2_copyFrom_25 : decode cX2_copyFrom 25 = .ok (.aload_n 1, 1) := by decide +kernel
theorem dX2_copyFrom_26 : decode cX2_copyFrom 26 = .ok (.getfield 19, 3) := by decide +kernel
theorem dX2_copyFrom_29 : decode cX2_copyFrom 29 = .ok (.putfield 19, 3) := by decide +kernel
theorem dX2_copyFrom_32 : decode cX2_copyFrom 32 = .ok (.aload_n 0, 1) := by decide +kernel
theorem dX2_copyFrom_33 : decode cX2_copyFrom 33 = .ok (.aload_n 1, 1) := by decide +kernel
theorem dX2_copyFrom_34 : decode cX2_copyFrom 34 = .ok (.getfield 22, 3) := by decide +kernel
theorem dX2_copyFrom_37 : decode cX2_copyFrom 37 = .ok (.putfield 22, 3) := by decide +kernel
theorem dX2_copyFrom_40 : decode cX2_copyFrom 40 = .ok (.return_, 1) := by decide +kernel
theorem dX2_empty_0 : decode cX2_empty 0 = .ok (.aload_n 0, 1) := by decide +kernel
theorem dX2_empty_1 : decode cX2_empty 1 = .ok (.getfield 9, 3) := by decide +kernel
theorem dX2_empty_4 : decode cX2_empty 4 = .ok (.iconst 0, 1) := by decide +kernel
theorem dX2_empty_5 : decode cX2_empty 5 = .ok (.invokestatic 31, 3) := by decide +kernel
theorem dX2_empty_8 : decode cX2_empty 8 = .ok (.aload_n 0, 1) := by decide +kernel
theorem dX2_empty_9 : decode cX2_empty 9 = .ok (.iconst 0, 1) := by decide +kernel
theorem dX2_empty_10 : decode cX2_empty 10 = .ok (.putfield 15, 3) := by decide +kernel
theorem dX2_empty_13 : decode cX2_empty 13 = .ok (.aload_n 0, 1) := by decide +kernel
theorem dX2_empty_14 : decode cX2_empty 14 = .ok (.invokevirtual 37, 3) := by decide +kernel
theorem dX2_empty_17 : decode cX2_empty 17 = .ok (.return_, 1) := by decide +kernel
theorem dX2_add_0 : decode cX2_add 0 = .ok (.iload_n 2, 1) := by decide +kernel
theorem dX2_add_1 : decode cX2_add 1 = .ok (.ifCond .le 14, 3) := by decide +kernel
theorem dX2_add_4 : decode cX2_add 4 = .ok (.iload_n 1, 1) := by decide +kernel
theorem dX2_add_5 : decode cX2_add 5 = .ok (.ifCond .lt 10, 3) := by decide +kernel
theorem dX2_add_8 : decode cX2_add 8 = .ok (.iload_n 1, 1) := by decide +kernel
theorem dX2_add_9 : decode cX2_add 9 = .ok (.sipush 801, 3) := by decide +kernel
theorem dX2_add_12 : decode cX2_add 12 = .ok (.if_icmp .lt 4, 3) := by decide +kernel
theorem dX2_add_15 : decode cX2_add 15 = .ok (.return_, 1) := by decide +kernel
theorem dX2_add_16 : decode cX2_add 16 = .ok (.aload_n 0, 1) := by decide +kernel
theorem dX2_add_17 : decode cX2_add 17 = .ok (.getfield 9, 3) := by decide +kernel
theorem dX2_add_20 : decode cX2_add 20 = .ok (.iload_n 1, 1) := by decide +kernel
theorem dX2_add_21 : decode cX2_add 21 = .ok (.dup2, 1) := by decide +kernel
theorem dX2_add_22 : decode cX2_add 22 = .ok (.iaload, 1) := by decide +kernel
theorem dX2_add_23 : decode cX2_add 23 = .ok (.iload_n 2, 1) := by decide +kernel
theorem dX2_add_24 : decode cX2_add 24 = .ok (.iadd, 1) := by decide +kernel
theorem dX2_add_25 : decode cX2_add 25 = .ok (.iastore, 1) := by decide +kernel
theorem dX2_add_26 : decode cX2_add 26 = .ok (.aload_n 0, 1) := by decide +kernel
theorem dX2_add_27 : decode cX2_add 27 = .ok (.dup, 1) := by decide +kernel
theorem dX2_add_28 : decode cX2_add 28 = .ok (.getfield 15, 3) := by decide +kernel
theorem dX2_add_31 : decode cX2_add 31 = .ok (.iload_n 2, 1) := by decide +kernel
theorem dX2_add_32 : decode cX2_add 32 = .ok (.iadd, 1) := by decide +kernel
theorem dX2_add_33 : decode cX2_add 33 = .ok (.putfield 15, 3) := by decide +kernel
theorem dX2_add_36 : decode cX2_add 36 = .ok (.aload_n 0, 1) := by decide +kernel
theorem dX2_add_37 : decode cX2_add 37 = .ok (.aload_n 0, 1) := by decide +kernel
theorem dX2_add_38 : decode cX2_add 38 = .ok (.getfield 19, 3) := by decide +kernel
theorem dX2_add_41 : decode cX2_add 41 = .ok (.iload_n 1, 1) := by decide +kernel
theorem dX2_add_42 : decode cX2_add 42 = .ok (.invokestatic 40, 3) := by decide +kernel
theorem dX2_add_45 : decode cX2_add 45 = .ok (.putfield 19, 3) := by decide +kernel
theorem dX2_add_48 : decode cX2_add 48 = .ok (.aload_n 0, 1) := by decide +kernel
theorem dX2_add_49 : decode cX2_add 49 = .ok (.aload_n 0, 1) := by decide +kernel
theorem dX2_add_50 : decode cX2_add 50 = .ok (.getfield 22, 3) := by decide +kernel
theorem dX2_add_53 : decode cX2_add 53 = .ok (.iload_n 1, 1) := by decide +kernel
theorem dX2_add_54 : decode cX2_add 54 = .ok (.invokestatic 46, 3) := by decide +kernel
theorem dX2_add_57 : decode cX2_add 57 = .ok (.putfield 22, 3) := by decide +kernel
theorem dX2_add_60 : decode cX2_add 60 = .ok (.return_, 1) := by decide +kernel
theorem dX2_takeFromLatest_0 : decode cX2_takeFromLatest 0 = .ok (.iload_n 1, 1) := by decide +kernel
theorem dX2_takeFromLatest_1 : decode cX2_takeFromLatest 1 = .ok (.aload_n 0, 1) := by decide +kernel
theorem dX2_takeFromLatest_2 : decode cX2_takeFromLatest 2 = .ok (.getfield 15, 3) := by decide +kernel
theorem dX2_takeFromLatest_5 : decode cX2_takeFromLatest 5 = .ok (.invokestatic 40, 3) := by decide +kernel
theorem dX2_takeFromLatest_8 : decode cX2_takeFromLatest 8 = .ok (.istore_n 2, 1) := by decide +kernel
theorem dX2_takeFromLatest_9 : decode cX2_takeFromLatest 9 = .ok (.iload_n 2, 1) := by decide +kernel
theorem dX2_takeFromLatest_10 : decode cX2_takeFromLatest 10 = .ok (.istore_n 3, 1) := by decide +kernel
theorem dX2_takeFromLatest_11 : decode cX2_takeFromLatest 11 = .ok (.aload_n 0, 1) := by decide +kernel
theorem dX2_takeFromLatest_12 : decode cX2_takeFromLatest 12 = .ok (.getfield 22, 3) := by decide +kernel
theorem dX2_takeFromLatest_15 : decode cX2_takeFromLatest 15 = .ok (.istore 4, 2) := by decide +kernel
theorem dX2_takeFromLatest_17 : decode cX2_takeFromLatest 17 = .ok (.iload 4, 2) := by decide +kernel
theorem dX2_takeFromLatest_19 : decode cX2_takeFromLatest 19 = .ok (.aload_n 0, 1) := by decide +kernel
theorem dX2_takeFromLatest_20 : decode cX2_takeFromLatest 20 = .ok (.getfield 19, 3) := by decide +kernel
theorem dX2_takeFromLatest_23 : decode cX2_takeFromLatest 23 = .ok (.if_icmp .lt 23, 3) := by decide +kernel
theorem dX2_takeFromLatest_26 : decode cX2_takeFromLatest 26 = .ok (.iload_n 3, 1) := by decide +kernel
theorem dX2_takeFromLatest_27 : decode cX2_takeFromLatest 27 = .ok (.ifCond .le 19, 3) := by decide +kernel
theorem dX2_takeFromLatest_30 : decode cX2_takeFromLatest 30 = .ok (.iload_n 3, 1) := by decide +kernel
theorem dX2_takeFromLatest_31 : decode cX2_takeFromLatest 31 = .ok (.aload_n 0, 1) := by decide +kernel
theorem dX2_takeFromLatest_32 : decode cX2_takeFromLatest 32 = .ok (.iload 4, 2) := by decide +kernel
theorem dX2_takeFromLatest_34 : decode cX2_takeFromLatest 34 = .ok (.iload_n 3, 1) := by decide +kernel
theorem dX2_takeFromLatest_35 : decode cX2_takeFromLatest 35 = .ok (.invokevirtual 49, 3) := by decide +kernel
theorem dX2_takeFromLatest_38 : decode cX2_takeFromLatest 38 = .ok (.isub, 1) := by decide +kernel
theorem dX2_takeFromLatest_39 : decode cX2_takeFromLatest 39 = .ok (.istore_n 3, 1) := by decide +kernel
theorem dX2_takeFromLatest_40 : decode cX2_takeFromLatest 40 = .ok (.iinc 4 (-1), 3) := by decide +kernel
theorem dX2_takeFromLatest_43 : decode cX2_takeFromLatest 43 = .ok (.goto (-26), 3) := by decide +kernel
theorem dX2_takeFromLatest_46 : decode cX2_takeFromLatest 46 = .ok (.aload_n 0, 1) := by decide +kernel
theorem dX2_takeFromLatest_47 : decode cX2_takeFromLatest 47 = .ok (.invokevirtual 37, 3) := by decide +kernel
theorem dX2_takeFromLatest_50 : decode cX2_takeFromLatest 50 = .ok (.iload_n 2, 1) := by decide +kernel
theorem dX2_takeFromLatest_51 : decode cX2_takeFromLatest 51 = .ok (.ireturn, 1) := by decide +kernel
theorem dX2_giveFromOldest_0 : decode cX2_giveFromOldest 0 = .ok (.iload_n 1, 1) := by decide +kernel
theorem dX2_giveFromOldest_1 : decode cX2_giveFromOldest 1 = .ok (.aload_n 0, 1) := by decide +kernel
theorem dX2_giveFromOldest_2 : decode cX2_giveFromOldest 2 = .ok (.getfield 15, 3) := by decide +kernel
theorem dX2_giveFromOldest_5 : decode cX2_giveFromOldest 5 = .ok (.invokestatic 40, 3) := by decide +kernel
theorem dX2_giveFromOldest_8 : decode cX2_giveFromOldest 8 = .ok (.istore_n 3, 1) := by decide +kernel
theorem dX2_giveFromOldest_9 : decode cX2_giveFromOldest 9 = .ok (.aload_n 0, 1) := by decide +kernel
theorem dX2_giveFromOldest_10 : decode cX2_giveFromOldest 10 = .ok (.getfield 19, 3) := by decide +kernel
theorem dX2_giveFromOldest_13 : decode cX2_giveFromOldest 13 = .ok (.istore 4, 2) := by decide +kernel
theorem dX2_giveFromOldest_15 : decode cX2_giveFromOldest 15 = .ok (.iload 4, 2) := by decide +kernel
theorem dX2_giveFromOldest_17 : decode cX2_giveFromOldest 17 = .ok (.aload_n 0, 1) := by decide +kernel
theorem dX2_giveFromOldest_18 : decode cX2_giveFromOldest 18 = .ok (.getfield 22, 3) := by decide +kernel
theorem dX2_giveFromOldest_21 : decode cX2_giveFromOldest 21 = .ok (.if_icmp .gt 39, 3) := by decide +kernel
theorem dX2_giveFromOldest_24 : decode cX2_giveFromOldest 24 = .ok (.iload_n 3, 1) := by decide +kernel
theorem dX2_giveFromOldest_25 : decode cX2_giveFromOldest 25 = .ok (.ifCond .le 35, 3) := by decide +kernel
theorem dX2_giveFromOldest_28 : decode cX2_giveFromOldest 28 = .ok (.aload_n 0, 1) := by decide +kernel
theorem dX2_giveFromOldest_29 : decode cX2_giveFromOldest 29 = .ok (.iload 4, 2) := by decide +kernel
theorem dX2_giveFromOldest_31 : decode cX2_giveFromOldest 31 = .ok (.iload_n 3, 1) := by decide +kernel
theorem dX2_giveFromOldest_32 : decode cX2_giveFromOldest 32 = .ok (.invokevirtual 49, 3) := by decide +kernel
theorem dX2_giveFromOldest_35 : decode cX2_giveFromOldest 35 = .ok (.istore 5, 2) := by decide +kernel
theorem dX2_giveFromOldest_37 : decode cX2_giveFromOldest 37 = .ok (.iload_n 3, 1) := by decide +kernel
theorem dX2_giveFromOldest_38 : decode cX2_giveFromOldest 38 = .ok (.iload 5, 2) := by decide +kernel
theorem dX2_giveFromOldest_40 : decode cX2_giveFromOldest 40 = .ok (.isub, 1) := by decide +kernel
theorem dX2_giveFromOldest_41 : decode cX2_giveFromOldest 41 = .ok (.istore_n 3, 1) := by decide +kernel
theorem dX2_giveFromOldest_42 : decode cX2_giveFromOldest 42 = .ok (.aload_n 2, 1) := by decide +kernel
theorem dX2_giveFromOldest_43 : decode cX2_giveFromOldest 43 = .ok (.ifnull 11, 3) := by decide +kernel
theorem dX2_giveFromOldest_46 : decode cX2_giveFromOldest 46 = .ok (.aload_n 2, 1) := by decide +kernel
theorem dX2_giveFromOldest_47 : decode cX2_giveFromOldest 47 = .ok (.iload 4, 2) := by decide +kernel
theorem dX2_giveFromOldest_49 : decode cX2_giveFromOldest 49 = .ok (.iload 5, 2) := by decide +kernel
theorem dX2_giveFromOldest_51 : decode cX2_giveFromOldest 51 = .ok (.invokevirtual 52, 3) := by decide +kernel
theorem dX2_giveFromOldest_54 : decode cX2_giveFromOldest 54 = .ok (.iinc 4 1, 3) := by decide +kernel
theorem dX2_giveFromOldest_57 : decode cX2_giveFromOldest 57 = .ok (.goto (-42), 3) := by decide +kernel
theorem dX2_giveFromOldest_60 : decode cX2_giveFromOldest 60 = .ok (.aload_n 0, 1) := by decide +kernel
theorem dX2_giveFromOldest_61 : decode cX2_giveFromOldest 61 = .ok (.invokevirtual 37, 3) := by decide +kernel
theorem dX2_giveFromOldest_64 : decode cX2_giveFromOldest 64 = .ok (.return_, 1) := by decide +kernel
theorem dX2_takeOfYear_0 : decode cX2_takeOfYear 0 = .ok (.aload_n 0, 1) := by decide +kernel
theorem dX2_takeOfYear_1 : decode cX2_takeOfYear 1 = .ok (.iload_n 1, 1) := by decide +kernel
theorem dX2_takeOfYear_2 : decode cX2_takeOfYear 2 = .ok (.invokevirtual 56, 3) := by decide +kernel
theorem dX2_takeOfYear_5 : decode cX2_takeOfYear 5 = .ok (.iload_n 2, 1) := by decide +kernel
theorem dX2_takeOfYear_6 : decode cX2_takeOfYear 6 = .ok (.invokestatic 40, 3) := by decide +kernel
theorem dX2_takeOfYear_9 : decode cX2_takeOfYear 9 = .ok (.istore_n 3, 1) := by decide +kernel
theorem dX2_takeOfYear_10 : decode cX2_takeOfYear 10 = .ok (.iload_n 3, 1) := by decide +kernel
theorem dX2_takeOfYear_11 : decode cX2_takeOfYear 11 = .ok (.ifCond .le 23, 3) := by decide +kernel
theorem dX2_takeOfYear_14 : decode cX2_takeOfYear 14 = .ok (.aload_n 0, 1) := by decide +kernel
theorem dX2_takeOfYear_15 : decode cX2_takeOfYear 15 = .ok (.getfield 9, 3) := by decide +kernel
theorem dX2_takeOfYear_18 : decode cX2_takeOfYear 18 = .ok (.iload_n 1, 1) := by decide +kernel
theorem dX2_takeOfYear_19 : decode cX2_takeOfYear 19 = .ok (.dup2, 1) := by decide +kernel
theorem dX2_takeOfYear_20 : decode cX2_takeOfYear 20 = .ok (.iaload, 1) := by decide +kernel
theorem dX2_takeOfYear_21 : decode cX2_takeOfYear 21 = .ok (.iload_n 3, 1) := by decide +kernel
theorem dX2_takeOfYear_22 : decode cX2_takeOfYear 22 = .ok (.isub, 1) := by decide +kernel
theorem dX2_takeOfYear_23 : decode cX2_takeOfYear 23 = .ok (.iastore, 1) := by decide +kernel
theorem dX2_takeOfYear_24 : decode cX2_takeOfYear 24 = .ok (.aload_n 0, 1) := by decide +kernel
theorem dX2_takeOfYear_25 : decode cX2_takeOfYear 25 = .ok (.dup, 1) := by decide +kernel
theorem dX2_takeOfYear_26 : decode cX2_takeOfYear 26 = .ok (.getfield 15, 3) := by decide +kernel
theorem dX2_takeOfYear_29 : decode cX2_takeOfYear 29 = .ok (.iload_n 3, 1) := by decide +kernel
theorem dX2_takeOfYear_30 : decode cX2_takeOfYear 30 = .ok (.isub, 1) := by decide +kernel
theorem dX2_takeOfYear_31 : decode cX2_takeOfYear 31 = .ok (.putfield 15, 3) := by decide +kernel
theorem dX2_takeOfYear_34 : decode cX2_takeOfYear 34 = .ok (.iload_n 3, 1) := by decide +kernel
theorem dX2_takeOfYear_35 : decode cX2_takeOfYear 35 = .ok (.ireturn, 1) := by decide +kernel
theorem dX2_narrow_0 : decode cX2_narrow 0 = .ok (.aload_n 0, 1) := by decide +kernel
theorem dX2_narrow_1 : decode cX2_narrow 1 = .ok (.getfield 15, 3) := by decide +kernel
theorem dX2_narrow_4 : decode cX2_narrow 4 = .ok (.ifCond .ne 15, 3) := by decide +kernel
theorem dX2_narrow_7 : decode cX2_narrow 7 = .ok (.aload_n 0, 1) := by decide +kernel
theorem dX2_narrow_8 : decode cX2_narrow 8 = .ok (.sipush 801, 3) := by decide +kernel
theorem dX2_narrow_11 : decode cX2_narrow 11 = .ok (.putfield 19, 3) := by decide +kernel
theorem dX2_narrow_14 : decode cX2_narrow 14 = .ok (.aload_n 0, 1) := by decide +kernel
theorem dX2_narrow_15 : decode cX2_narrow 15 = .ok (.iconst (-1), 1) := by decide +kernel
theorem dX2_narrow_16 : decode cX2_narrow 16 = .ok (.putfield 22, 3) := by decide +kernel
theorem dX2_narrow_19 : decode cX2_narrow 19 = .ok (.aload_n 0, 1) := by decide +kernel
theorem dX2_narrow_20 : decode cX2_narrow 20 = .ok (.getfield 19, 3) := by decide +kernel
theorem dX2_narrow_23 : decode cX2_narrow 23 = .ok (.aload_n 0, 1) := by decide +kernel
theorem dX2_narrow_24 : decode cX2_narrow 24 = .ok (.getfield 22, 3) := by decide +kernel
theorem dX2_narrow_27 : decode cX2_narrow 27 = .ok (.if_icmp .ge 27, 3) := by decide +kernel
theorem dX2_narrow_30 : decode cX2_narrow 30 = .ok (.aload_n 0, 1) := by decide +kernel
theorem dX2_narrow_31 : decode cX2_narrow 31 = .ok (.aload_n 0, 1) := by decide +kernel
theorem dX2_narrow_32 : decode cX2_narrow 32 = .ok (.getfield 19, 3) := by decide +kernel
theorem dX2_narrow_35 : decode cX2_narrow 35 = .ok (.invokevirtual 56, 3) := by decide +kernel
theorem dX2_narrow_38 : decode cX2_narrow 38 = .ok (.ifCond .ne 16, 3) := by decide +kernel
theorem dX2_narrow_41 : decode cX2_narrow 41 = .ok (.aload_n 0, 1) := by decide +kernel
theorem dX2_narrow_42 : decode cX2_narrow 42 = .ok (.dup, 1) := by decide +kernel
theorem dX2_narrow_43 : decode cX2_narrow 43 = .ok (.getfield 19, 3) := by decide +kernel
theorem dX2_narrow_46 : decode cX2_narrow 46 = .ok (.iconst 1, 1) := by decide +kernel
theorem dX2_narrow_47 : decode cX2_narrow 47 = .ok (.iadd, 1) := by decide +kernel
theorem dX2_narrow_48 : decode cX2_narrow 48 = .ok (.putfield 19, 3) := by decide +kernel
theorem dX2_narrow_51 : decode cX2_narrow 51 = .ok (.goto (-32), 3) := by decide +kernel
theorem dX2_narrow_54 : decode cX2_narrow 54 = .ok (.aload_n 0, 1) := by decide +kernel
theorem dX2_narrow_55 : decode cX2_narrow 55 = .ok (.getfield 22, 3) := by decide +kernel
theorem dX2_narrow_58 : decode cX2_narrow 58 = .ok (.aload_n 0, 1) := by decide +kernel
theorem dX2_narrow_59 : decode cX2_narrow 59 = .ok (.getfield 19, 3) := by decide +kernel
theorem dX2_narrow_62 : decode cX2_narrow 62 = .ok (.if_icmp .le 27, 3) := by decide +kernel
theorem dX2_narrow_65 : decode cX2_narrow 65 = .ok (.aload_n 0, 1) := by decide +kernel
theorem dX2_narrow_66 : decode cX2_narrow 66 = .ok (.aload_n 0, 1) := by decide +kernel
theorem dX2_narrow_67 : decode cX2_narrow 67 = .ok (.getfield 22, 3) := by decide +kernel
theorem dX2_narrow_70 : decode cX2_narrow 70 = .ok (.invokevirtual 56, 3) := by decide +kernel
theorem dX2_narrow_73 : decode cX2_narrow 73 = .ok (.ifCond .ne 16, 3) := by decide +kernel
theorem dX2_narrow_76 : decode cX2_narrow 76 = .ok (.aload_n 0, 1) := by decide +kernel
theorem dX2_narrow_77 : decode cX2_narrow 77 = .ok (.dup, 1) := by decide +kernel
theorem dX2_narrow_78 : decode cX2_narrow 78 = .ok (.getfield 22, 3) := by decide +kernel
theorem dX2_narrow_81 : decode cX2_narrow 81 = .ok (.iconst 1, 1) := by decide +kernel
theorem dX2_narrow_82 : decode cX2_narrow 82 = .ok (.isub, 1) := by decide +kernel
theorem dX2_narrow_83 : decode cX2_narrow 83 = .ok (.putfield 22, 3) := by decide +kernel
theorem dX2_narrow_86 : decode cX2_narrow 86 = .ok (.goto (-32), 3) := by decide +kernel
theorem dX2_narrow_89 : decode cX2_narrow 89 = .ok (.return_, 1) := by decide +kernel
theorem dX2_leftOf_0 : decode cX2_leftOf 0 = .ok (.iload_n 1, 1) := by decide +kernel
theorem dX2_leftOf_1 : decode cX2_leftOf 1 = .ok (.ifCond .lt 19, 3) := by decide +kernel
theorem dX2_leftOf_4 : decode cX2_leftOf 4 = .ok (.iload_n 1, 1) := by decide +kernel
theorem dX2_leftOf_5 : decode cX2_leftOf 5 = .ok (.sipush 801, 3) := by decide +kernel
theorem dX2_leftOf_8 : decode cX2_leftOf 8 = .ok (.if_icmp .ge 12, 3) := by decide +kernel
theorem dX2_leftOf_11 : decode cX2_leftOf 11 = .ok (.aload_n 0, 1) := by decide +kernel
theorem dX2_leftOf_12 : decode cX2_leftOf 12 = .ok (.getfield 9, 3) := by decide +kernel
theorem dX2_leftOf_15 : decode cX2_leftOf 15 = .ok (.iload_n 1, 1) := by decide +kernel
theorem dX2_leftOf_16 : decode cX2_leftOf 16 = .ok (.iaload, 1) := by decide +kernel
theorem dX2_leftOf_17 : decode cX2_leftOf 17 = .ok (.goto 4, 3) := by decide +kernel
theorem dX2_leftOf_20 : decode cX2_leftOf 20 = .ok (.iconst 0, 1) := by decide +kernel
theorem dX2_leftOf_21 : decode cX2_leftOf 21 = .ok (.ireturn, 1) := by decide +kernel
theorem dX2_number_0 : decode cX2_number 0 = .ok (.iconst 0, 1) := by decide +kernel
theorem dX2_number_1 : decode cX2_number 1 = .ok (.istore_n 1, 1) := by decide +kernel
theorem dX2_number_2 : decode cX2_number 2 = .ok (.aload_n 0, 1) := by decide +kernel
theorem dX2_number_3 : decode cX2_number 3 = .ok (.getfield 19, 3) := by decide +kernel
theorem dX2_number_6 : decode cX2_number 6 = .ok (.istore_n 2, 1) := by decide +kernel
theorem dX2_number_7 : decode cX2_number 7 = .ok (.iload_n 2, 1) := by decide +kernel
theorem dX2_number_8 : decode cX2_number 8 = .ok (.aload_n 0, 1) := by decide +kernel
theorem dX2_number_9 : decode cX2_number 9 = .ok (.getfield 22, 3) := by decide +kernel
theorem dX2_number_12 : decode cX2_number 12 = .ok (.if_icmp .gt 20, 3) := by decide +kernel
theorem dX2_number_15 : decode cX2_number 15 = .ok (.aload_n 0, 1) := by decide +kernel
theorem dX2_number_16 : decode cX2_number 16 = .ok (.iload_n 2, 1) := by decide +kernel
theorem dX2_number_17 : decode cX2_number 17 = .ok (.invokevirtual 56, 3) := by decide +kernel
theorem dX2_number_20 : decode cX2_number 20 = .ok (.ifCond .le 6, 3) := by decide +kernel
theorem dX2_number_23 : decode cX2_number 23 = .ok (.iinc 1 1, 3) := by decide +kernel
theorem dX2_number_26 : decode cX2_number 26 = .ok (.iinc 2 1, 3) := by decide +kernel
theorem dX2_number_29 : decode cX2_number 29 = .ok (.goto (-22), 3) := by decide +kernel
theorem dX2_number_32 : decode cX2_number 32 = .ok (.iload_n 1, 1) := by decide +kernel
theorem dX2_number_33 : decode cX2_number 33 = .ok (.ireturn, 1) := by decide +kernel
theorem dX2_yearOfLayer_0 : decode cX2_yearOfLayer 0 = .ok (.iconst 0, 1) := by decide +kernel
theorem dX2_yearOfLayer_1 : decode cX2_yearOfLayer 1 = .ok (.istore_n 2, 1) := by decide +kernel
theorem dX2_yearOfLayer_2 : decode cX2_yearOfLayer 2 = .ok (.aload_n 0, 1) := by decide +kernel
theorem dX2_yearOfLayer_3 : decode cX2_yearOfLayer 3 = .ok (.getfield 19, 3) := by decide +kernel
theorem dX2_yearOfLayer_6 : decode cX2_yearOfLayer 6 = .ok (.istore_n 3, 1) := by decide +kernel
theorem dX2_yearOfLayer_7 : decode cX2_yearOfLayer 7 = .ok (.iload_n 3, 1) := by decide +kernel
theorem dX2_yearOfLayer_8 : decode cX2_yearOfLayer 8 = .ok (.aload_n 0, 1) := by decide +kernel
theorem dX2_yearOfLayer_9 : decode cX2_yearOfLayer 9 = .ok (.getfield 22, 3) := by decide +kernel
theorem dX2_yearOfLayer_12 : decode cX2_yearOfLayer 12 = .ok (.if_icmp .gt 27, 3) := by decide +kernel
theorem dX2_yearOfLayer_15 : decode cX2_yearOfLayer 15 = .ok (.aload_n 0, 1) := by decide +kernel
theorem dX2_yearOfLayer_16 : decode cX2_yearOfLayer 16 = .ok (.iload_n 3, 1) := by decide +kernel
theorem dX2_yearOfLayer_17 : decode cX2_yearOfLayer 17 = .ok (.invokevirtual 56, 3) := by decide +kernel
theorem dX2_yearOfLayer_20 : decode cX2_yearOfLayer 20 = .ok (.ifCond .le 13, 3) := by decide +kernel
theorem dX2_yearOfLayer_23 : decode cX2_yearOfLayer 23 = .ok (.iload_n 2, 1) := by decide +kernel
theorem dX2_yearOfLayer_24 : decode cX2_yearOfLayer 24 = .ok (.iload_n 1, 1) := by decide +kernel
theorem dX2_yearOfLayer_25 : decode cX2_yearOfLayer 25 = .ok (.if_icmp .ne 5, 3) := by decide +kernel
theorem dX2_yearOfLayer_28 : decode cX2_yearOfLayer 28 = .ok (.iload_n 3, 1) := by decide +kernel
theorem dX2_yearOfLayer_29 : decode cX2_yearOfLayer 29 = .ok (.ireturn, 1) := by decide +kernel
theorem dX2_yearOfLayer_30 : decode cX2_yearOfLayer 30 = .ok (.iinc 2 1, 3) := by decide +kernel
theorem dX2_yearOfLayer_33 : decode cX2_yearOfLayer 33 = .ok (.iinc 3 1, 3) := by decide +kernel
theorem dX2_yearOfLayer_36 : decode cX2_yearOfLayer 36 = .ok (.goto (-29), 3) := by decide +kernel
theorem dX2_yearOfLayer_39 : decode cX2_yearOfLayer 39 = .ok (.iconst (-1), 1) := by decide +kernel
theorem dX2_yearOfLayer_40 : decode cX2_yearOfLayer 40 = .ok (.ireturn, 1) := by decide +kernel
theorem dX3_init_0 : decode cX3_init 0 = .ok (.aload_n 0, 1) := by decide +kernel
theorem dX3_init_1 : decode cX3_init 1 = .ok (.invokespecial 3, 3) := by decide +kernel
theorem dX3_init_4 : decode cX3_init 4 = .ok (.aload_n 0, 1) := by decide +kernel
theorem dX3_init_5 : decode cX3_init 5 = .ok (.iconst 0, 1) := by decide +kernel
theorem dX3_init_6 : decode cX3_init 6 = .ok (.putfield 9, 3) := by decide +kernel
theorem dX3_init_9 : decode cX3_init 9 = .ok (.aload_n 0, 1) := by decide +kernel
theorem dX3_init_10 : decode cX3_init 10 = .ok (.iconst 0, 1) := by decide +kernel
theorem dX3_init_11 : decode cX3_init 11 = .ok (.putfield 15, 3) := by decide +kernel
theorem dX3_init_14 : decode cX3_init 14 = .ok (.aload_n 0, 1) := by decide +kernel
theorem dX3_init_15 : decode cX3_init 15 = .ok (.iconst 0, 1) := by decide +kernel
theorem dX3_init_16 : decode cX3_init 16 = .ok (.putfield 18, 3) := by decide +kernel
theorem dX3_init_19 : decode cX3_init 19 = .ok (.aload_n 0, 1) := by decide +kernel
theorem dX3_init_20 : decode cX3_init 20 = .ok (.iconst 0, 1) := by decide +kernel
theorem dX3_init_21 : decode cX3_init 21 = .ok (.putfield 21, 3) := by decide +kernel
theorem dX3_init_24 : decode cX3_init 24 = .ok (.aload_n 0, 1) := by decide +kernel
theorem dX3_init_25 : decode cX3_init 25 = .ok (.iconst 0, 1) := by decide +kernel
theorem dX3_init_26 : decode cX3_init 26 = .ok (.putfield 24, 3) := by decide +kernel
theorem dX3_init_29 : decode cX3_init 29 = .ok (.aload_n 0, 1) := by decide +kernel
theorem dX3_init_30 : decode cX3_init 30 = .ok (.iconst 0, 1) := by decide +kernel
theorem dX3_init_31 : decode cX3_init 31 = .ok (.putfield 27, 3) := by decide +kernel
theorem dX3_init_34 : decode cX3_init 34 = .ok (.return_, 1) := by decide +kernel
theorem dX3_begin_0 : decode cX3_begin 0 = .ok (.aload_n 0, 1) := by decide +kernel
theorem dX3_begin_1 : decode cX3_begin 1 = .ok (.iload_n 1, 1) := by decide +kernel
theorem dX3_begin_2 : decode cX3_begin 2 = .ok (.putfield 9, 3) := by decide +kernel
theorem dX3_begin_5 : decode cX3_begin 5 = .ok (.aload_n 0, 1) := by decide +kernel
theorem dX3_begin_6 : decode cX3_begin 6 = .ok (.iload_n 2, 1) := by decide +kernel
theorem dX3_begin_7 : decode cX3_begin 7 = .ok (.putfield 15, 3) := by decide +kernel
theorem dX3_begin_10 : decode cX3_begin 10 = .ok (.aload_n 0, 1) := by decide +kernel
theorem dX3_begin_11 : decode cX3_begin 11 = .ok (.iload_n 3, 1) := by decide +kernel
theorem dX3_begin_12 : decode cX3_begin 12 = .ok (.putfield 18, 3) := by decide +kernel
theorem dX3_begin_15 : decode cX3_begin 15 = .ok (.aload_n 0, 1) := by decide +kernel
theorem dX3_begin_16 : decode cX3_begin 16 = .ok (.iconst 0, 1) := by decide +kernel
theorem dX3_begin_17 : decode cX3_begin 17 = .ok (.putfield 21, 3) := by decide +kernel
theorem dX3_begin_20 : decode cX3_begin 20 = .ok (.aload_n 0, 1) := by decide +kernel
theorem dX3_begin_21 : decode cX3_begin 21 = .ok (.iconst 0, 1) := by decide +kernel
theorem dX3_begin_22 : decode cX3_begin 22 = .ok (.putfield 24, 3) := by decide +kernel
theorem dX3_begin_25 : decode cX3_begin 25 = .ok (.aload_n 0, 1) := by decide +kernel
theorem dX3_begin_26 : decode cX3_begin 26 = .ok (.iconst 0, 1) := by decide +kernel
theorem dX3_begin_27 : decode cX3_begin 27 = .ok (.putfield 27, 3) := by decide +kernel
theorem dX3_begin_30 : decode cX3_begin 30 = .ok (.return_, 1) := by decide +kernel
theorem dX3_copyFrom_0 : decode cX3_copyFrom 0 = .ok (.aload_n 0, 1) := by decide +kernel
theorem dX3_copyFrom_1 : decode cX3_copyFrom 1 = .ok (.aload_n 1, 1) := by decide +kernel
theorem dX3_copyFrom_2 : decode cX3_copyFrom 2 = .ok (.getfield 9, 3) := by decide +kernel
theorem dX3_copyFrom_5 : decode cX3_copyFrom 5 = .ok (.putfield 9, 3) := by decide +kernel
theorem dX3_copyFrom_8 : decode cX3_copyFrom 8 = .ok (.aload_n 0, 1) := by decide +kernel
theorem dX3_copyFrom_9 : decode cX3_copyFrom 9 = .ok (.aload_n 1, 1) := by decide +kernel
theorem dX3_copyFrom_10 : decode cX3_copyFrom 10 = .ok (.getfield 15, 3) := by decide +kernel
theorem dX3_copyFrom_13 : decode cX3_copyFrom 13 = .ok (.putfield 15, 3) := by decide +kernel
theorem dX3_copyFrom_16 : decode cX3_copyFrom 16 = .ok (.aload_n 0, 1) := by decide +kernel
theorem dX3_copyFrom_17 : decode cX3_copyFrom 17 = .ok (.aload_n 1, 1) := by decide +kernel
theorem dX3_copyFrom_18 : decode cX3_copyFrom 18 = .ok (.getfield 18, 3) := by decide +kernel
theorem dX3_copyFrom_21 : decode cX3_copyFrom 21 = .ok (.putfield 18, 3) := by decide +kernel
theorem dX3_copyFrom_24 : decode cX3_copyFrom 24 = .ok (.aload_n 0, 1) := by decide +kernel
theorem dX3_copyFrom_25 : decode cX3_copyFrom 25 = .ok (.aload_n 1, 1) := by decide +kernel
theorem dX3_copyFrom_26 : decode cX3_copyFrom 26 = .ok (.getfield 21, 3) := by decide +kernel
theorem dX3_copyFrom_29 : decode cX3_copyFrom 29 = .ok (.putfield 21, 3) := by decide +kernel
theorem dX3_copyFrom_32 : decode cX3_copyFrom 32 = .ok (.aload_n 0, 1) := by decide +kernel
theorem dX3_copyFrom_33 : decode cX3_copyFrom 33 = .ok (.aload_n 1, 1) := by decide +kernel
theorem dX3_copyFrom_34 : decode cX3_copyFrom 34 = .ok (.getfield 24, 3) := by decide +kernel
theorem dX3_copyFrom_37 : decode cX3_copyFrom 37 = .ok (.putfield 24, 3) := by decide +kernel
theorem dX3_copyFrom_40 : decode cX3_copyFrom 40 = .ok (.aload_n 0, 1) := by decide +kernel
theorem dX3_copyFrom_41 : decode cX3_copyFrom 41 = .ok (.aload_n 1, 1) := by decide +kernel
theorem dX3_copyFrom_42 : decode cX3_copyFrom 42 = .ok (.getfield 27, 3) := by decide +kernel
theorem dX3_copyFrom_45 : decode cX3_copyFrom 45 = .ok (.putfield 27, 3) := by decide +kernel
theorem dX3_copyFrom_48 : decode cX3_copyFrom 48 = .ok (.return_, 1) := by decide +kernel
theorem dX4_init_0 : decode cX4_init 0 = .ok (.aload_n 0, 1) := by decide +kernel
theorem dX4_init_1 : decode cX4_init 1 = .ok (.invokespecial 3, 3) := by decide +kernel
theorem dX4_init_4 : decode cX4_init 4 = .ok (.aload_n 0, 1) := by decide +kernel
theorem dX4_init_5 : decode cX4_init 5 = .ok (.bipush 60, 2) := by decide +kernel
theorem dX4_init_7 : decode cX4_init 7 = .ok (.newarray .char, 2) := by decide +kernel
theorem dX4_init_9 : decode cX4_init 9 = .ok (.putfield 9, 3) := by decide +kernel
theorem dX4_init_12 : decode cX4_init 12 = .ok (.aload_n 0, 1) := by decide +kernel
theorem dX4_init_13 : decode cX4_init 13 = .ok (.iconst 0, 1) := by decide +kernel
theorem dX4_init_14 : decode cX4_init 14 = .ok (.putfield 15, 3) := by decide +kernel
theorem dX4_init_17 : decode cX4_init 17 = .ok (.return_, 1) := by decide +kernel
theorem dX4_append_0 : decode cX4_append 0 = .ok (.aload_n 0, 1) := by decide +kernel
theorem dX4_append_1 : decode cX4_append 1 = .ok (.getfield 15, 3) := by decide +kernel
theorem dX4_append_4 : decode cX4_append 4 = .ok (.bipush 60, 2) := by decide +kernel
theorem dX4_append_6 : decode cX4_append 6 = .ok (.if_icmp .ge 23, 3) := by decide +kernel
theorem dX4_append_9 : decode cX4_append 9 = .ok (.aload_n 0, 1) := by decide +kernel
theorem dX4_append_10 : decode cX4_append 10 = .ok (.getfield 9, 3) := by decide +kernel
theorem dX4_append_13 : decode cX4_append 13 = .ok (.aload_n 0, 1) := by decide +kernel
theorem dX4_append_14 : decode cX4_append 14 = .ok (.getfield 15, 3) := by decide +kernel
theorem dX4_append_17 : decode cX4_append 17 = .ok (.iload_n 1, 1) := by decide +kernel
theorem dX4_append_18 : decode cX4_append 18 = .ok (.castore, 1) := by decide +kernel
theorem dX4_append_19 : decode cX4_append 19 = .ok (.aload_n 0, 1) := by decide +kernel
theorem dX4_append_20 : decode cX4_append 20 = .ok (.dup, 1) := by decide +kernel
theorem dX4_append_21 : decode cX4_append 21 = .ok (.getfield 15, 3) := by decide +kernel
theorem dX4_append_24 : decode cX4_append 24 = .ok (.iconst 1, 1) := by decide +kernel
theorem dX4_append_25 : decode cX4_append 25 = .ok (.iadd, 1) := by decide +kernel
theorem dX4_append_26 : decode cX4_append 26 = .ok (.putfield 15, 3) := by decide +kernel
theorem dX4_append_29 : decode cX4_append 29 = .ok (.return_, 1) := by decide +kernel
theorem dX4_isSignAt_0 : decode cX4_isSignAt 0 = .ok (.iload_n 1, 1) := by decide +kernel
theorem dX4_isSignAt_1 : decode cX4_isSignAt 1 = .ok (.ifCond .lt 25, 3) := by decide +kernel
theorem dX4_isSignAt_4 : decode cX4_isSignAt 4 = .ok (.iload_n 1, 1) := by decide +kernel
theorem dX4_isSignAt_5 : decode cX4_isSignAt 5 = .ok (.aload_n 0, 1) := by decide +kernel
theorem dX4_isSignAt_6 : decode cX4_isSignAt 6 = .ok (.getfield 15, 3) := by decide +kernel
theorem dX4_isSignAt_9 : decode cX4_isSignAt 9 = .ok (.if_icmp .ge 17, 3) := by decide +kernel
theorem dX4_isSignAt_12 : decode cX4_isSignAt 12 = .ok (.aload_n 0, 1) := by decide +kernel
theorem dX4_isSignAt_13 : decode cX4_isSignAt 13 = .ok (.getfield 9, 3) := by decide +kernel
theorem dX4_isSignAt_16 : decode cX4_isSignAt 16 = .ok (.iload_n 1, 1) := by decide +kernel
theorem dX4_isSignAt_17 : decode cX4_isSignAt 17 = .ok (.caload, 1) := by decide +kernel
theorem dX4_isSignAt_18 : decode cX4_isSignAt 18 = .ok (.iload_n 2, 1) := by decide +kernel
theorem dX4_isSignAt_19 : decode cX4_isSignAt 19 = .ok (.if_icmp .ne 7, 3) := by decide +kernel
theorem dX4_isSignAt_22 : decode cX4_isSignAt 22 = .ok (.iconst 1, 1) := by decide +kernel
theorem dX4_isSignAt_23 : decode cX4_isSignAt 23 = .ok (.goto 4, 3) := by decide +kernel
theorem dX4_isSignAt_26 : decode cX4_isSignAt 26 = .ok (.iconst 0, 1) := by decide +kernel
theorem dX4_isSignAt_27 : decode cX4_isSignAt 27 = .ok (.ireturn, 1) := by decide +kernel
theorem dX4_isDigitAt_0 : decode cX4_isDigitAt 0 = .ok (.iload_n 1, 1) := by decide +kernel
theorem dX4_isDigitAt_1 : decode cX4_isDigitAt 1 = .ok (.ifCond .lt 37, 3) := by decide +kernel
theorem dX4_isDigitAt_4 : decode cX4_isDigitAt 4 = .ok (.iload_n 1, 1) := by decide +kernel
theorem dX4_isDigitAt_5 : decode cX4_isDigitAt 5 = .ok (.aload_n 0, 1) := by decide +kernel
theorem dX4_isDigitAt_6 : decode cX4_isDigitAt 6 = .ok (.getfield 15, 3) := by decide +kernel
theorem dX4_isDigitAt_9 : decode cX4_isDigitAt 9 = .ok (.if_icmp .ge 29, 3) := by decide +kernel
theorem dX4_isDigitAt_12 : decode cX4_isDigitAt 12 = .ok (.aload_n 0, 1) := by decide +kernel
theorem dX4_isDigitAt_13 : decode cX4_isDigitAt 13 = .ok (.getfield 9, 3) := by decide +kernel
theorem dX4_isDigitAt_16 : decode cX4_isDigitAt 16 = .ok (.iload_n 1, 1) := by decide +kernel
theorem dX4_isDigitAt_17 : decode cX4_isDigitAt 17 = .ok (.caload, 1) := by decide +kernel
theorem dX4_isDigitAt_18 : decode cX4_isDigitAt 18 = .ok (.bipush 48, 2) := by decide +kernel
theorem dX4_isDigitAt_20 : decode cX4_isDigitAt 20 = .ok (.if_icmp .lt 18, 3) := by decide +kernel
theorem dX4_isDigitAt_23 : decode cX4_isDigitAt 23 = .ok (.aload_n 0, 1) := by decide +kernel
theorem dX4_isDigitAt_24 : decode cX4_isDigitAt 24 = .ok (.getfield 9, 3) := by decide +kernel
theorem dX4_isDigitAt_27 : decode cX4_isDigitAt 27 = .ok (.iload_n 1, 1) := by decide +kernel
theorem dX4_isDigitAt_28 : decode cX4_isDigitAt 28 = .ok (.caload, 1) := by decide +kernel
theorem dX4_isDigitAt_29 : decode cX4_isDigitAt 29 = .ok (.bipush 57, 2) := by decide +kernel
theorem dX4_isDigitAt_31 : decode cX4_isDigitAt 31 = .ok (.if_icmp .gt 7, 3) := by decide +kernel
theorem dX4_isDigitAt_34 : decode cX4_isDigitAt 34 = .ok (.iconst 1, 1) := by decide +kernel
theorem dX4_isDigitAt_35 : decode cX4_isDigitAt 35 = .ok (.goto 4, 3) := by decide +kernel
theorem dX4_isDigitAt_38 : decode cX4_isDigitAt 38 = .ok (.iconst 0, 1) := by decide +kernel
theorem dX4_isDigitAt_39 : decode cX4_isDigitAt 39 = .ok (.ireturn, 1) := by decide +kernel
theorem dX4_endOfNumber_0 : decode cX4_endOfNumber 0 = .ok (.iload_n 1, 1) := by decide +kernel
theorem dX4_endOfNumber_1 : decode cX4_endOfNumber 1 = .ok (.istore_n 2, 1) := by decide +kernel
theorem dX4_endOfNumber_2 : decode cX4_endOfNumber 2 = .ok (.iload_n 2, 1) := by decide +kernel
theorem dX4_endOfNumber_3 : decode cX4_endOfNumber 3 = .ok (.aload_n 0, 1) := by decide +kernel
theorem dX4_endOfNumber_4 : decode cX4_endOfNumber 4 = .ok (.getfield 15, 3) := by decide +kernel
theorem dX4_endOfNumber_7 : decode cX4_endOfNumber 7 = .ok (.if_icmp .ge 17, 3) := by decide +kernel
theorem dX4_endOfNumber_10 : decode cX4_endOfNumber 10 = .ok (.aload_n 0, 1) := by decide +kernel
theorem dX4_endOfNumber_11 : decode cX4_endOfNumber 11 = .ok (.iload_n 2, 1) := by decide +kernel
theorem dX4_endOfNumber_12 : decode cX4_endOfNumber 12 = .ok (.invokevirtual 19, 3) := by decide +kernel
theorem dX4_endOfNumber_15 : decode cX4_endOfNumber 15 = .ok (.ifCond .eq 9, 3) := by decide +kernel
theorem dX4_endOfNumber_18 : decode cX4_endOfNumber 18 = .ok (.iinc 2 1, 3) := by decide +kernel
theorem dX4_endOfNumber_21 : decode cX4_endOfNumber 21 = .ok (.goto (-19), 3) := by decide +kernel
theorem dX4_endOfNumber_24 : decode cX4_endOfNumber 24 = .ok (.iload_n 2, 1) := by decide +kernel
theorem dX4_endOfNumber_25 : decode cX4_endOfNumber 25 = .ok (.iload_n 1, 1) := by decide +kernel
theorem dX4_endOfNumber_26 : decode cX4_endOfNumber 26 = .ok (.isub, 1) := by decide +kernel
theorem dX4_endOfNumber_27 : decode cX4_endOfNumber 27 = .ok (.iconst 1, 1) := by decide +kernel
theorem dX4_endOfNumber_28 : decode cX4_endOfNumber 28 = .ok (.if_icmp .lt 14, 3) := by decide +kernel
theorem dX4_endOfNumber_31 : decode cX4_endOfNumber 31 = .ok (.iload_n 2, 1) := by decide +kernel
theorem dX4_endOfNumber_32 : decode cX4_endOfNumber 32 = .ok (.iload_n 1, 1) := by decide +kernel
theorem dX4_endOfNumber_33 : decode cX4_endOfNumber 33 = .ok (.isub, 1) := by decide +kernel
theorem dX4_endOfNumber_34 : decode cX4_endOfNumber 34 = .ok (.iconst 4, 1) := by decide +kernel
theorem dX4_endOfNumber_35 : decode cX4_endOfNumber 35 = .ok (.if_icmp .gt 7, 3) := by decide +kernel
theorem dX4_endOfNumber_38 : decode cX4_endOfNumber 38 = .ok (.iload_n 2, 1) := by decide +kernel
theorem dX4_endOfNumber_39 : decode cX4_endOfNumber 39 = .ok (.goto 4, 3) := by decide +kernel
theorem dX4_endOfNumber_42 : decode cX4_endOfNumber 42 = .ok (.iconst (-1), 1) := by decide +kernel
theorem dX4_endOfNumber_43 : decode cX4_endOfNumber 43 = .ok (.ireturn, 1) := by decide +kernel
theorem dX4_numberAt_0 : decode cX4_numberAt 0 = .ok (.aload_n 0, 1) := by decide +kernel
theorem dX4_numberAt_1 : decode cX4_numberAt 1 = .ok (.iload_n 1, 1) := by decide +kernel
theorem dX4_numberAt_2 : decode cX4_numberAt 2 = .ok (.invokevirtual 23, 3) := by decide +kernel
theorem dX4_numberAt_5 : decode cX4_numberAt 5 = .ok (.istore_n 2, 1) := by decide +kernel
theorem dX4_numberAt_6 : decode cX4_numberAt 6 = .ok (.iconst 0, 1) := by decide +kernel
theorem dX4_numberAt_7 : decode cX4_numberAt 7 = .ok (.istore_n 3, 1) := by decide +kernel
theorem dX4_numberAt_8 : decode cX4_numberAt 8 = .ok (.iload_n 1, 1) := by decide +kernel
theorem dX4_numberAt_9 : decode cX4_numberAt 9 = .ok (.istore 4, 2) := by decide +kernel
theorem dX4_numberAt_11 : decode cX4_numberAt 11 = .ok (.iload 4, 2) := by decide +kernel
theorem dX4_numberAt_13 : decode cX4_numberAt 13 = .ok (.ifCond .lt 31, 3) := by decide +kernel
theorem dX4_numberAt_16 : decode cX4_numberAt 16 = .ok (.iload 4, 2) := by decide +kernel
theorem dX4_numberAt_18 : decode cX4_numberAt 18 = .ok (.iload_n 2, 1) := by decide +kernel
theorem dX4_numberAt_19 : decode cX4_numberAt 19 = .ok (.if_icmp .ge 25, 3) := by decide +kernel
theorem dX4_numberAt_22 : decode cX4_numberAt 22 = .ok (.iload_n 3, 1) := by decide +kernel
theorem dX4_numberAt_23 : decode cX4_numberAt 23 = .ok (.bipush 10, 2) := by decide +kernel
theorem dX4_numberAt_25 : decode cX4_numberAt 25 = .ok (.imul, 1) := by decide +kernel
theorem dX4_numberAt_26 : decode cX4_numberAt 26 = .ok (.aload_n 0, 1) := by decide +kernel
theorem dX4_numberAt_27 : decode cX4_numberAt 27 = .ok (.getfield 9, 3) := by decide +kernel
theorem dX4_numberAt_30 : decode cX4_numberAt 30 = .ok (.iload 4, 2) := by decide +kernel
theorem dX4_numberAt_32 : decode cX4_numberAt 32 = .ok (.caload, 1) := by decide +kernel
theorem dX4_numberAt_33 : decode cX4_numberAt 33 = .ok (.bipush 48, 2) := by decide +kernel
theorem dX4_numberAt_35 : decode cX4_numberAt 35 = .ok (.isub, 1) := by decide +kernel
theorem dX4_numberAt_36 : decode cX4_numberAt 36 = .ok (.iadd, 1) := by decide +kernel
theorem dX4_numberAt_37 : decode cX4_numberAt 37 = .ok (.istore_n 3, 1) := by decide +kernel
theorem dX4_numberAt_38 : decode cX4_numberAt 38 = .ok (.iinc 4 1, 3) := by decide +kernel
theorem dX4_numberAt_41 : decode cX4_numberAt 41 = .ok (.goto (-30), 3) := by decide +kernel
theorem dX4_numberAt_44 : decode cX4_numberAt 44 = .ok (.iload_n 3, 1) := by decide +kernel
theorem dX4_numberAt_45 : decode cX4_numberAt 45 = .ok (.ireturn, 1) := by decide +kernel
theorem dX4_endOfYear_0 : decode cX4_endOfYear 0 = .ok (.aload_n 0, 1) := by decide +kernel
theorem dX4_endOfYear_1 : decode cX4_endOfYear 1 = .ok (.iload_n 1, 1) := by decide +kernel
theorem dX4_endOfYear_2 : decode cX4_endOfYear 2 = .ok (.invokevirtual 23, 3) := by decide +kernel
theorem dX4_endOfYear_5 : decode cX4_endOfYear 5 = .ok (.istore_n 2, 1) := by decide +kernel
theorem dX4_endOfYear_6 : decode cX4_endOfYear 6 = .ok (.aload_n 0, 1) := by decide +kernel
theorem dX4_endOfYear_7 : decode cX4_endOfYear 7 = .ok (.iload_n 2, 1) := by decide +kernel
theorem dX4_endOfYear_8 : decode cX4_endOfYear 8 = .ok (.bipush 44, 2) := by decide +kernel
theorem dX4_endOfYear_10 : decode cX4_endOfYear 10 = .ok (.invokevirtual 27, 3) := by decide +kernel
theorem dX4_endOfYear_13 : decode cX4_endOfYear 13 = .ok (.ifCond .ne 5, 3) := by decide +kernel
theorem dX4_endOfYear_16 : decode cX4_endOfYear 16 = .ok (.iconst (-1), 1) := by decide +kernel
theorem dX4_endOfYear_17 : decode cX4_endOfYear 17 = .ok (.ireturn, 1) := by decide +kernel
theorem dX4_endOfYear_18 : decode cX4_endOfYear 18 = .ok (.aload_n 0, 1) := by decide +kernel
theorem dX4_endOfYear_19 : decode cX4_endOfYear 19 = .ok (.iload_n 2, 1) := by decide +kernel
theorem dX4_endOfYear_20 : decode cX4_endOfYear 20 = .ok (.iconst 1, 1) := by decide +kernel
theorem dX4_endOfYear_21 : decode cX4_endOfYear 21 = .ok (.iadd, 1) := by decide +kernel
theorem dX4_endOfYear_22 : decode cX4_endOfYear 22 = .ok (.invokevirtual 23, 3) := by decide +kernel
theorem dX4_endOfYear_25 : decode cX4_endOfYear 25 = .ok (.istore_n 3, 1) := by decide +kernel
theorem dX4_endOfYear_26 : decode cX4_endOfYear 26 = .ok (.aload_n 0, 1) := by decide +kernel
theorem dX4_endOfYear_27 : decode cX4_endOfYear 27 = .ok (.iload_n 3, 1) := by decide +kernel
theorem dX4_endOfYear_28 : decode cX4_endOfYear 28 = .ok (.bipush 59, 2) := by decide +kernel
theorem dX4_endOfYear_30 : decode cX4_endOfYear 30 = .ok (.invokevirtual 27, 3) := by decide +kernel
theorem dX4_endOfYear_33 : decode cX4_endOfYear 33 = .ok (.ifCond .eq 9, 3) := by decide +kernel
theorem dX4_endOfYear_36 : decode cX4_endOfYear 36 = .ok (.iload_n 3, 1) := by decide +kernel
theorem dX4_endOfYear_37 : decode cX4_endOfYear 37 = .ok (.iconst 1, 1) := by decide +kernel
theorem dX4_endOfYear_38 : decode cX4_endOfYear 38 = .ok (.iadd, 1) := by decide +kernel
theorem dX4_endOfYear_39 : decode cX4_endOfYear 39 = .ok (.goto 4, 3) := by decide +kernel
theorem dX4_endOfYear_42 : decode cX4_endOfYear 42 = .ok (.iconst (-1), 1) := by decide +kernel
theorem dX4_endOfYear_43 : decode cX4_endOfYear 43 = .ok (.ireturn, 1) := by decide +kernel
theorem dX4_snowOfYear_0 : decode cX4_snowOfYear 0 = .ok (.aload_n 0, 1) := by decide +kernel
theorem dX4_snowOfYear_1 : decode cX4_snowOfYear 1 = .ok (.iload_n 1, 1) := by decide +kernel
theorem dX4_snowOfYear_2 : decode cX4_snowOfYear 2 = .ok (.invokevirtual 31, 3) := by decide +kernel
theorem dX4_snowOfYear_5 : decode cX4_snowOfYear 5 = .ok (.ireturn, 1) := by decide +kernel
theorem dX4_meltOfYear_0 : decode cX4_meltOfYear 0 = .ok (.aload_n 0, 1) := by decide +kernel
theorem dX4_meltOfYear_1 : decode cX4_meltOfYear 1 = .ok (.aload_n 0, 1) := by decide +kernel
theorem dX4_meltOfYear_2 : decode cX4_meltOfYear 2 = .ok (.iload_n 1, 1) := by decide +kernel
theorem dX4_meltOfYear_3 : decode cX4_meltOfYear 3 = .ok (.invokevirtual 23, 3) := by decide +kernel
theorem dX4_meltOfYear_6 : decode cX4_meltOfYear 6 = .ok (.iconst 1, 1) := by decide +kernel
theorem dX4_meltOfYear_7 : decode cX4_meltOfYear 7 = .ok (.iadd, 1) := by decide +kernel
theorem dX4_meltOfYear_8 : decode cX4_meltOfYear 8 = .ok (.invokevirtual 31, 3) := by decide +kernel
theorem dX4_meltOfYear_11 : decode cX4_meltOfYear 11 = .ok (.ireturn, 1) := by decide +kernel
theorem dX4_startOfYear_0 : decode cX4_startOfYear 0 = .ok (.iconst 0, 1) := by decide +kernel
theorem dX4_startOfYear_1 : decode cX4_startOfYear 1 = .ok (.istore_n 2, 1) := by decide +kernel
theorem dX4_startOfYear_2 : decode cX4_startOfYear 2 = .ok (.iconst 0, 1) := by decide +kernel
theorem dX4_startOfYear_3 : decode cX4_startOfYear 3 = .ok (.istore_n 3, 1) := by decide +kernel
theorem dX4_startOfYear_4 : decode cX4_startOfYear 4 = .ok (.iload_n 3, 1) := by decide +kernel
theorem dX4_startOfYear_5 : decode cX4_startOfYear 5 = .ok (.iload_n 1, 1) := by decide +kernel
theorem dX4_startOfYear_6 : decode cX4_startOfYear 6 = .ok (.if_icmp .ge 19, 3) := by decide +kernel
theorem dX4_startOfYear_9 : decode cX4_startOfYear 9 = .ok (.iload_n 2, 1) := by decide +kernel
theorem dX4_startOfYear_10 : decode cX4_startOfYear 10 = .ok (.ifCond .lt 15, 3) := by decide +kernel
theorem dX4_startOfYear_13 : decode cX4_startOfYear 13 = .ok (.aload_n 0, 1) := by decide +kernel
theorem dX4_startOfYear_14 : decode cX4_startOfYear 14 = .ok (.iload_n 2, 1) := by decide +kernel
theorem dX4_startOfYear_15 : decode cX4_startOfYear 15 = .ok (.invokevirtual 34, 3) := by decide +kernel
theorem dX4_startOfYear_18 : decode cX4_startOfYear 18 = .ok (.istore_n 2, 1) := by decide +kernel
theorem dX4_startOfYear_19 : decode cX4_startOfYear 19 = .ok (.iinc 3 1, 3) := by decide +kernel
theorem dX4_startOfYear_22 : decode cX4_startOfYear 22 = .ok (.goto (-18), 3) := by decide +kernel
theorem dX4_startOfYear_25 : decode cX4_startOfYear 25 = .ok (.iload_n 2, 1) := by decide +kernel
theorem dX4_startOfYear_26 : decode cX4_startOfYear 26 = .ok (.ireturn, 1) := by decide +kernel
end
section
theorem dX5_init_0 : decode cX5_init 0 = .ok (.aload_n 0, 1) := by decide +kernel
theorem dX5_init_1 : decode cX5_init 1 = .ok (.invokespecial 3, 3) := by decide +kernel
theorem dX5_init_4 : decode cX5_init 4 = .ok (.aload_n 0, 1) := by decide +kernel
theorem dX5_init_5 : decode cX5_init 5 = .ok (.getstatic 9, 3) := by decide +kernel
theorem dX5_init_8 : decode cX5_init 8 = .ok (.invokevirtual 13, 3) := by decide +kernel
theorem dX5_init_11 : decode cX5_init 11 = .ok (.checkcast 14, 3) := by decide +kernel
theorem dX5_init_14 : decode cX5_init 14 = .ok (.putfield 18, 3) := by decide +kernel
theorem dX5_init_17 : decode cX5_init 17 = .ok (.aload_n 0, 1) := by decide +kernel
theorem dX5_init_18 : decode cX5_init 18 = .ok (.bipush 10, 2) := by decide +kernel
theorem dX5_init_20 : decode cX5_init 20 = .ok (.anewarray 23, 3) := by decide +kernel
theorem dX5_init_23 : decode cX5_init 23 = .ok (.putfield 25, 3) := by decide +kernel
theorem dX5_init_26 : decode cX5_init 26 = .ok (.aload_n 0, 1) := by decide +kernel
theorem dX5_init_27 : decode cX5_init 27 = .ok (.bipush 6, 2) := by decide +kernel
theorem dX5_init_29 : decode cX5_init 29 = .ok (.anewarray 29, 3) := by decide +kernel
theorem dX5_init_32 : decode cX5_init 32 = .ok (.putfield 31, 3) := by decide +kernel
theorem dX5_init_35 : decode cX5_init 35 = .ok (.aload_n 0, 1) := by decide +kernel
theorem dX5_init_36 : decode cX5_init 36 = .ok (.new 35, 3) := by decide +kernel
theorem dX5_init_39 : decode cX5_init 39 = .ok (.dup, 1) := by decide +kernel
theorem dX5_init_40 : decode cX5_init 40 = .ok (.invokespecial 37, 3) := by decide +kernel
theorem dX5_init_43 : decode cX5_init 43 = .ok (.putfield 38, 3) := by decide +kernel
theorem dX5_init_46 : decode cX5_init 46 = .ok (.aload_n 0, 1) := by decide +kernel
theorem dX5_init_47 : decode cX5_init 47 = .ok (.iconst 0, 1) := by decide +kernel
theorem dX5_init_48 : decode cX5_init 48 = .ok (.putfield 42, 3) := by decide +kernel
theorem dX5_init_51 : decode cX5_init 51 = .ok (.aload_n 0, 1) := by decide +kernel
theorem dX5_init_52 : decode cX5_init 52 = .ok (.iconst 0, 1) := by decide +kernel
theorem dX5_init_53 : decode cX5_init 53 = .ok (.putfield 46, 3) := by decide +kernel
theorem dX5_init_56 : decode cX5_init 56 = .ok (.aload_n 0, 1) := by decide +kernel
theorem dX5_init_57 : decode cX5_init 57 = .ok (.iconst 0, 1) := by decide +kernel
theorem dX5_init_58 : decode cX5_init 58 = .ok (.putfield 49, 3) := by decide +kernel
theorem dX5_init_61 : decode cX5_init 61 = .ok (.aload_n 0, 1) := by decide +kernel
theorem dX5_init_62 : decode cX5_init 62 = .ok (.lconst 0, 1) := by decide +kernel
theorem dX5_init_63 : decode cX5_init 63 = .ok (.putfield 52, 3) := by decide +kernel
theorem dX5_init_66 : decode cX5_init 66 = .ok (.aload_n 0, 1) := by decide +kernel
theorem dX5_init_67 : decode cX5_init 67 = .ok (.lconst 0, 1) := by decide +kernel
theorem dX5_init_68 : decode cX5_init 68 = .ok (.putfield 56, 3) := by decide +kernel
theorem dX5_init_71 : decode cX5_init 71 = .ok (.aload_n 0, 1) := by decide +kernel
theorem dX5_init_72 : decode cX5_init 72 = .ok (.lconst 0, 1) := by decide +kernel
theorem dX5_init_73 : decode cX5_init 73 = .ok (.putfield 59, 3) := by decide +kernel
theorem dX5_init_76 : decode cX5_init 76 = .ok (.aload_n 0, 1) := by decide +kernel
theorem dX5_init_77 : decode cX5_init 77 = .ok (.lconst 0, 1) := by decide +kernel
theorem dX5_init_78 : decode cX5_init 78 = .ok (.putfield 62, 3) := by decide +kernel
theorem dX5_init_81 : decode cX5_init 81 = .ok (.iconst 0, 1) := by decide +kernel
theorem dX5_init_82 : decode cX5_init 82 = .ok (.istore_n 1, 1) := by decide +kernel
theorem dX5_init_83 : decode cX5_init 83 = .ok (.iload_n 1, 1) := by decide +kernel
theorem dX5_init_84 : decode cX5_init 84 = .ok (.aload_n 0, 1) := by decide +kernel
theorem dX5_init_85 : decode cX5_init 85 = .ok (.getfield 25, 3) := by decide +kernel
theorem dX5_init_88 : decode cX5_init 88 = .ok (.arraylength, 1) := by decide +kernel
theorem dX5_init_89 : decode cX5_init 89 = .ok (.if_icmp .ge 22, 3) := by decide +kernel
theorem dX5_init_92 : decode cX5_init 92 = .ok (.aload_n 0, 1) := by decide +kernel
theorem dX5_init_93 : decode cX5_init 93 = .ok (.getfield 25, 3) := by decide +kernel
theorem dX5_init_96 : decode cX5_init 96 = .ok (.iload_n 1, 1) := by decide +kernel
theorem dX5_init_97 : decode cX5_init 97 = .ok (.new 23, 3) := by decide +kernel
theorem dX5_init_100 : decode cX5_init 100 = .ok (.dup, 1) := by decide +kernel
theorem dX5_init_101 : decode cX5_init 101 = .ok (.invokespecial 65, 3) := by decide +kernel
theorem dX5_init_104 : decode cX5_init 104 = .ok (.aastore, 1) := by decide +kernel
theorem dX5_init_105 : decode cX5_init 105 = .ok (.iinc 1 1, 3) := by decide +kernel
theorem dX5_init_108 : decode cX5_init 108 = .ok (.goto (-25), 3) := by decide +kernel
theorem dX5_init_111 : decode cX5_init 111 = .ok (.iconst 0, 1) := by decide +kernel
theorem dX5_init_112 : decode cX5_init 112 = .ok (.istore_n 1, 1) := by decide +kernel
theorem dX5_init_113 : decode cX5_init 113 = .ok (.iload_n 1, 1) := by decide +kernel
theorem dX5_init_114 : decode cX5_init 114 = .ok (.aload_n 0, 1) := by decide +kernel
theorem dX5_init_115 : decode cX5_init 115 = .ok (.getfield 31, 3) := by decide +kernel
theorem dX5_init_118 : decode cX5_init 118 = .ok (.arraylength, 1) := by decide +kernel
theorem dX5_init_119 : decode cX5_init 119 = .ok (.if_icmp .ge 22, 3) := by decide +kernel
theorem dX5_init_122 : decode cX5_init 122 = .ok (.aload_n 0, 1) := by decide +kernel
theorem dX5_init_123 : decode cX5_init 123 = .ok (.getfield 31, 3) := by decide +kernel
theorem dX5_init_126 : decode cX5_init 126 = .ok (.iload_n 1, 1) := by decide +kernel
theorem dX5_init_127 : decode cX5_init 127 = .ok (.new 29, 3) := by decide +kernel
theorem dX5_init_130 : decode cX5_init 130 = .ok (.dup, 1) := by decide +kernel
theorem dX5_init_131 : decode cX5_init 131 = .ok (.invokespecial 66, 3) := by decide +kernel
theorem dX5_init_134 : decode cX5_init 134 = .ok (.aastore, 1) := by decide +kernel
theorem dX5_init_135 : decode cX5_init 135 = .ok (.iinc 1 1, 3) := by decide +kernel
theorem dX5_init_138 : decode cX5_init 138 = .ok (.goto (-25), 3) := by decide +kernel
theorem dX5_init_141 : decode cX5_init 141 = .ok (.return_, 1) := by decide +kernel
theorem dX5_copyFrom_0 : decode cX5_copyFrom 0 = .ok (.aload_n 1, 1) := by decide +kernel
theorem dX5_copyFrom_1 : decode cX5_copyFrom 1 = .ok (.getfield 18, 3) := by decide +kernel
theorem dX5_copyFrom_4 : decode cX5_copyFrom 4 = .ok (.iconst 0, 1) := by decide +kernel
theorem dX5_copyFrom_5 : decode cX5_copyFrom 5 = .ok (.aload_n 0, 1) := by decide +kernel
theorem dX5_copyFrom_6 : decode cX5_copyFrom 6 = .ok (.getfield 18, 3) := by decide +kernel
theorem dX5_copyFrom_9 : decode cX5_copyFrom 9 = .ok (.iconst 0, 1) := by decide +kernel
theorem dX5_copyFrom_10 : decode cX5_copyFrom 10 = .ok (.bipush 7, 2) := by decide +kernel
theorem dX5_copyFrom_12 : decode cX5_copyFrom 12 = .ok (.invokestatic 67, 3) := by decide +kernel
theorem dX5_copyFrom_15 : decode cX5_copyFrom 15 = .ok (.iconst 0, 1) := by decide +kernel
theorem dX5_copyFrom_16 : decode cX5_copyFrom 16 = .ok (.istore_n 2, 1) := by decide +kernel
theorem dX5_copyFrom_17 : decode cX5_copyFrom 17 = .ok (.iload_n 2, 1) := by decide +kernel
theorem dX5_copyFrom_18 : decode cX5_copyFrom 18 = .ok (.aload_n 1, 1) := by decide +kernel
theorem dX5_copyFrom_19 : decode cX5_copyFrom 19 = .ok (.getfield 42, 3) := by decide +kernel
theorem dX5_copyFrom_22 : decode cX5_copyFrom 22 = .ok (.if_icmp .ge 24, 3) := by decide +kernel
theorem dX5_copyFrom_25 : decode cX5_copyFrom 25 = .ok (.aload_n 0, 1) := by decide +kernel
theorem dX5_copyFrom_26 : decode cX5_copyFrom 26 = .ok (.getfield 25, 3) := by decide +kernel
theorem dX5_copyFrom_29 : decode cX5_copyFrom 29 = .ok (.iload_n 2, 1) := by decide +kernel
theorem dX5_copyFrom_30 : decode cX5_copyFrom 30 = .ok (.aaload, 1) := by decide +kernel
theorem dX5_copyFrom_31 : decode cX5_copyFrom 31 = .ok (.aload_n 1, 1) := by decide +kernel
theorem dX5_copyFrom_32 : decode cX5_copyFrom 32 = .ok (.getfield 25, 3) := by decide +kernel
theorem dX5_copyFrom_35 : decode cX5_copyFrom 35 = .ok (.iload_n 2, 1) := by decide +kernel
theorem dX5_copyFrom_36 : decode cX5_copyFrom 36 = .ok (.aaload, 1) := by decide +kernel
theorem dX5_copyFrom_37 : decode cX5_copyFrom 37 = .ok (.invokevirtual 73, 3) := by decide +kernel
theorem dX5_copyFrom_40 : decode cX5_copyFrom 40 = .ok (.iinc 2 1, 3) := by decide +kernel
theorem dX5_copyFrom_43 : decode cX5_copyFrom 43 = .ok (.goto (-26), 3) := by decide +kernel
theorem dX5_copyFrom_46 : decode cX5_copyFrom 46 = .ok (.iconst 0, 1) := by decide +kernel
theorem dX5_copyFrom_47 : decode cX5_copyFrom 47 = .ok (.istore_n 2, 1) := by decide +kernel
theorem dX5_copyFrom_48 : decode cX5_copyFrom 48 = .ok (.iload_n 2, 1) := by decide +kernel
theorem dX5_copyFrom_49 : decode cX5_copyFrom 49 = .ok (.aload_n 1, 1) := by decide +kernel
theorem dX5_copyFrom_50 : decode cX5_copyFrom 50 = .ok (.getfield 46, 3) := by decide +kernel
theorem dX5_copyFrom_53 : decode cX5_copyFrom 53 = .ok (.if_icmp .ge 24, 3) := by decide +kernel
theorem dX5_copyFrom_56 : decode cX5_copyFrom 56 = .ok (.aload_n 0, 1) := by decide +kernel
theorem dX5_copyFrom_57 : decode cX5_copyFrom 57 = .ok (.getfield 31, 3) := by decide +kernel
theorem dX5_copyFrom_60 : decode cX5_copyFrom 60 = .ok (.iload_n 2, 1) := by decide +kernel
theorem dX5_copyFrom_61 : decode cX5_copyFrom 61 = .ok (.aaload, 1) := by decide +kernel
theorem dX5_copyFrom_62 : decode cX5_copyFrom 62 = .ok (.aload_n 1, 1) := by decide +kernel
theorem dX5_copyFrom_63 : decode cX5_copyFrom 63 = .ok (.getfield 31, 3) := by decide +kernel
theorem dX5_copyFrom_66 : decode cX5_copyFrom 66 = .ok (.iload_n 2, 1) := by decide +kernel
theorem dX5_copyFrom_67 : decode cX5_copyFrom 67 = .ok (.aaload, 1) := by decide +kernel
theorem dX5_copyFrom_68 : decode cX5_copyFrom 68 = .ok (.invokevirtual 77, 3) := by decide +kernel
theorem dX5_copyFrom_71 : decode cX5_copyFrom 71 = .ok (.iinc 2 1, 3) := by decide +kernel
theorem dX5_copyFrom_74 : decode cX5_copyFrom 74 = .ok (.goto (-26), 3) := by decide +kernel
theorem dX5_copyFrom_77 : decode cX5_copyFrom 77 = .ok (.aload_n 0, 1) := by decide +kernel
theorem dX5_copyFrom_78 : decode cX5_copyFrom 78 = .ok (.getfield 38, 3) := by decide +kernel
theorem dX5_copyFrom_81 : decode cX5_copyFrom 81 = .ok (.aload_n 1, 1) := by decide +kernel
theorem dX5_copyFrom_82 : decode cX5_copyFrom 82 = .ok (.getfield 38, 3) := by decide +kernel
theorem dX5_copyFrom_85 : decode cX5_copyFrom 85 = .ok (.invokevirtual 80, 3) := by decide +kernel
theorem dX5_copyFrom_88 : decode cX5_copyFrom 88 = .ok (.aload_n 0, 1) := by decide +kernel
theorem dX5_copyFrom_89 : decode cX5_copyFrom 89 = .ok (.aload_n 1, 1) := by decide +kernel
theorem dX5_copyFrom_90 : decode cX5_copyFrom 90 = .ok (.getfield 42, 3) := by decide +kernel
theorem dX5_copyFrom_93 : decode cX5_copyFrom 93 = .ok (.putfield 42, 3) := by decide +kernel
theorem dX5_copyFrom_96 : decode cX5_copyFrom 96 = .ok (.aload_n 0, 1) := by decide +kernel
theorem dX5_copyFrom_97 : decode cX5_copyFrom 97 = .ok (.aload_n 1, 1) := by decide +kernel
theorem dX5_copyFrom_98 : decode cX5_copyFrom 98 = .ok (.getfield 46, 3) := by decide +kernel
theorem dX5_copyFrom_101 : decode cX5_copyFrom 101 = .ok (.putfield 46, 3) := by decide +kernel
theorem dX5_copyFrom_104 : decode cX5_copyFrom 104 = .ok (.aload_n 0, 1) := by decide +kernel
theorem dX5_copyFrom_105 : decode cX5_copyFrom 105 = .ok (.aload_n 1, 1) := by decide +kernel
theorem dX5_copyFrom_106 : decode cX5_copyFrom 106 = .ok (.getfield 49, 3) := by decide +kernel
theorem dX5_copyFrom_109 : decode cX5_copyFrom 109 = .ok (.putfield 49, 3) := by decide +kernel
theorem dX5_copyFrom_112 : decode cX5_copyFrom 112 = .ok (.aload_n 0, 1) := by decide +kernel
theorem dX5_copyFrom_113 : decode cX5_copyFrom 113 = .ok (.aload_n 1, 1) := by decide +kernel
theorem dX5_copyFrom_114 : decode cX5_copyFrom 114 = .ok (.getfield 52, 3) := by decide +kernel
theorem dX5_copyFrom_117 : decode cX5_copyFrom 117 = .ok (.putfield 52, 3) := by decide +kernel
theorem dX5_copyFrom_120 : decode cX5_copyFrom 120 = .ok (.aload_n 0, 1) := by decide +kernel
theorem dX5_copyFrom_121 : decode cX5_copyFrom 121 = .ok (.aload_n 1, 1) := by decide +kernel
theorem dX5_copyFrom_122 : decode cX5_copyFrom 122 = .ok (.getfield 56, 3) := by decide +kernel
theorem dX5_copyFrom_125 : decode cX5_copyFrom 125 = .ok (.putfield 56, 3) := by decide +kernel
theorem dX5_copyFrom_128 : decode cX5_copyFrom 128 = .ok (.aload_n 0, 1) := by decide +kernel
theorem dX5_copyFrom_129 : decode cX5_copyFrom 129 = .ok (.aload_n 1, 1) := by decide +kernel
theorem dX5_copyFrom_130 : decode cX5_copyFrom 130 = .ok (.getfield 59, 3) := by decide +kernel
theorem dX5_copyFrom_133 : decode cX5_copyFrom 133 = .ok (.putfield 59, 3) := by decide +kernel
theorem dX5_copyFrom_136 : decode cX5_copyFrom 136 = .ok (.aload_n 0, 1) := by decide +kernel
theorem dX5_copyFrom_137 : decode cX5_copyFrom 137 = .ok (.aload_n 1, 1) := by decide +kernel
theorem dX5_copyFrom_138 : decode cX5_copyFrom 138 = .ok (.getfield 62, 3) := by decide +kernel
theorem dX5_copyFrom_141 : decode cX5_copyFrom 141 = .ok (.putfield 62, 3) := by decide +kernel
theorem dX5_copyFrom_144 : decode cX5_copyFrom 144 = .ok (.return_, 1) := by decide +kernel
theorem dX5_hasBand_0 : decode cX5_hasBand 0 = .ok (.iload_n 1, 1) := by decide +kernel
theorem dX5_hasBand_1 : decode cX5_hasBand 1 = .ok (.ifCond .lt 15, 3) := by decide +kernel
theorem dX5_hasBand_4 : decode cX5_hasBand 4 = .ok (.iload_n 1, 1) := by decide +kernel
theorem dX5_hasBand_5 : decode cX5_hasBand 5 = .ok (.aload_n 0, 1) := by decide +kernel
theorem dX5_hasBand_6 : decode cX5_hasBand 6 = .ok (.getfield 42, 3) := by decide +kernel
theorem dX5_hasBand_9 : decode cX5_hasBand 9 = .ok (.if_icmp .ge 7, 3) := by decide +kernel
theorem dX5_hasBand_12 : decode cX5_hasBand 12 = .ok (.iconst 1, 1) := by decide +kernel
theorem dX5_hasBand_13 : decode cX5_hasBand 13 = .ok (.goto 4, 3) := by decide +kernel
theorem dX5_hasBand_16 : decode cX5_hasBand 16 = .ok (.iconst 0, 1) := by decide +kernel
theorem dX5_hasBand_17 : decode cX5_hasBand 17 = .ok (.ireturn, 1) := by decide +kernel
theorem dX5_hasStake_0 : decode cX5_hasStake 0 = .ok (.iload_n 1, 1) := by decide +kernel
theorem dX5_hasStake_1 : decode cX5_hasStake 1 = .ok (.ifCond .lt 15, 3) := by decide +kernel
theorem dX5_hasStake_4 : decode cX5_hasStake 4 = .ok (.iload_n 1, 1) := by decide +kernel
theorem dX5_hasStake_5 : decode cX5_hasStake 5 = .ok (.aload_n 0, 1) := by decide +kernel
theorem dX5_hasStake_6 : decode cX5_hasStake 6 = .ok (.getfield 46, 3) := by decide +kernel
theorem dX5_hasStake_9 : decode cX5_hasStake 9 = .ok (.if_icmp .ge 7, 3) := by decide +kernel
theorem dX5_hasStake_12 : decode cX5_hasStake 12 = .ok (.iconst 1, 1) := by decide +kernel
theorem dX5_hasStake_13 : decode cX5_hasStake 13 = .ok (.goto 4, 3) := by decide +kernel
theorem dX5_hasStake_16 : decode cX5_hasStake 16 = .ok (.iconst 0, 1) := by decide +kernel
theorem dX5_hasStake_17 : decode cX5_hasStake 17 = .ok (.ireturn, 1) := by decide +kernel
theorem dX5_isBelowAll_0 : decode cX5_isBelowAll 0 = .ok (.aload_n 0, 1) := by decide +kernel
theorem dX5_isBelowAll_1 : decode cX5_isBelowAll 1 = .ok (.getfield 42, 3) := by decide +kernel
theorem dX5_isBelowAll_4 : decode cX5_isBelowAll 4 = .ok (.ifCond .eq 21, 3) := by decide +kernel
theorem dX5_isBelowAll_7 : decode cX5_isBelowAll 7 = .ok (.iload_n 1, 1) := by decide +kernel
theorem dX5_isBelowAll_8 : decode cX5_isBelowAll 8 = .ok (.aload_n 0, 1) := by decide +kernel
theorem dX5_isBelowAll_9 : decode cX5_isBelowAll 9 = .ok (.getfield 25, 3) := by decide +kernel
theorem dX5_isBelowAll_12 : decode cX5_isBelowAll 12 = .ok (.aload_n 0, 1) := by decide +kernel
theorem dX5_isBelowAll_13 : decode cX5_isBelowAll 13 = .ok (.getfield 42, 3) := by decide +kernel
theorem dX5_isBelowAll_16 : decode cX5_isBelowAll 16 = .ok (.iconst 1, 1) := by decide +kernel
theorem dX5_isBelowAll_17 : decode cX5_isBelowAll 17 = .ok (.isub, 1) := by decide +kernel
theorem dX5_isBelowAll_18 : decode cX5_isBelowAll 18 = .ok (.aaload, 1) := by decide +kernel
theorem dX5_isBelowAll_19 : decode cX5_isBelowAll 19 = .ok (.getfield 83, 3) := by decide +kernel
theorem dX5_isBelowAll_22 : decode cX5_isBelowAll 22 = .ok (.if_icmp .ge 7, 3) := by decide +kernel
theorem dX5_isBelowAll_25 : decode cX5_isBelowAll 25 = .ok (.iconst 1, 1) := by decide +kernel
theorem dX5_isBelowAll_26 : decode cX5_isBelowAll 26 = .ok (.goto 4, 3) := by decide +kernel
theorem dX5_isBelowAll_29 : decode cX5_isBelowAll 29 = .ok (.iconst 0, 1) := by decide +kernel
theorem dX5_isBelowAll_30 : decode cX5_isBelowAll 30 = .ok (.ireturn, 1) := by decide +kernel
theorem dX5_addBand_0 : decode cX5_addBand 0 = .ok (.aload_n 0, 1) := by decide +kernel
theorem dX5_addBand_1 : decode cX5_addBand 1 = .ok (.getfield 42, 3) := by decide +kernel
theorem dX5_addBand_4 : decode cX5_addBand 4 = .ok (.istore 5, 2) := by decide +kernel
theorem dX5_addBand_6 : decode cX5_addBand 6 = .ok (.aload_n 0, 1) := by decide +kernel
theorem dX5_addBand_7 : decode cX5_addBand 7 = .ok (.getfield 25, 3) := by decide +kernel
theorem dX5_addBand_10 : decode cX5_addBand 10 = .ok (.iload 5, 2) := by decide +kernel
theorem dX5_addBand_12 : decode cX5_addBand 12 = .ok (.aaload, 1) := by decide +kernel
theorem dX5_addBand_13 : decode cX5_addBand 13 = .ok (.iload_n 1, 1) := by decide +kernel
theorem dX5_addBand_14 : decode cX5_addBand 14 = .ok (.iload_n 2, 1) := by decide +kernel
theorem dX5_addBand_15 : decode cX5_addBand 15 = .ok (.iload_n 3, 1) := by decide +kernel
theorem dX5_addBand_16 : decode cX5_addBand 16 = .ok (.invokevirtual 86, 3) := by decide +kernel
theorem dX5_addBand_19 : decode cX5_addBand 19 = .ok (.aload_n 0, 1) := by decide +kernel
theorem dX5_addBand_20 : decode cX5_addBand 20 = .ok (.getfield 25, 3) := by decide +kernel
theorem dX5_addBand_23 : decode cX5_addBand 23 = .ok (.iload 5, 2) := by decide +kernel
theorem dX5_addBand_25 : decode cX5_addBand 25 = .ok (.aaload, 1) := by decide +kernel
theorem dX5_addBand_26 : decode cX5_addBand 26 = .ok (.getfield 90, 3) := by decide +kernel
theorem dX5_addBand_29 : decode cX5_addBand 29 = .ok (.aload_n 0, 1) := by decide +kernel
theorem dX5_addBand_30 : decode cX5_addBand 30 = .ok (.getfield 49, 3) := by decide +kernel
theorem dX5_addBand_33 : decode cX5_addBand 33 = .ok (.iload 4, 2) := by decide +kernel
theorem dX5_addBand_35 : decode cX5_addBand 35 = .ok (.invokevirtual 94, 3) := by decide +kernel
theorem dX5_addBand_38 : decode cX5_addBand 38 = .ok (.aload_n 0, 1) := by decide +kernel
theorem dX5_addBand_39 : decode cX5_addBand 39 = .ok (.dup, 1) := by decide +kernel
theorem dX5_addBand_40 : decode cX5_addBand 40 = .ok (.getfield 42, 3) := by decide +kernel
theorem dX5_addBand_43 : decode cX5_addBand 43 = .ok (.iconst 1, 1) := by decide +kernel
theorem dX5_addBand_44 : decode cX5_addBand 44 = .ok (.iadd, 1) := by decide +kernel
theorem dX5_addBand_45 : decode cX5_addBand 45 = .ok (.putfield 42, 3) := by decide +kernel
theorem dX5_addBand_48 : decode cX5_addBand 48 = .ok (.aload_n 0, 1) := by decide +kernel
theorem dX5_addBand_49 : decode cX5_addBand 49 = .ok (.dup, 1) := by decide +kernel
theorem dX5_addBand_50 : decode cX5_addBand 50 = .ok (.getfield 52, 3) := by decide +kernel
theorem dX5_addBand_53 : decode cX5_addBand 53 = .ok (.iload 4, 2) := by decide +kernel
theorem dX5_addBand_55 : decode cX5_addBand 55 = .ok (.i2l, 1) := by decide +kernel
theorem dX5_addBand_56 : decode cX5_addBand 56 = .ok (.ladd, 1) := by decide +kernel
theorem dX5_addBand_57 : decode cX5_addBand 57 = .ok (.putfield 52, 3) := by decide +kernel
theorem dX5_addBand_60 : decode cX5_addBand 60 = .ok (.iload 5, 2) := by decide +kernel
theorem dX5_addBand_62 : decode cX5_addBand 62 = .ok (.ireturn, 1) := by decide +kernel
theorem dX5_isStakeAt_0 : decode cX5_isStakeAt 0 = .ok (.iconst 0, 1) := by decide +kernel
theorem dX5_isStakeAt_1 : decode cX5_isStakeAt 1 = .ok (.istore_n 3, 1) := by decide +kernel
theorem dX5_isStakeAt_2 : decode cX5_isStakeAt 2 = .ok (.iload_n 3, 1) := by decide +kernel
theorem dX5_isStakeAt_3 : decode cX5_isStakeAt 3 = .ok (.aload_n 0, 1) := by decide +kernel
theorem dX5_isStakeAt_4 : decode cX5_isStakeAt 4 = .ok (.getfield 46, 3) := by decide +kernel
theorem dX5_isStakeAt_7 : decode cX5_isStakeAt 7 = .ok (.if_icmp .ge 49, 3) := by decide +kernel
theorem dX5_isStakeAt_10 : decode cX5_isStakeAt 10 = .ok (.aload_n 0, 1) := by decide +kernel
theorem dX5_isStakeAt_11 : decode cX5_isStakeAt 11 = .ok (.getfield 31, 3) := by decide +kernel
theorem dX5_isStakeAt_14 : decode cX5_isStakeAt 14 = .ok (.iload_n 3, 1) := by decide +kernel
theorem dX5_isStakeAt_15 : decode cX5_isStakeAt 15 = .ok (.aaload, 1) := by decide +kernel
theorem dX5_isStakeAt_16 : decode cX5_isStakeAt 16 = .ok (.getfield 100, 3) := by decide +kernel
theorem dX5_isStakeAt_19 : decode cX5_isStakeAt 19 = .ok (.ifCond .ne 31, 3) := by decide +kernel
theorem dX5_isStakeAt_22 : decode cX5_isStakeAt 22 = .ok (.aload_n 0, 1) := by decide +kernel
theorem dX5_isStakeAt_23 : decode cX5_isStakeAt 23 = .ok (.getfield 31, 3) := by decide +kernel
theorem dX5_isStakeAt_26 : decode cX5_isStakeAt 26 = .ok (.iload_n 3, 1) := by decide +kernel
theorem dX5_isStakeAt_27 : decode cX5_isStakeAt 27 = .ok (.aaload, 1) := by decide +kernel
theorem dX5_isStakeAt_28 : decode cX5_isStakeAt 28 = .ok (.getfield 103, 3) := by decide +kernel
theorem dX5_isStakeAt_31 : decode cX5_isStakeAt 31 = .ok (.iload_n 1, 1) := by decide +kernel
theorem dX5_isStakeAt_32 : decode cX5_isStakeAt 32 = .ok (.if_icmp .ne 18, 3) := by decide +kernel
theorem dX5_isStakeAt_35 : decode cX5_isStakeAt 35 = .ok (.aload_n 0, 1) := by decide +kernel
theorem dX5_isStakeAt_36 : decode cX5_isStakeAt 36 = .ok (.getfield 31, 3) := by decide +kernel
theorem dX5_isStakeAt_39 : decode cX5_isStakeAt 39 = .ok (.iload_n 3, 1) := by decide +kernel
theorem dX5_isStakeAt_40 : decode cX5_isStakeAt 40 = .ok (.aaload, 1) := by decide +kernel
theorem dX5_isStakeAt_41 : decode cX5_isStakeAt 41 = .ok (.getfield 106, 3) := by decide +kernel
theorem dX5_isStakeAt_44 : decode cX5_isStakeAt 44 = .ok (.iload_n 2, 1) := by decide +kernel
theorem dX5_isStakeAt_45 : decode cX5_isStakeAt 45 = .ok (.if_icmp .ne 5, 3) := by decide +kernel
theorem dX5_isStakeAt_48 : decode cX5_isStakeAt 48 = .ok (.iconst 1, 1) := by decide +kernel
theorem dX5_isStakeAt_49 : decode cX5_isStakeAt 49 = .ok (.ireturn, 1) := by decide +kernel
theorem dX5_isStakeAt_50 : decode cX5_isStakeAt 50 = .ok (.iinc 3 1, 3) := by decide +kernel
theorem dX5_isStakeAt_53 : decode cX5_isStakeAt 53 = .ok (.goto (-51), 3) := by decide +kernel
theorem dX5_isStakeAt_56 : decode cX5_isStakeAt 56 = .ok (.iconst 0, 1) := by decide +kernel
theorem dX5_isStakeAt_57 : decode cX5_isStakeAt 57 = .ok (.ireturn, 1) := by decide +kernel
theorem dX5_addStake_0 : decode cX5_addStake 0 = .ok (.aload_n 0, 1) := by decide +kernel
theorem dX5_addStake_1 : decode cX5_addStake 1 = .ok (.getfield 46, 3) := by decide +kernel
theorem dX5_addStake_4 : decode cX5_addStake 4 = .ok (.istore 4, 2) := by decide +kernel
theorem dX5_addStake_6 : decode cX5_addStake 6 = .ok (.aload_n 0, 1) := by decide +kernel
theorem dX5_addStake_7 : decode cX5_addStake 7 = .ok (.getfield 31, 3) := by decide +kernel
theorem dX5_addStake_10 : decode cX5_addStake 10 = .ok (.iload 4, 2) := by decide +kernel
theorem dX5_addStake_12 : decode cX5_addStake 12 = .ok (.aaload, 1) := by decide +kernel
theorem dX5_addStake_13 : decode cX5_addStake 13 = .ok (.iload_n 1, 1) := by decide +kernel
theorem dX5_addStake_14 : decode cX5_addStake 14 = .ok (.iload_n 2, 1) := by decide +kernel
theorem dX5_addStake_15 : decode cX5_addStake 15 = .ok (.iload_n 3, 1) := by decide +kernel
theorem dX5_addStake_16 : decode cX5_addStake 16 = .ok (.invokevirtual 109, 3) := by decide +kernel
theorem dX5_addStake_19 : decode cX5_addStake 19 = .ok (.aload_n 0, 1) := by decide +kernel
theorem dX5_addStake_20 : decode cX5_addStake 20 = .ok (.dup, 1) := by decide +kernel
theorem dX5_addStake_21 : decode cX5_addStake 21 = .ok (.getfield 46, 3) := by decide +kernel
theorem dX5_addStake_24 : decode cX5_addStake 24 = .ok (.iconst 1, 1) := by decide +kernel
theorem dX5_addStake_25 : decode cX5_addStake 25 = .ok (.iadd, 1) := by decide +kernel
theorem dX5_addStake_26 : decode cX5_addStake 26 = .ok (.putfield 46, 3) := by decide +kernel
theorem dX5_addStake_29 : decode cX5_addStake 29 = .ok (.iload 4, 2) := by decide +kernel
theorem dX5_addStake_31 : decode cX5_addStake 31 = .ok (.ireturn, 1) := by decide +kernel
theorem dX5_removeStake_0 : decode cX5_removeStake 0 = .ok (.aload_n 0, 1) := by decide +kernel
theorem dX5_removeStake_1 : decode cX5_removeStake 1 = .ok (.getfield 31, 3) := by decide +kernel
theorem dX5_removeStake_4 : decode cX5_removeStake 4 = .ok (.iload_n 1, 1) := by decide +kernel
theorem dX5_removeStake_5 : decode cX5_removeStake 5 = .ok (.aaload, 1) := by decide +kernel
theorem dX5_removeStake_6 : decode cX5_removeStake 6 = .ok (.astore_n 2, 1) := by decide +kernel
theorem dX5_removeStake_7 : decode cX5_removeStake 7 = .ok (.iload_n 1, 1) := by decide +kernel
theorem dX5_removeStake_8 : decode cX5_removeStake 8 = .ok (.istore_n 3, 1) := by decide +kernel
theorem dX5_removeStake_9 : decode cX5_removeStake 9 = .ok (.iload_n 3, 1) := by decide +kernel
theorem dX5_removeStake_10 : decode cX5_removeStake 10 = .ok (.iconst 1, 1) := by decide +kernel
theorem dX5_removeStake_11 : decode cX5_removeStake 11 = .ok (.iadd, 1) := by decide +kernel
theorem dX5_removeStake_12 : decode cX5_removeStake 12 = .ok (.aload_n 0, 1) := by decide +kernel
theorem dX5_removeStake_13 : decode cX5_removeStake 13 = .ok (.getfield 46, 3) := by decide +kernel
theorem dX5_removeStake_16 : decode cX5_removeStake 16 = .ok (.if_icmp .ge 23, 3) := by decide +kernel
theorem dX5_removeStake_19 : decode cX5_removeStake 19 = .ok (.aload_n 0, 1) := by decide +kernel
theorem dX5_removeStake_20 : decode cX5_removeStake 20 = .ok (.getfield 31, 3) := by decide +kernel
theorem dX5_removeStake_23 : decode cX5_removeStake 23 = .ok (.iload_n 3, 1) := by decide +kernel
theorem dX5_removeStake_24 : decode cX5_removeStake 24 = .ok (.aload_n 0, 1) := by decide +kernel
theorem dX5_removeStake_25 : decode cX5_removeStake 25 = .ok (.getfield 31, 3) := by decide +kernel
theorem dX5_removeStake_28 : decode cX5_removeStake 28 = .ok (.iload_n 3, 1) := by decide +kernel
theorem dX5_removeStake_29 : decode cX5_removeStake 29 = .ok (.iconst 1, 1) := by decide +kernel
theorem dX5_removeStake_30 : decode cX5_removeStake 30 = .ok (.iadd, 1) := by decide +kernel
theorem dX5_removeStake_31 : decode cX5_removeStake 31 = .ok (.aaload, 1) := by decide +kernel
theorem dX5_removeStake_32 : decode cX5_removeStake 32 = .ok (.aastore, 1) := by decide +kernel
theorem dX5_removeStake_33 : decode cX5_removeStake 33 = .ok (.iinc 3 1, 3) := by decide +kernel
theorem dX5_removeStake_36 : decode cX5_removeStake 36 = .ok (.goto (-27), 3) := by decide +kernel
theorem dX5_removeStake_39 : decode cX5_removeStake 39 = .ok (.aload_n 0, 1) := by decide +kernel
theorem dX5_removeStake_40 : decode cX5_removeStake 40 = .ok (.dup, 1) := by decide +kernel
theorem dX5_removeStake_41 : decode cX5_removeStake 41 = .ok (.getfield 46, 3) := by decide +kernel
theorem dX5_removeStake_44 : decode cX5_removeStake 44 = .ok (.iconst 1, 1) := by decide +kernel
theorem dX5_removeStake_45 : decode cX5_removeStake 45 = .ok (.isub, 1) := by decide +kernel
theorem dX5_removeStake_46 : decode cX5_removeStake 46 = .ok (.putfield 46, 3) := by decide +kernel
theorem dX5_removeStake_49 : decode cX5_removeStake 49 = .ok (.aload_n 0, 1) := by decide +kernel
theorem dX5_removeStake_50 : decode cX5_removeStake 50 = .ok (.getfield 31, 3) := by decide +kernel
theorem dX5_removeStake_53 : decode cX5_removeStake 53 = .ok (.aload_n 0, 1) := by decide +kernel
theorem dX5_removeStake_54 : decode cX5_removeStake 54 = .ok (.getfield 46, 3) := by decide +kernel
theorem dX5_removeStake_57 : decode cX5_removeStake 57 = .ok (.aload_n 2, 1) := by decide +kernel
theorem dX5_removeStake_58 : decode cX5_removeStake 58 = .ok (.aastore, 1) := by decide +kernel
theorem dX5_removeStake_59 : decode cX5_removeStake 59 = .ok (.aload_n 2, 1) := by decide +kernel
theorem dX5_removeStake_60 : decode cX5_removeStake 60 = .ok (.getfield 110, 3) := by decide +kernel
theorem dX5_removeStake_63 : decode cX5_removeStake 63 = .ok (.ireturn, 1) := by decide +kernel
theorem dX5_standingStakes_0 : decode cX5_standingStakes 0 = .ok (.iconst 0, 1) := by decide +kernel
theorem dX5_standingStakes_1 : decode cX5_standingStakes 1 = .ok (.istore_n 1, 1) := by decide +kernel
theorem dX5_standingStakes_2 : decode cX5_standingStakes 2 = .ok (.iconst 0, 1) := by decide +kernel
theorem dX5_standingStakes_3 : decode cX5_standingStakes 3 = .ok (.istore_n 2, 1) := by decide +kernel
theorem dX5_standingStakes_4 : decode cX5_standingStakes 4 = .ok (.iload_n 2, 1) := by decide +kernel
theorem dX5_standingStakes_5 : decode cX5_standingStakes 5 = .ok (.aload_n 0, 1) := by decide +kernel
theorem dX5_standingStakes_6 : decode cX5_standingStakes 6 = .ok (.getfield 46, 3) := by decide +kernel
theorem dX5_standingStakes_9 : decode cX5_standingStakes 9 = .ok (.if_icmp .ge 24, 3) := by decide +kernel
theorem dX5_standingStakes_12 : decode cX5_standingStakes 12 = .ok (.aload_n 0, 1) := by decide +kernel
theorem dX5_standingStakes_13 : decode cX5_standingStakes 13 = .ok (.getfield 31, 3) := by decide +kernel
theorem dX5_standingStakes_16 : decode cX5_standingStakes 16 = .ok (.iload_n 2, 1) := by decide +kernel
theorem dX5_standingStakes_17 : decode cX5_standingStakes 17 = .ok (.aaload, 1) := by decide +kernel
theorem dX5_standingStakes_18 : decode cX5_standingStakes 18 = .ok (.getfield 100, 3) := by decide +kernel
theorem dX5_standingStakes_21 : decode cX5_standingStakes 21 = .ok (.ifCond .ne 6, 3) := by decide +kernel
theorem dX5_standingStakes_24 : decode cX5_standingStakes 24 = .ok (.iinc 1 1, 3) := by decide +kernel
theorem dX5_standingStakes_27 : decode cX5_standingStakes 27 = .ok (.iinc 2 1, 3) := by decide +kernel
theorem dX5_standingStakes_30 : decode cX5_standingStakes 30 = .ok (.goto (-26), 3) := by decide +kernel
theorem dX5_standingStakes_33 : decode cX5_standingStakes 33 = .ok (.iload_n 1, 1) := by decide +kernel
theorem dX5_standingStakes_34 : decode cX5_standingStakes 34 = .ok (.ireturn, 1) := by decide +kernel
theorem dX5_snowAt_0 : decode cX5_snowAt 0 = .ok (.aload_n 0, 1) := by decide +kernel
theorem dX5_snowAt_1 : decode cX5_snowAt 1 = .ok (.getfield 18, 3) := by decide +kernel
theorem dX5_snowAt_4 : decode cX5_snowAt 4 = .ok (.iconst 1, 1) := by decide +kernel
theorem dX5_snowAt_5 : decode cX5_snowAt 5 = .ok (.iaload, 1) := by decide +kernel
theorem dX5_snowAt_6 : decode cX5_snowAt 6 = .ok (.iload_n 1, 1) := by decide +kernel
theorem dX5_snowAt_7 : decode cX5_snowAt 7 = .ok (.aload_n 0, 1) := by decide +kernel
theorem dX5_snowAt_8 : decode cX5_snowAt 8 = .ok (.getfield 18, 3) := by decide +kernel
theorem dX5_snowAt_11 : decode cX5_snowAt 11 = .ok (.iconst 4, 1) := by decide +kernel
theorem dX5_snowAt_12 : decode cX5_snowAt 12 = .ok (.iaload, 1) := by decide +kernel
theorem dX5_snowAt_13 : decode cX5_snowAt 13 = .ok (.isub, 1) := by decide +kernel
theorem dX5_snowAt_14 : decode cX5_snowAt 14 = .ok (.imul, 1) := by decide +kernel
theorem dX5_snowAt_15 : decode cX5_snowAt 15 = .ok (.bipush 100, 2) := by decide +kernel
theorem dX5_snowAt_17 : decode cX5_snowAt 17 = .ok (.invokestatic 113, 3) := by decide +kernel
theorem dX5_snowAt_20 : decode cX5_snowAt 20 = .ok (.istore_n 2, 1) := by decide +kernel
theorem dX5_snowAt_21 : decode cX5_snowAt 21 = .ok (.iconst 0, 1) := by decide +kernel
theorem dX5_snowAt_22 : decode cX5_snowAt 22 = .ok (.aload_n 0, 1) := by decide +kernel
theorem dX5_snowAt_23 : decode cX5_snowAt 23 = .ok (.getfield 18, 3) := by decide +kernel
theorem dX5_snowAt_26 : decode cX5_snowAt 26 = .ok (.iconst 0, 1) := by decide +kernel
theorem dX5_snowAt_27 : decode cX5_snowAt 27 = .ok (.iaload, 1) := by decide +kernel
theorem dX5_snowAt_28 : decode cX5_snowAt 28 = .ok (.iload_n 2, 1) := by decide +kernel
theorem dX5_snowAt_29 : decode cX5_snowAt 29 = .ok (.iadd, 1) := by decide +kernel
theorem dX5_snowAt_30 : decode cX5_snowAt 30 = .ok (.invokestatic 119, 3) := by decide +kernel
theorem dX5_snowAt_33 : decode cX5_snowAt 33 = .ok (.ireturn, 1) := by decide +kernel
theorem dX5_meltAt_0 : decode cX5_meltAt 0 = .ok (.aload_n 0, 1) := by decide +kernel
theorem dX5_meltAt_1 : decode cX5_meltAt 1 = .ok (.getfield 18, 3) := by decide +kernel
theorem dX5_meltAt_4 : decode cX5_meltAt 4 = .ok (.iconst 3, 1) := by decide +kernel
theorem dX5_meltAt_5 : decode cX5_meltAt 5 = .ok (.iaload, 1) := by decide +kernel
theorem dX5_meltAt_6 : decode cX5_meltAt 6 = .ok (.iload_n 1, 1) := by decide +kernel
theorem dX5_meltAt_7 : decode cX5_meltAt 7 = .ok (.aload_n 0, 1) := by decide +kernel
theorem dX5_meltAt_8 : decode cX5_meltAt 8 = .ok (.getfield 18, 3) := by decide +kernel
theorem dX5_meltAt_11 : decode cX5_meltAt 11 = .ok (.iconst 4, 1) := by decide +kernel
theorem dX5_meltAt_12 : decode cX5_meltAt 12 = .ok (.iaload, 1) := by decide +kernel
theorem dX5_meltAt_13 : decode cX5_meltAt 13 = .ok (.isub, 1) := by decide +kernel
theorem dX5_meltAt_14 : decode cX5_meltAt 14 = .ok (.imul, 1) := by decide +kernel
theorem dX5_meltAt_15 : decode cX5_meltAt 15 = .ok (.bipush 100, 2) := by decide +kernel
theorem dX5_meltAt_17 : decode cX5_meltAt 17 = .ok (.invokestatic 113, 3) := by decide +kernel
theorem dX5_meltAt_20 : decode cX5_meltAt 20 = .ok (.istore_n 3, 1) := by decide +kernel
theorem dX5_meltAt_21 : decode cX5_meltAt 21 = .ok (.iconst 0, 1) := by decide +kernel
theorem dX5_meltAt_22 : decode cX5_meltAt 22 = .ok (.iload_n 2, 1) := by decide +kernel
theorem dX5_meltAt_23 : decode cX5_meltAt 23 = .ok (.iload_n 3, 1) := by decide +kernel
theorem dX5_meltAt_24 : decode cX5_meltAt 24 = .ok (.isub, 1) := by decide +kernel
theorem dX5_meltAt_25 : decode cX5_meltAt 25 = .ok (.invokestatic 119, 3) := by decide +kernel
theorem dX5_meltAt_28 : decode cX5_meltAt 28 = .ok (.ireturn, 1) := by decide +kernel
theorem dX5_snowOutweighsMelt_0 : decode cX5_snowOutweighsMelt 0 = .ok (.iconst 0, 1) := by decide +kernel
theorem dX5_snowOutweighsMelt_1 : decode cX5_snowOutweighsMelt 1 = .ok (.istore_n 2, 1) := by decide +kernel
theorem dX5_snowOutweighsMelt_2 : decode cX5_snowOutweighsMelt 2 = .ok (.iconst 0, 1) := by decide +kernel
theorem dX5_snowOutweighsMelt_3 : decode cX5_snowOutweighsMelt 3 = .ok (.istore_n 3, 1) := by decide +kernel
theorem dX5_snowOutweighsMelt_4 : decode cX5_snowOutweighsMelt 4 = .ok (.iload_n 3, 1) := by decide +kernel
theorem dX5_snowOutweighsMelt_5 : decode cX5_snowOutweighsMelt 5 = .ok (.aload_n 0, 1) := by decide +kernel
theorem dX5_snowOutweighsMelt_6 : decode cX5_snowOutweighsMelt 6 = .ok (.getfield 42, 3) := by decide +kernel
theorem dX5_snowOutweighsMelt_9 : decode cX5_snowOutweighsMelt 9 = .ok (.if_icmp .ge 40, 3) := by decide +kernel
theorem dX5_snowOutweighsMelt_12 : decode cX5_snowOutweighsMelt 12 = .ok (.iload_n 2, 1) := by decide +kernel
theorem dX5_snowOutweighsMelt_13 : decode cX5_snowOutweighsMelt 13 = .ok (.aload_n 0, 1) := by decide +kernel
theorem dX5_snowOutweighsMelt_14 : decode cX5_snowOutweighsMelt 14 = .ok (.aload_n 0, 1) := by decide +kernel
theorem dX5_snowOutweighsMelt_15 : decode cX5_snowOutweighsMelt 15 = .ok (.getfield 25, 3) := by decide +kernel
theorem dX5_snowOutweighsMelt_18 : decode cX5_snowOutweighsMelt 18 = .ok (.iload_n 3, 1) := by decide +kernel
theorem dX5_snowOutweighsMelt_19 : decode cX5_snowOutweighsMelt 19 = .ok (.aaload, 1) := by decide +kernel
theorem dX5_snowOutweighsMelt_20 : decode cX5_snowOutweighsMelt 20 = .ok (.getfield 83, 3) := by decide +kernel
theorem dX5_snowOutweighsMelt_23 : decode cX5_snowOutweighsMelt 23 = .ok (.invokevirtual 122, 3) := by decide +kernel
theorem dX5_snowOutweighsMelt_26 : decode cX5_snowOutweighsMelt 26 = .ok (.aload_n 0, 1) := by decide +kernel
theorem dX5_snowOutweighsMelt_27 : decode cX5_snowOutweighsMelt 27 = .ok (.aload_n 0, 1) := by decide +kernel
theorem dX5_snowOutweighsMelt_28 : decode cX5_snowOutweighsMelt 28 = .ok (.getfield 25, 3) := by decide +kernel
theorem dX5_snowOutweighsMelt_31 : decode cX5_snowOutweighsMelt 31 = .ok (.iload_n 3, 1) := by decide +kernel
theorem dX5_snowOutweighsMelt_32 : decode cX5_snowOutweighsMelt 32 = .ok (.aaload, 1) := by decide +kernel
theorem dX5_snowOutweighsMelt_33 : decode cX5_snowOutweighsMelt 33 = .ok (.getfield 83, 3) := by decide +kernel
theorem dX5_snowOutweighsMelt_36 : decode cX5_snowOutweighsMelt 36 = .ok (.iload_n 1, 1) := by decide +kernel
theorem dX5_snowOutweighsMelt_37 : decode cX5_snowOutweighsMelt 37 = .ok (.invokevirtual 126, 3) := by decide +kernel
theorem dX5_snowOutweighsMelt_40 : decode cX5_snowOutweighsMelt 40 = .ok (.isub, 1) := by decide +kernel
theorem dX5_snowOutweighsMelt_41 : decode cX5_snowOutweighsMelt 41 = .ok (.iadd, 1) := by decide +kernel
theorem dX5_snowOutweighsMelt_42 : decode cX5_snowOutweighsMelt 42 = .ok (.istore_n 2, 1) := by decide +kernel
theorem dX5_snowOutweighsMelt_43 : decode cX5_snowOutweighsMelt 43 = .ok (.iinc 3 1, 3) := by decide +kernel
theorem dX5_snowOutweighsMelt_46 : decode cX5_snowOutweighsMelt 46 = .ok (.goto (-42), 3) := by decide +kernel
theorem dX5_snowOutweighsMelt_49 : decode cX5_snowOutweighsMelt 49 = .ok (.iload_n 2, 1) := by decide +kernel
theorem dX5_snowOutweighsMelt_50 : decode cX5_snowOutweighsMelt 50 = .ok (.ifCond .lt 7, 3) := by decide +kernel
theorem dX5_snowOutweighsMelt_53 : decode cX5_snowOutweighsMelt 53 = .ok (.iconst 1, 1) := by decide +kernel
theorem dX5_snowOutweighsMelt_54 : decode cX5_snowOutweighsMelt 54 = .ok (.goto 4, 3) := by decide +kernel
theorem dX5_snowOutweighsMelt_57 : decode cX5_snowOutweighsMelt 57 = .ok (.iconst 0, 1) := by decide +kernel
theorem dX5_snowOutweighsMelt_58 : decode cX5_snowOutweighsMelt 58 = .ok (.ireturn, 1) := by decide +kernel
theorem dX5_leftOf_0 : decode cX5_leftOf 0 = .ok (.iconst 0, 1) := by decide +kernel
theorem dX5_leftOf_1 : decode cX5_leftOf 1 = .ok (.istore_n 2, 1) := by decide +kernel
theorem dX5_leftOf_2 : decode cX5_leftOf 2 = .ok (.iconst 0, 1) := by decide +kernel
theorem dX5_leftOf_3 : decode cX5_leftOf 3 = .ok (.istore_n 3, 1) := by decide +kernel
theorem dX5_leftOf_4 : decode cX5_leftOf 4 = .ok (.iload_n 3, 1) := by decide +kernel
theorem dX5_leftOf_5 : decode cX5_leftOf 5 = .ok (.aload_n 0, 1) := by decide +kernel
theorem dX5_leftOf_6 : decode cX5_leftOf 6 = .ok (.getfield 42, 3) := by decide +kernel
theorem dX5_leftOf_9 : decode cX5_leftOf 9 = .ok (.if_icmp .ge 25, 3) := by decide +kernel
theorem dX5_leftOf_12 : decode cX5_leftOf 12 = .ok (.iload_n 2, 1) := by decide +kernel
theorem dX5_leftOf_13 : decode cX5_leftOf 13 = .ok (.aload_n 0, 1) := by decide +kernel
theorem dX5_leftOf_14 : decode cX5_leftOf 14 = .ok (.getfield 25, 3) := by decide +kernel
theorem dX5_leftOf_17 : decode cX5_leftOf 17 = .ok (.iload_n 3, 1) := by decide +kernel
theorem dX5_leftOf_18 : decode cX5_leftOf 18 = .ok (.aaload, 1) := by decide +kernel
theorem dX5_leftOf_19 : decode cX5_leftOf 19 = .ok (.getfield 90, 3) := by decide +kernel
theorem dX5_leftOf_22 : decode cX5_leftOf 22 = .ok (.iload_n 1, 1) := by decide +kernel
theorem dX5_leftOf_23 : decode cX5_leftOf 23 = .ok (.invokevirtual 129, 3) := by decide +kernel
theorem dX5_leftOf_26 : decode cX5_leftOf 26 = .ok (.iadd, 1) := by decide +kernel
theorem dX5_leftOf_27 : decode cX5_leftOf 27 = .ok (.istore_n 2, 1) := by decide +kernel
theorem dX5_leftOf_28 : decode cX5_leftOf 28 = .ok (.iinc 3 1, 3) := by decide +kernel
theorem dX5_leftOf_31 : decode cX5_leftOf 31 = .ok (.goto (-27), 3) := by decide +kernel
theorem dX5_leftOf_34 : decode cX5_leftOf 34 = .ok (.iload_n 2, 1) := by decide +kernel
theorem dX5_leftOf_35 : decode cX5_leftOf 35 = .ok (.ireturn, 1) := by decide +kernel
theorem dX5_bandIce_0 : decode cX5_bandIce 0 = .ok (.iconst 0, 1) := by decide +kernel
theorem dX5_bandIce_1 : decode cX5_bandIce 1 = .ok (.istore_n 1, 1) := by decide +kernel
theorem dX5_bandIce_2 : decode cX5_bandIce 2 = .ok (.iconst 0, 1) := by decide +kernel
theorem dX5_bandIce_3 : decode cX5_bandIce 3 = .ok (.istore_n 2, 1) := by decide +kernel
theorem dX5_bandIce_4 : decode cX5_bandIce 4 = .ok (.iload_n 2, 1) := by decide +kernel
theorem dX5_bandIce_5 : decode cX5_bandIce 5 = .ok (.aload_n 0, 1) := by decide +kernel
theorem dX5_bandIce_6 : decode cX5_bandIce 6 = .ok (.getfield 42, 3) := by decide +kernel
theorem dX5_bandIce_9 : decode cX5_bandIce 9 = .ok (.if_icmp .ge 24, 3) := by decide +kernel
theorem dX5_bandIce_12 : decode cX5_bandIce 12 = .ok (.iload_n 1, 1) := by decide +kernel
theorem dX5_bandIce_13 : decode cX5_bandIce 13 = .ok (.aload_n 0, 1) := by decide +kernel
theorem dX5_bandIce_14 : decode cX5_bandIce 14 = .ok (.getfield 25, 3) := by decide +kernel
theorem dX5_bandIce_17 : decode cX5_bandIce 17 = .ok (.iload_n 2, 1) := by decide +kernel
theorem dX5_bandIce_18 : decode cX5_bandIce 18 = .ok (.aaload, 1) := by decide +kernel
theorem dX5_bandIce_19 : decode cX5_bandIce 19 = .ok (.getfield 90, 3) := by decide +kernel
theorem dX5_bandIce_22 : decode cX5_bandIce 22 = .ok (.getfield 132, 3) := by decide +kernel
theorem dX5_bandIce_25 : decode cX5_bandIce 25 = .ok (.iadd, 1) := by decide +kernel
theorem dX5_bandIce_26 : decode cX5_bandIce 26 = .ok (.istore_n 1, 1) := by decide +kernel
theorem dX5_bandIce_27 : decode cX5_bandIce 27 = .ok (.iinc 2 1, 3) := by decide +kernel
theorem dX5_bandIce_30 : decode cX5_bandIce 30 = .ok (.goto (-26), 3) := by decide +kernel
theorem dX5_bandIce_33 : decode cX5_bandIce 33 = .ok (.iload_n 1, 1) := by decide +kernel
theorem dX5_bandIce_34 : decode cX5_bandIce 34 = .ok (.ireturn, 1) := by decide +kernel
theorem dX5_allIce_0 : decode cX5_allIce 0 = .ok (.aload_n 0, 1) := by decide +kernel
theorem dX5_allIce_1 : decode cX5_allIce 1 = .ok (.invokevirtual 135, 3) := by decide +kernel
theorem dX5_allIce_4 : decode cX5_allIce 4 = .ok (.i2l, 1) := by decide +kernel
theorem dX5_allIce_5 : decode cX5_allIce 5 = .ok (.aload_n 0, 1) := by decide +kernel
theorem dX5_allIce_6 : decode cX5_allIce 6 = .ok (.getfield 38, 3) := by decide +kernel
theorem dX5_allIce_9 : decode cX5_allIce 9 = .ok (.getfield 139, 3) := by decide +kernel
theorem dX5_allIce_12 : decode cX5_allIce 12 = .ok (.i2l, 1) := by decide +kernel
theorem dX5_allIce_13 : decode cX5_allIce 13 = .ok (.ladd, 1) := by decide +kernel
theorem dX5_allIce_14 : decode cX5_allIce 14 = .ok (.lreturn, 1) := by decide +kernel
theorem dX5_allIceByYears_0 : decode cX5_allIceByYears 0 = .ok (.aload_n 0, 1) := by decide +kernel
theorem dX5_allIceByYears_1 : decode cX5_allIceByYears 1 = .ok (.getfield 38, 3) := by decide +kernel
theorem dX5_allIceByYears_4 : decode cX5_allIceByYears 4 = .ok (.getfield 139, 3) := by decide +kernel
theorem dX5_allIceByYears_7 : decode cX5_allIceByYears 7 = .ok (.i2l, 1) := by decide +kernel
theorem dX5_allIceByYears_8 : decode cX5_allIceByYears 8 = .ok (.lstore_n 1, 1) := by decide +kernel
theorem dX5_allIceByYears_9 : decode cX5_allIceByYears 9 = .ok (.iconst 0, 1) := by decide +kernel
theorem dX5_allIceByYears_10 : decode cX5_allIceByYears 10 = .ok (.istore_n 3, 1) := by decide +kernel
theorem dX5_allIceByYears_11 : decode cX5_allIceByYears 11 = .ok (.iload_n 3, 1) := by decide +kernel
theorem dX5_allIceByYears_12 : decode cX5_allIceByYears 12 = .ok (.aload_n 0, 1) := by decide +kernel
theorem dX5_allIceByYears_13 : decode cX5_allIceByYears 13 = .ok (.getfield 49, 3) := by decide +kernel
theorem dX5_allIceByYears_16 : decode cX5_allIceByYears 16 = .ok (.if_icmp .gt 18, 3) := by decide +kernel
theorem dX5_allIceByYears_19 : decode cX5_allIceByYears 19 = .ok (.lload_n 1, 1) := by decide +kernel
theorem dX5_allIceByYears_20 : decode cX5_allIceByYears 20 = .ok (.aload_n 0, 1) := by decide +kernel
theorem dX5_allIceByYears_21 : decode cX5_allIceByYears 21 = .ok (.iload_n 3, 1) := by decide +kernel
theorem dX5_allIceByYears_22 : decode cX5_allIceByYears 22 = .ok (.invokevirtual 140, 3) := by decide +kernel
theorem dX5_allIceByYears_25 : decode cX5_allIceByYears 25 = .ok (.i2l, 1) := by decide +kernel
theorem dX5_allIceByYears_26 : decode cX5_allIceByYears 26 = .ok (.ladd, 1) := by decide +kernel
theorem dX5_allIceByYears_27 : decode cX5_allIceByYears 27 = .ok (.lstore_n 1, 1) := by decide +kernel
theorem dX5_allIceByYears_28 : decode cX5_allIceByYears 28 = .ok (.iinc 3 1, 3) := by decide +kernel
theorem dX5_allIceByYears_31 : decode cX5_allIceByYears 31 = .ok (.goto (-20), 3) := by decide +kernel
theorem dX5_allIceByYears_34 : decode cX5_allIceByYears 34 = .ok (.lload_n 1, 1) := by decide +kernel
theorem dX5_allIceByYears_35 : decode cX5_allIceByYears 35 = .ok (.lreturn, 1) := by decide +kernel
theorem dX5_layersOfAllBands_0 : decode cX5_layersOfAllBands 0 = .ok (.iconst 0, 1) := by decide +kernel
theorem dX5_layersOfAllBands_1 : decode cX5_layersOfAllBands 1 = .ok (.istore_n 1, 1) := by decide +kernel
theorem dX5_layersOfAllBands_2 : decode cX5_layersOfAllBands 2 = .ok (.iconst 0, 1) := by decide +kernel
theorem dX5_layersOfAllBands_3 : decode cX5_layersOfAllBands 3 = .ok (.istore_n 2, 1) := by decide +kernel
theorem dX5_layersOfAllBands_4 : decode cX5_layersOfAllBands 4 = .ok (.iload_n 2, 1) := by decide +kernel
theorem dX5_layersOfAllBands_5 : decode cX5_layersOfAllBands 5 = .ok (.aload_n 0, 1) := by decide +kernel
theorem dX5_layersOfAllBands_6 : decode cX5_layersOfAllBands 6 = .ok (.getfield 42, 3) := by decide +kernel
theorem dX5_layersOfAllBands_9 : decode cX5_layersOfAllBands 9 = .ok (.if_icmp .ge 24, 3) := by decide +kernel
theorem dX5_layersOfAllBands_12 : decode cX5_layersOfAllBands 12 = .ok (.iload_n 1, 1) := by decide +kernel
theorem dX5_layersOfAllBands_13 : decode cX5_layersOfAllBands 13 = .ok (.aload_n 0, 1) := by decide +kernel
theorem dX5_layersOfAllBands_14 : decode cX5_layersOfAllBands 14 = .ok (.getfield 25, 3) := by decide +kernel
theorem dX5_layersOfAllBands_17 : decode cX5_layersOfAllBands 17 = .ok (.iload_n 2, 1) := by decide +kernel
theorem dX5_layersOfAllBands_18 : decode cX5_layersOfAllBands 18 = .ok (.aaload, 1) := by decide +kernel
theorem dX5_layersOfAllBands_19 : decode cX5_layersOfAllBands 19 = .ok (.getfield 90, 3) := by decide +kernel
theorem dX5_layersOfAllBands_22 : decode cX5_layersOfAllBands 22 = .ok (.invokevirtual 141, 3) := by decide +kernel
theorem dX5_layersOfAllBands_25 : decode cX5_layersOfAllBands 25 = .ok (.iadd, 1) := by decide +kernel
theorem dX5_layersOfAllBands_26 : decode cX5_layersOfAllBands 26 = .ok (.istore_n 1, 1) := by decide +kernel
theorem dX5_layersOfAllBands_27 : decode cX5_layersOfAllBands 27 = .ok (.iinc 2 1, 3) := by decide +kernel
theorem dX5_layersOfAllBands_30 : decode cX5_layersOfAllBands 30 = .ok (.goto (-26), 3) := by decide +kernel
theorem dX5_layersOfAllBands_33 : decode cX5_layersOfAllBands 33 = .ok (.iload_n 1, 1) := by decide +kernel
theorem dX5_layersOfAllBands_34 : decode cX5_layersOfAllBands 34 = .ok (.ireturn, 1) := by decide +kernel
theorem dX5_differentYears_0 : decode cX5_differentYears 0 = .ok (.iconst 0, 1) := by decide +kernel
theorem dX5_differentYears_1 : decode cX5_differentYears 1 = .ok (.istore_n 1, 1) := by decide +kernel
theorem dX5_differentYears_2 : decode cX5_differentYears 2 = .ok (.iconst 0, 1) := by decide +kernel
theorem dX5_differentYears_3 : decode cX5_differentYears 3 = .ok (.istore_n 2, 1) := by decide +kernel
theorem dX5_differentYears_4 : decode cX5_differentYears 4 = .ok (.iload_n 2, 1) := by decide +kernel
theorem dX5_differentYears_5 : decode cX5_differentYears 5 = .ok (.aload_n 0, 1) := by decide +kernel
theorem dX5_differentYears_6 : decode cX5_differentYears 6 = .ok (.getfield 49, 3) := by decide +kernel
theorem dX5_differentYears_9 : decode cX5_differentYears 9 = .ok (.if_icmp .gt 20, 3) := by decide +kernel
theorem dX5_differentYears_12 : decode cX5_differentYears 12 = .ok (.aload_n 0, 1) := by decide +kernel
theorem dX5_differentYears_13 : decode cX5_differentYears 13 = .ok (.iload_n 2, 1) := by decide +kernel
theorem dX5_differentYears_14 : decode cX5_differentYears 14 = .ok (.invokevirtual 140, 3) := by decide +kernel
theorem dX5_differentYears_17 : decode cX5_differentYears 17 = .ok (.ifCond .le 6, 3) := by decide +kernel
theorem dX5_differentYears_20 : decode cX5_differentYears 20 = .ok (.iinc 1 1, 3) := by decide +kernel
theorem dX5_differentYears_23 : decode cX5_differentYears 23 = .ok (.iinc 2 1, 3) := by decide +kernel
theorem dX5_differentYears_26 : decode cX5_differentYears 26 = .ok (.goto (-22), 3) := by decide +kernel
theorem dX5_differentYears_29 : decode cX5_differentYears 29 = .ok (.iload_n 1, 1) := by decide +kernel
theorem dX5_differentYears_30 : decode cX5_differentYears 30 = .ok (.ireturn, 1) := by decide +kernel
theorem dX5_oldestYear_0 : decode cX5_oldestYear 0 = .ok (.sipush 801, 3) := by decide +kernel
theorem dX5_oldestYear_3 : decode cX5_oldestYear 3 = .ok (.istore_n 1, 1) := by decide +kernel
theorem dX5_oldestYear_4 : decode cX5_oldestYear 4 = .ok (.iconst 0, 1) := by decide +kernel
theorem dX5_oldestYear_5 : decode cX5_oldestYear 5 = .ok (.istore_n 2, 1) := by decide +kernel
theorem dX5_oldestYear_6 : decode cX5_oldestYear 6 = .ok (.iload_n 2, 1) := by decide +kernel
theorem dX5_oldestYear_7 : decode cX5_oldestYear 7 = .ok (.aload_n 0, 1) := by decide +kernel
theorem dX5_oldestYear_8 : decode cX5_oldestYear 8 = .ok (.getfield 42, 3) := by decide +kernel
theorem dX5_oldestYear_11 : decode cX5_oldestYear 11 = .ok (.if_icmp .ge 26, 3) := by decide +kernel
theorem dX5_oldestYear_14 : decode cX5_oldestYear 14 = .ok (.iload_n 1, 1) := by decide +kernel
theorem dX5_oldestYear_15 : decode cX5_oldestYear 15 = .ok (.aload_n 0, 1) := by decide +kernel
theorem dX5_oldestYear_16 : decode cX5_oldestYear 16 = .ok (.getfield 25, 3) := by decide +kernel
theorem dX5_oldestYear_19 : decode cX5_oldestYear 19 = .ok (.iload_n 2, 1) := by decide +kernel
theorem dX5_oldestYear_20 : decode cX5_oldestYear 20 = .ok (.aaload, 1) := by decide +kernel
theorem dX5_oldestYear_21 : decode cX5_oldestYear 21 = .ok (.getfield 90, 3) := by decide +kernel
theorem dX5_oldestYear_24 : decode cX5_oldestYear 24 = .ok (.getfield 144, 3) := by decide +kernel
theorem dX5_oldestYear_27 : decode cX5_oldestYear 27 = .ok (.invokestatic 147, 3) := by decide +kernel
theorem dX5_oldestYear_30 : decode cX5_oldestYear 30 = .ok (.istore_n 1, 1) := by decide +kernel
theorem dX5_oldestYear_31 : decode cX5_oldestYear 31 = .ok (.iinc 2 1, 3) := by decide +kernel
theorem dX5_oldestYear_34 : decode cX5_oldestYear 34 = .ok (.goto (-28), 3) := by decide +kernel
theorem dX5_oldestYear_37 : decode cX5_oldestYear 37 = .ok (.iload_n 1, 1) := by decide +kernel
theorem dX5_oldestYear_38 : decode cX5_oldestYear 38 = .ok (.ireturn, 1) := by decide +kernel
theorem dX5_letYearsGoBy_0 : decode cX5_letYearsGoBy 0 = .ok (.iconst 0, 1) := by decide +kernel
theorem dX5_letYearsGoBy_1 : decode cX5_letYearsGoBy 1 = .ok (.istore_n 2, 1) := by decide +kernel
theorem dX5_letYearsGoBy_2 : decode cX5_letYearsGoBy 2 = .ok (.iload_n 2, 1) := by decide +kernel
theorem dX5_letYearsGoBy_3 : decode cX5_letYearsGoBy 3 = .ok (.iload_n 1, 1) := by decide +kernel
theorem dX5_letYearsGoBy_4 : decode cX5_letYearsGoBy 4 = .ok (.if_icmp .ge 13, 3) := by decide +kernel
theorem dX5_letYearsGoBy_7 : decode cX5_letYearsGoBy 7 = .ok (.aload_n 0, 1) := by decide +kernel
theorem dX5_letYearsGoBy_8 : decode cX5_letYearsGoBy 8 = .ok (.invokevirtual 150, 3) := by decide +kernel
theorem dX5_letYearsGoBy_11 : decode cX5_letYearsGoBy 11 = .ok (.iinc 2 1, 3) := by decide +kernel
theorem dX5_letYearsGoBy_14 : decode cX5_letYearsGoBy 14 = .ok (.goto (-12), 3) := by decide +kernel
theorem dX5_letYearsGoBy_17 : decode cX5_letYearsGoBy 17 = .ok (.return_, 1) := by decide +kernel
theorem dX5_letYearGoBy_0 : decode cX5_letYearGoBy 0 = .ok (.aload_n 0, 1) := by decide +kernel
theorem dX5_letYearGoBy_1 : decode cX5_letYearGoBy 1 = .ok (.dup, 1) := by decide +kernel
theorem dX5_letYearGoBy_2 : decode cX5_letYearGoBy 2 = .ok (.getfield 49, 3) := by decide +kernel
theorem dX5_letYearGoBy_5 : decode cX5_letYearGoBy 5 = .ok (.iconst 1, 1) := by decide +kernel
theorem dX5_letYearGoBy_6 : decode cX5_letYearGoBy 6 = .ok (.iadd, 1) := by decide +kernel
theorem dX5_letYearGoBy_7 : decode cX5_letYearGoBy 7 = .ok (.putfield 49, 3) := by decide +kernel
theorem dX5_letYearGoBy_10 : decode cX5_letYearGoBy 10 = .ok (.iconst 0, 1) := by decide +kernel
theorem dX5_letYearGoBy_11 : decode cX5_letYearGoBy 11 = .ok (.istore_n 1, 1) := by decide +kernel
theorem dX5_letYearGoBy_12 : decode cX5_letYearGoBy 12 = .ok (.iload_n 1, 1) := by decide +kernel
theorem dX5_letYearGoBy_13 : decode cX5_letYearGoBy 13 = .ok (.aload_n 0, 1) := by decide +kernel
theorem dX5_letYearGoBy_14 : decode cX5_letYearGoBy 14 = .ok (.getfield 42, 3) := by decide +kernel
theorem dX5_letYearGoBy_17 : decode cX5_letYearGoBy 17 = .ok (.if_icmp .ge 19, 3) := by decide +kernel
theorem dX5_letYearGoBy_20 : decode cX5_letYearGoBy 20 = .ok (.aload_n 0, 1) := by decide +kernel
theorem dX5_letYearGoBy_21 : decode cX5_letYearGoBy 21 = .ok (.aload_n 0, 1) := by decide +kernel
theorem dX5_letYearGoBy_22 : decode cX5_letYearGoBy 22 = .ok (.getfield 25, 3) := by decide +kernel
theorem dX5_letYearGoBy_25 : decode cX5_letYearGoBy 25 = .ok (.iload_n 1, 1) := by decide +kernel
theorem dX5_letYearGoBy_26 : decode cX5_letYearGoBy 26 = .ok (.aaload, 1) := by decide +kernel
theorem dX5_letYearGoBy_27 : decode cX5_letYearGoBy 27 = .ok (.invokevirtual 153, 3) := by decide +kernel
theorem dX5_letYearGoBy_30 : decode cX5_letYearGoBy 30 = .ok (.iinc 1 1, 3) := by decide +kernel
theorem dX5_letYearGoBy_33 : decode cX5_letYearGoBy 33 = .ok (.goto (-21), 3) := by decide +kernel
theorem dX5_letYearGoBy_36 : decode cX5_letYearGoBy 36 = .ok (.aload_n 0, 1) := by decide +kernel
theorem dX5_letYearGoBy_37 : decode cX5_letYearGoBy 37 = .ok (.invokevirtual 156, 3) := by decide +kernel
theorem dX5_letYearGoBy_40 : decode cX5_letYearGoBy 40 = .ok (.aload_n 0, 1) := by decide +kernel
theorem dX5_letYearGoBy_41 : decode cX5_letYearGoBy 41 = .ok (.dup, 1) := by decide +kernel
theorem dX5_letYearGoBy_42 : decode cX5_letYearGoBy 42 = .ok (.getfield 62, 3) := by decide +kernel
theorem dX5_letYearGoBy_45 : decode cX5_letYearGoBy 45 = .ok (.aload_n 0, 1) := by decide +kernel
theorem dX5_letYearGoBy_46 : decode cX5_letYearGoBy 46 = .ok (.getfield 38, 3) := by decide +kernel
theorem dX5_letYearGoBy_49 : decode cX5_letYearGoBy 49 = .ok (.aload_n 0, 1) := by decide +kernel
theorem dX5_letYearGoBy_50 : decode cX5_letYearGoBy 50 = .ok (.getfield 18, 3) := by decide +kernel
theorem dX5_letYearGoBy_53 : decode cX5_letYearGoBy 53 = .ok (.iconst 5, 1) := by decide +kernel
theorem dX5_letYearGoBy_54 : decode cX5_letYearGoBy 54 = .ok (.iaload, 1) := by decide +kernel
theorem dX5_letYearGoBy_55 : decode cX5_letYearGoBy 55 = .ok (.aload_n 0, 1) := by decide +kernel
theorem dX5_letYearGoBy_56 : decode cX5_letYearGoBy 56 = .ok (.getfield 18, 3) := by decide +kernel
theorem dX5_letYearGoBy_59 : decode cX5_letYearGoBy 59 = .ok (.bipush 6, 2) := by decide +kernel
theorem dX5_letYearGoBy_61 : decode cX5_letYearGoBy 61 = .ok (.iaload, 1) := by decide +kernel
theorem dX5_letYearGoBy_62 : decode cX5_letYearGoBy 62 = .ok (.aload_n 0, 1) := by decide +kernel
theorem dX5_letYearGoBy_63 : decode cX5_letYearGoBy 63 = .ok (.getfield 49, 3) := by decide +kernel
theorem dX5_letYearGoBy_66 : decode cX5_letYearGoBy 66 = .ok (.invokevirtual 159, 3) := by decide +kernel
theorem dX5_letYearGoBy_69 : decode cX5_letYearGoBy 69 = .ok (.i2l, 1) := by decide +kernel
theorem dX5_letYearGoBy_70 : decode cX5_letYearGoBy 70 = .ok (.ladd, 1) := by decide +kernel
theorem dX5_letYearGoBy_71 : decode cX5_letYearGoBy 71 = .ok (.putfield 62, 3) := by decide +kernel
theorem dX5_letYearGoBy_74 : decode cX5_letYearGoBy 74 = .ok (.iconst 0, 1) := by decide +kernel
theorem dX5_letYearGoBy_75 : decode cX5_letYearGoBy 75 = .ok (.istore_n 1, 1) := by decide +kernel
theorem dX5_letYearGoBy_76 : decode cX5_letYearGoBy 76 = .ok (.iload_n 1, 1) := by decide +kernel
theorem dX5_letYearGoBy_77 : decode cX5_letYearGoBy 77 = .ok (.aload_n 0, 1) := by decide +kernel
theorem dX5_letYearGoBy_78 : decode cX5_letYearGoBy 78 = .ok (.getfield 46, 3) := by decide +kernel
theorem dX5_letYearGoBy_81 : decode cX5_letYearGoBy 81 = .ok (.if_icmp .ge 31, 3) := by decide +kernel
theorem dX5_letYearGoBy_84 : decode cX5_letYearGoBy 84 = .ok (.aload_n 0, 1) := by decide +kernel
theorem dX5_letYearGoBy_85 : decode cX5_letYearGoBy 85 = .ok (.getfield 31, 3) := by decide +kernel
theorem dX5_letYearGoBy_88 : decode cX5_letYearGoBy 88 = .ok (.iload_n 1, 1) := by decide +kernel
theorem dX5_letYearGoBy_89 : decode cX5_letYearGoBy 89 = .ok (.aaload, 1) := by decide +kernel
theorem dX5_letYearGoBy_90 : decode cX5_letYearGoBy 90 = .ok (.getfield 100, 3) := by decide +kernel
theorem dX5_letYearGoBy_93 : decode cX5_letYearGoBy 93 = .ok (.ifCond .ne 13, 3) := by decide +kernel
theorem dX5_letYearGoBy_96 : decode cX5_letYearGoBy 96 = .ok (.aload_n 0, 1) := by decide +kernel
theorem dX5_letYearGoBy_97 : decode cX5_letYearGoBy 97 = .ok (.aload_n 0, 1) := by decide +kernel
theorem dX5_letYearGoBy_98 : decode cX5_letYearGoBy 98 = .ok (.getfield 31, 3) := by decide +kernel
theorem dX5_letYearGoBy_101 : decode cX5_letYearGoBy 101 = .ok (.iload_n 1, 1) := by decide +kernel
theorem dX5_letYearGoBy_102 : decode cX5_letYearGoBy 102 = .ok (.aaload, 1) := by decide +kernel
theorem dX5_letYearGoBy_103 : decode cX5_letYearGoBy 103 = .ok (.invokevirtual 163, 3) := by decide +kernel
theorem dX5_letYearGoBy_106 : decode cX5_letYearGoBy 106 = .ok (.iinc 1 1, 3) := by decide +kernel
theorem dX5_letYearGoBy_109 : decode cX5_letYearGoBy 109 = .ok (.goto (-33), 3) := by decide +kernel
theorem dX5_letYearGoBy_112 : decode cX5_letYearGoBy 112 = .ok (.return_, 1) := by decide +kernel
theorem dX5_snowAndMelt_0 : decode cX5_snowAndMelt 0 = .ok (.aload_n 0, 1) := by decide +kernel
theorem dX5_snowAndMelt_1 : decode cX5_snowAndMelt 1 = .ok (.aload_n 1, 1) := by decide +kernel
theorem dX5_snowAndMelt_2 : decode cX5_snowAndMelt 2 = .ok (.getfield 83, 3) := by decide +kernel
theorem dX5_snowAndMelt_5 : decode cX5_snowAndMelt 5 = .ok (.invokevirtual 122, 3) := by decide +kernel
theorem dX5_snowAndMelt_8 : decode cX5_snowAndMelt 8 = .ok (.istore_n 2, 1) := by decide +kernel
theorem dX5_snowAndMelt_9 : decode cX5_snowAndMelt 9 = .ok (.aload_n 1, 1) := by decide +kernel
theorem dX5_snowAndMelt_10 : decode cX5_snowAndMelt 10 = .ok (.getfield 90, 3) := by decide +kernel
theorem dX5_snowAndMelt_13 : decode cX5_snowAndMelt 13 = .ok (.aload_n 0, 1) := by decide +kernel
theorem dX5_snowAndMelt_14 : decode cX5_snowAndMelt 14 = .ok (.getfield 49, 3) := by decide +kernel
theorem dX5_snowAndMelt_17 : decode cX5_snowAndMelt 17 = .ok (.iload_n 2, 1) := by decide +kernel
theorem dX5_snowAndMelt_18 : decode cX5_snowAndMelt 18 = .ok (.invokevirtual 94, 3) := by decide +kernel
theorem dX5_snowAndMelt_21 : decode cX5_snowAndMelt 21 = .ok (.aload_n 0, 1) := by decide +kernel
theorem dX5_snowAndMelt_22 : decode cX5_snowAndMelt 22 = .ok (.dup, 1) := by decide +kernel
theorem dX5_snowAndMelt_23 : decode cX5_snowAndMelt 23 = .ok (.getfield 56, 3) := by decide +kernel
theorem dX5_snowAndMelt_26 : decode cX5_snowAndMelt 26 = .ok (.iload_n 2, 1) := by decide +kernel
theorem dX5_snowAndMelt_27 : decode cX5_snowAndMelt 27 = .ok (.i2l, 1) := by decide +kernel
theorem dX5_snowAndMelt_28 : decode cX5_snowAndMelt 28 = .ok (.ladd, 1) := by decide +kernel
theorem dX5_snowAndMelt_29 : decode cX5_snowAndMelt 29 = .ok (.putfield 56, 3) := by decide +kernel
theorem dX5_snowAndMelt_32 : decode cX5_snowAndMelt 32 = .ok (.aload_n 1, 1) := by decide +kernel
theorem dX5_snowAndMelt_33 : decode cX5_snowAndMelt 33 = .ok (.aload_n 1, 1) := by decide +kernel
theorem dX5_snowAndMelt_34 : decode cX5_snowAndMelt 34 = .ok (.getfield 90, 3) := by decide +kernel
theorem dX5_snowAndMelt_37 : decode cX5_snowAndMelt 37 = .ok (.aload_n 0, 1) := by decide +kernel
theorem dX5_snowAndMelt_38 : decode cX5_snowAndMelt 38 = .ok (.aload_n 1, 1) := by decide +kernel
theorem dX5_snowAndMelt_39 : decode cX5_snowAndMelt 39 = .ok (.getfield 83, 3) := by decide +kernel
theorem dX5_snowAndMelt_42 : decode cX5_snowAndMelt 42 = .ok (.aload_n 0, 1) := by decide +kernel
theorem dX5_snowAndMelt_43 : decode cX5_snowAndMelt 43 = .ok (.getfield 18, 3) := by decide +kernel
theorem dX5_snowAndMelt_46 : decode cX5_snowAndMelt 46 = .ok (.iconst 2, 1) := by decide +kernel
theorem dX5_snowAndMelt_47 : decode cX5_snowAndMelt 47 = .ok (.iaload, 1) := by decide +kernel
theorem dX5_snowAndMelt_48 : decode cX5_snowAndMelt 48 = .ok (.invokevirtual 126, 3) := by decide +kernel
theorem dX5_snowAndMelt_51 : decode cX5_snowAndMelt 51 = .ok (.invokevirtual 166, 3) := by decide +kernel
theorem dX5_snowAndMelt_54 : decode cX5_snowAndMelt 54 = .ok (.putfield 169, 3) := by decide +kernel
theorem dX5_snowAndMelt_57 : decode cX5_snowAndMelt 57 = .ok (.aload_n 0, 1) := by decide +kernel
theorem dX5_snowAndMelt_58 : decode cX5_snowAndMelt 58 = .ok (.dup, 1) := by decide +kernel
theorem dX5_snowAndMelt_59 : decode cX5_snowAndMelt 59 = .ok (.getfield 59, 3) := by decide +kernel
theorem dX5_snowAndMelt_62 : decode cX5_snowAndMelt 62 = .ok (.aload_n 1, 1) := by decide +kernel
theorem dX5_snowAndMelt_63 : decode cX5_snowAndMelt 63 = .ok (.getfield 169, 3) := by decide +kernel
theorem dX5_snowAndMelt_66 : decode cX5_snowAndMelt 66 = .ok (.i2l, 1) := by decide +kernel
theorem dX5_snowAndMelt_67 : decode cX5_snowAndMelt 67 = .ok (.ladd, 1) := by decide +kernel
theorem dX5_snowAndMelt_68 : decode cX5_snowAndMelt 68 = .ok (.putfield 59, 3) := by decide +kernel
theorem dX5_snowAndMelt_71 : decode cX5_snowAndMelt 71 = .ok (.return_, 1) := by decide +kernel
theorem dX5_creepDown_0 : decode cX5_creepDown 0 = .ok (.aload_n 0, 1) := by decide +kernel
theorem dX5_creepDown_1 : decode cX5_creepDown 1 = .ok (.getfield 42, 3) := by decide +kernel
theorem dX5_creepDown_4 : decode cX5_creepDown 4 = .ok (.iconst 1, 1) := by decide +kernel
theorem dX5_creepDown_5 : decode cX5_creepDown 5 = .ok (.isub, 1) := by decide +kernel
theorem dX5_creepDown_6 : decode cX5_creepDown 6 = .ok (.istore_n 1, 1) := by decide +kernel
theorem dX5_creepDown_7 : decode cX5_creepDown 7 = .ok (.iload_n 1, 1) := by decide +kernel
theorem dX5_creepDown_8 : decode cX5_creepDown 8 = .ok (.ifCond .lt 102, 3) := by decide +kernel
theorem dX5_creepDown_11 : decode cX5_creepDown 11 = .ok (.aload_n 0, 1) := by decide +kernel
theorem dX5_creepDown_12 : decode cX5_creepDown 12 = .ok (.getfield 25, 3) := by decide +kernel
theorem dX5_creepDown_15 : decode cX5_creepDown 15 = .ok (.iload_n 1, 1) := by decide +kernel
theorem dX5_creepDown_16 : decode cX5_creepDown 16 = .ok (.aaload, 1) := by decide +kernel
theorem dX5_creepDown_17 : decode cX5_creepDown 17 = .ok (.astore_n 2, 1) := by decide +kernel
theorem dX5_creepDown_18 : decode cX5_creepDown 18 = .ok (.aload_n 2, 1) := by decide +kernel
theorem dX5_creepDown_19 : decode cX5_creepDown 19 = .ok (.aload_n 2, 1) := by decide +kernel
theorem dX5_creepDown_20 : decode cX5_creepDown 20 = .ok (.invokevirtual 171, 3) := by decide +kernel
theorem dX5_creepDown_23 : decode cX5_creepDown 23 = .ok (.putfield 174, 3) := by decide +kernel
theorem dX5_creepDown_26 : decode cX5_creepDown 26 = .ok (.iload_n 1, 1) := by decide +kernel
theorem dX5_creepDown_27 : decode cX5_creepDown 27 = .ok (.iconst 1, 1) := by decide +kernel
theorem dX5_creepDown_28 : decode cX5_creepDown 28 = .ok (.iadd, 1) := by decide +kernel
theorem dX5_creepDown_29 : decode cX5_creepDown 29 = .ok (.aload_n 0, 1) := by decide +kernel
theorem dX5_creepDown_30 : decode cX5_creepDown 30 = .ok (.getfield 42, 3) := by decide +kernel
theorem dX5_creepDown_33 : decode cX5_creepDown 33 = .ok (.if_icmp .ge 43, 3) := by decide +kernel
theorem dX5_creepDown_36 : decode cX5_creepDown 36 = .ok (.aload_n 2, 1) := by decide +kernel
theorem dX5_creepDown_37 : decode cX5_creepDown 37 = .ok (.getfield 90, 3) := by decide +kernel
theorem dX5_creepDown_40 : decode cX5_creepDown 40 = .ok (.aload_n 2, 1) := by decide +kernel
theorem dX5_creepDown_41 : decode cX5_creepDown 41 = .ok (.getfield 174, 3) := by decide +kernel
theorem dX5_creepDown_44 : decode cX5_creepDown 44 = .ok (.aload_n 0, 1) := by decide +kernel
theorem dX5_creepDown_45 : decode cX5_creepDown 45 = .ok (.getfield 25, 3) := by decide +kernel
theorem dX5_creepDown_48 : decode cX5_creepDown 48 = .ok (.iload_n 1, 1) := by decide +kernel
theorem dX5_creepDown_49 : decode cX5_creepDown 49 = .ok (.iconst 1, 1) := by decide +kernel
theorem dX5_creepDown_50 : decode cX5_creepDown 50 = .ok (.iadd, 1) := by decide +kernel
theorem dX5_creepDown_51 : decode cX5_creepDown 51 = .ok (.aaload, 1) := by decide +kernel
theorem dX5_creepDown_52 : decode cX5_creepDown 52 = .ok (.getfield 90, 3) := by decide +kernel
theorem dX5_creepDown_55 : decode cX5_creepDown 55 = .ok (.invokevirtual 177, 3) := by decide +kernel
theorem dX5_creepDown_58 : decode cX5_creepDown 58 = .ok (.aload_n 0, 1) := by decide +kernel
theorem dX5_creepDown_59 : decode cX5_creepDown 59 = .ok (.getfield 25, 3) := by decide +kernel
theorem dX5_creepDown_62 : decode cX5_creepDown 62 = .ok (.iload_n 1, 1) := by decide +kernel
theorem dX5_creepDown_63 : decode cX5_creepDown 63 = .ok (.iconst 1, 1) := by decide +kernel
theorem dX5_creepDown_64 : decode cX5_creepDown 64 = .ok (.iadd, 1) := by decide +kernel
theorem dX5_creepDown_65 : decode cX5_creepDown 65 = .ok (.aaload, 1) := by decide +kernel
theorem dX5_creepDown_66 : decode cX5_creepDown 66 = .ok (.aload_n 2, 1) := by decide +kernel
theorem dX5_creepDown_67 : decode cX5_creepDown 67 = .ok (.getfield 174, 3) := by decide +kernel
theorem dX5_creepDown_70 : decode cX5_creepDown 70 = .ok (.putfield 181, 3) := by decide +kernel
theorem dX5_creepDown_73 : decode cX5_creepDown 73 = .ok (.goto 31, 3) := by decide +kernel
theorem dX5_creepDown_76 : decode cX5_creepDown 76 = .ok (.aload_n 2, 1) := by decide +kernel
theorem dX5_creepDown_77 : decode cX5_creepDown 77 = .ok (.getfield 90, 3) := by decide +kernel
theorem dX5_creepDown_80 : decode cX5_creepDown 80 = .ok (.aload_n 2, 1) := by decide +kernel
theorem dX5_creepDown_81 : decode cX5_creepDown 81 = .ok (.getfield 174, 3) := by decide +kernel
theorem dX5_creepDown_84 : decode cX5_creepDown 84 = .ok (.aconst_null, 1) := by decide +kernel
theorem dX5_creepDown_85 : decode cX5_creepDown 85 = .ok (.invokevirtual 177, 3) := by decide +kernel
theorem dX5_creepDown_88 : decode cX5_creepDown 88 = .ok (.aload_n 0, 1) := by decide +kernel
theorem dX5_creepDown_89 : decode cX5_creepDown 89 = .ok (.getfield 38, 3) := by decide +kernel
theorem dX5_creepDown_92 : decode cX5_creepDown 92 = .ok (.dup, 1) := by decide +kernel
theorem dX5_creepDown_93 : decode cX5_creepDown 93 = .ok (.getfield 139, 3) := by decide +kernel
theorem dX5_creepDown_96 : decode cX5_creepDown 96 = .ok (.aload_n 2, 1) := by decide +kernel
theorem dX5_creepDown_97 : decode cX5_creepDown 97 = .ok (.getfield 174, 3) := by decide +kernel
theorem dX5_creepDown_100 : decode cX5_creepDown 100 = .ok (.iadd, 1) := by decide +kernel
theorem dX5_creepDown_101 : decode cX5_creepDown 101 = .ok (.putfield 139, 3) := by decide +kernel
theorem dX5_creepDown_104 : decode cX5_creepDown 104 = .ok (.iinc 1 (-1), 3) := by decide +kernel
theorem dX5_creepDown_107 : decode cX5_creepDown 107 = .ok (.goto (-100), 3) := by decide +kernel
theorem dX5_creepDown_110 : decode cX5_creepDown 110 = .ok (.return_, 1) := by decide +kernel
theorem dX5_ride_0 : decode cX5_ride 0 = .ok (.aload_n 0, 1) := by decide +kernel
theorem dX5_ride_1 : decode cX5_ride 1 = .ok (.aload_n 1, 1) := by decide +kernel
theorem dX5_ride_2 : decode cX5_ride 2 = .ok (.getfield 103, 3) := by decide +kernel
theorem dX5_ride_5 : decode cX5_ride 5 = .ok (.invokevirtual 184, 3) := by decide +kernel
theorem dX5_ride_8 : decode cX5_ride 8 = .ok (.ifCond .ne 4, 3) := by decide +kernel
theorem dX5_ride_11 : decode cX5_ride 11 = .ok (.return_, 1) := by decide +kernel
theorem dX5_ride_12 : decode cX5_ride 12 = .ok (.aload_n 0, 1) := by decide +kernel
theorem dX5_ride_13 : decode cX5_ride 13 = .ok (.getfield 25, 3) := by decide +kernel
theorem dX5_ride_16 : decode cX5_ride 16 = .ok (.aload_n 1, 1) := by decide +kernel
theorem dX5_ride_17 : decode cX5_ride 17 = .ok (.getfield 103, 3) := by decide +kernel
theorem dX5_ride_20 : decode cX5_ride 20 = .ok (.aaload, 1) := by decide +kernel
theorem dX5_ride_21 : decode cX5_ride 21 = .ok (.astore_n 2, 1) := by decide +kernel
theorem dX5_ride_22 : decode cX5_ride 22 = .ok (.aload_n 1, 1) := by decide +kernel
theorem dX5_ride_23 : decode cX5_ride 23 = .ok (.dup, 1) := by decide +kernel
theorem dX5_ride_24 : decode cX5_ride 24 = .ok (.getfield 188, 3) := by decide +kernel
theorem dX5_ride_27 : decode cX5_ride 27 = .ok (.iconst 1, 1) := by decide +kernel
theorem dX5_ride_28 : decode cX5_ride 28 = .ok (.iadd, 1) := by decide +kernel
theorem dX5_ride_29 : decode cX5_ride 29 = .ok (.putfield 188, 3) := by decide +kernel
theorem dX5_ride_32 : decode cX5_ride 32 = .ok (.aload_n 1, 1) := by decide +kernel
theorem dX5_ride_33 : decode cX5_ride 33 = .ok (.dup, 1) := by decide +kernel
theorem dX5_ride_34 : decode cX5_ride 34 = .ok (.getfield 110, 3) := by decide +kernel
theorem dX5_ride_37 : decode cX5_ride 37 = .ok (.aload_n 0, 1) := by decide +kernel
theorem dX5_ride_38 : decode cX5_ride 38 = .ok (.aload_n 2, 1) := by decide +kernel
theorem dX5_ride_39 : decode cX5_ride 39 = .ok (.getfield 83, 3) := by decide +kernel
theorem dX5_ride_42 : decode cX5_ride 42 = .ok (.invokevirtual 122, 3) := by decide +kernel
theorem dX5_ride_45 : decode cX5_ride 45 = .ok (.aload_n 2, 1) := by decide +kernel
theorem dX5_ride_46 : decode cX5_ride 46 = .ok (.getfield 169, 3) := by decide +kernel
theorem dX5_ride_49 : decode cX5_ride 49 = .ok (.isub, 1) := by decide +kernel
theorem dX5_ride_50 : decode cX5_ride 50 = .ok (.iadd, 1) := by decide +kernel
theorem dX5_ride_51 : decode cX5_ride 51 = .ok (.putfield 110, 3) := by decide +kernel
theorem dX5_ride_54 : decode cX5_ride 54 = .ok (.aload_n 1, 1) := by decide +kernel
theorem dX5_ride_55 : decode cX5_ride 55 = .ok (.getfield 110, 3) := by decide +kernel
theorem dX5_ride_58 : decode cX5_ride 58 = .ok (.aload_n 1, 1) := by decide +kernel
theorem dX5_ride_59 : decode cX5_ride 59 = .ok (.getfield 191, 3) := by decide +kernel
theorem dX5_ride_62 : decode cX5_ride 62 = .ok (.ineg, 1) := by decide +kernel
theorem dX5_ride_63 : decode cX5_ride 63 = .ok (.if_icmp .ge 11, 3) := by decide +kernel
theorem dX5_ride_66 : decode cX5_ride 66 = .ok (.aload_n 1, 1) := by decide +kernel
theorem dX5_ride_67 : decode cX5_ride 67 = .ok (.iconst 1, 1) := by decide +kernel
theorem dX5_ride_68 : decode cX5_ride 68 = .ok (.putfield 100, 3) := by decide +kernel
theorem dX5_ride_71 : decode cX5_ride 71 = .ok (.goto 17, 3) := by decide +kernel
theorem dX5_ride_74 : decode cX5_ride 74 = .ok (.aload_n 0, 1) := by decide +kernel
theorem dX5_ride_75 : decode cX5_ride 75 = .ok (.aload_n 1, 1) := by decide +kernel
theorem dX5_ride_76 : decode cX5_ride 76 = .ok (.aload_n 1, 1) := by decide +kernel
theorem dX5_ride_77 : decode cX5_ride 77 = .ok (.getfield 106, 3) := by decide +kernel
theorem dX5_ride_80 : decode cX5_ride 80 = .ok (.aload_n 2, 1) := by decide +kernel
theorem dX5_ride_81 : decode cX5_ride 81 = .ok (.invokevirtual 194, 3) := by decide +kernel
theorem dX5_ride_84 : decode cX5_ride 84 = .ok (.iadd, 1) := by decide +kernel
theorem dX5_ride_85 : decode cX5_ride 85 = .ok (.invokevirtual 197, 3) := by decide +kernel
theorem dX5_ride_88 : decode cX5_ride 88 = .ok (.return_, 1) := by decide +kernel
theorem dX5_moveDown_0 : decode cX5_moveDown 0 = .ok (.iload_n 2, 1) := by decide +kernel
theorem dX5_moveDown_1 : decode cX5_moveDown 1 = .ok (.istore_n 3, 1) := by decide +kernel
theorem dX5_moveDown_2 : decode cX5_moveDown 2 = .ok (.aload_n 1, 1) := by decide +kernel
theorem dX5_moveDown_3 : decode cX5_moveDown 3 = .ok (.getfield 103, 3) := by decide +kernel
theorem dX5_moveDown_6 : decode cX5_moveDown 6 = .ok (.istore 4, 2) := by decide +kernel
theorem dX5_moveDown_8 : decode cX5_moveDown 8 = .ok (.iload 4, 2) := by decide +kernel
theorem dX5_moveDown_10 : decode cX5_moveDown 10 = .ok (.aload_n 0, 1) := by decide +kernel
theorem dX5_moveDown_11 : decode cX5_moveDown 11 = .ok (.getfield 42, 3) := by decide +kernel
theorem dX5_moveDown_14 : decode cX5_moveDown 14 = .ok (.if_icmp .ge 48, 3) := by decide +kernel
theorem dX5_moveDown_17 : decode cX5_moveDown 17 = .ok (.iload_n 3, 1) := by decide +kernel
theorem dX5_moveDown_18 : decode cX5_moveDown 18 = .ok (.aload_n 0, 1) := by decide +kernel
theorem dX5_moveDown_19 : decode cX5_moveDown 19 = .ok (.getfield 25, 3) := by decide +kernel
theorem dX5_moveDown_22 : decode cX5_moveDown 22 = .ok (.iload 4, 2) := by decide +kernel
theorem dX5_moveDown_24 : decode cX5_moveDown 24 = .ok (.aaload, 1) := by decide +kernel
theorem dX5_moveDown_25 : decode cX5_moveDown 25 = .ok (.getfield 201, 3) := by decide +kernel
theorem dX5_moveDown_28 : decode cX5_moveDown 28 = .ok (.if_icmp .ge 15, 3) := by decide +kernel
theorem dX5_moveDown_31 : decode cX5_moveDown 31 = .ok (.aload_n 1, 1) := by decide +kernel
theorem dX5_moveDown_32 : decode cX5_moveDown 32 = .ok (.iload 4, 2) := by decide +kernel
theorem dX5_moveDown_34 : decode cX5_moveDown 34 = .ok (.putfield 103, 3) := by decide +kernel
theorem dX5_moveDown_37 : decode cX5_moveDown 37 = .ok (.aload_n 1, 1) := by decide +kernel
theorem dX5_moveDown_38 : decode cX5_moveDown 38 = .ok (.iload_n 3, 1) := by decide +kernel
theorem dX5_moveDown_39 : decode cX5_moveDown 39 = .ok (.putfield 106, 3) := by decide +kernel
theorem dX5_moveDown_42 : decode cX5_moveDown 42 = .ok (.return_, 1) := by decide +kernel
theorem dX5_moveDown_43 : decode cX5_moveDown 43 = .ok (.iload_n 3, 1) := by decide +kernel
theorem dX5_moveDown_44 : decode cX5_moveDown 44 = .ok (.aload_n 0, 1) := by decide +kernel
theorem dX5_moveDown_45 : decode cX5_moveDown 45 = .ok (.getfield 25, 3) := by decide +kernel
theorem dX5_moveDown_48 : decode cX5_moveDown 48 = .ok (.iload 4, 2) := by decide +kernel
theorem dX5_moveDown_50 : decode cX5_moveDown 50 = .ok (.aaload, 1) := by decide +kernel
theorem dX5_moveDown_51 : decode cX5_moveDown 51 = .ok (.getfield 201, 3) := by decide +kernel
theorem dX5_moveDown_54 : decode cX5_moveDown 54 = .ok (.isub, 1) := by decide +kernel
theorem dX5_moveDown_55 : decode cX5_moveDown 55 = .ok (.istore_n 3, 1) := by decide +kernel
theorem dX5_moveDown_56 : decode cX5_moveDown 56 = .ok (.iinc 4 1, 3) := by decide +kernel
theorem dX5_moveDown_59 : decode cX5_moveDown 59 = .ok (.goto (-51), 3) := by decide +kernel
theorem dX5_moveDown_62 : decode cX5_moveDown 62 = .ok (.aload_n 1, 1) := by decide +kernel
theorem dX5_moveDown_63 : decode cX5_moveDown 63 = .ok (.iconst 2, 1) := by decide +kernel
theorem dX5_moveDown_64 : decode cX5_moveDown 64 = .ok (.putfield 100, 3) := by decide +kernel
theorem dX5_moveDown_67 : decode cX5_moveDown 67 = .ok (.return_, 1) := by decide +kernel
end
section
theorem dX6_init_0 : decode cX6_init 0 = .ok (.aload_n 0, 1) := by decide +kernel
theorem dX6_init_1 : decode cX6_init 1 = .ok (.invokespecial 3, 3) := by decide +kernel
theorem dX6_init_4 : decode cX6_init 4 = .ok (.aload_n 0, 1) := by decide +kernel
theorem dX6_init_5 : decode cX6_init 5 = .ok (.new 9, 3) := by decide +kernel
theorem dX6_init_8 : decode cX6_init 8 = .ok (.dup, 1) := by decide +kernel
theorem dX6_init_9 : decode cX6_init 9 = .ok (.invokespecial 11, 3) := by decide +kernel
theorem dX6_init_12 : decode cX6_init 12 = .ok (.putfield 12, 3) := by decide +kernel
theorem dX6_init_15 : decode cX6_init 15 = .ok (.aload_n 0, 1) := by decide +kernel
theorem dX6_init_16 : decode cX6_init 16 = .ok (.iconst 4, 1) := by decide +kernel
theorem dX6_init_17 : decode cX6_init 17 = .ok (.anewarray 9, 3) := by decide +kernel
theorem dX6_init_20 : decode cX6_init 20 = .ok (.putfield 16, 3) := by decide +kernel
theorem dX6_init_23 : decode cX6_init 23 = .ok (.iconst 0, 1) := by decide +kernel
theorem dX6_init_24 : decode cX6_init 24 = .ok (.istore_n 1, 1) := by decide +kernel
theorem dX6_init_25 : decode cX6_init 25 = .ok (.iload_n 1, 1) := by decide +kernel
theorem dX6_init_26 : decode cX6_init 26 = .ok (.aload_n 0, 1) := by decide +kernel
theorem dX6_init_27 : decode cX6_init 27 = .ok (.getfield 16, 3) := by decide +kernel
theorem dX6_init_30 : decode cX6_init 30 = .ok (.arraylength, 1) := by decide +kernel
theorem dX6_init_31 : decode cX6_init 31 = .ok (.if_icmp .ge 22, 3) := by decide +kernel
theorem dX6_init_34 : decode cX6_init 34 = .ok (.aload_n 0, 1) := by decide +kernel
theorem dX6_init_35 : decode cX6_init 35 = .ok (.getfield 16, 3) := by decide +kernel
theorem dX6_init_38 : decode cX6_init 38 = .ok (.iload_n 1, 1) := by decide +kernel
theorem dX6_init_39 : decode cX6_init 39 = .ok (.new 9, 3) := by decide +kernel
theorem dX6_init_42 : decode cX6_init 42 = .ok (.dup, 1) := by decide +kernel
theorem dX6_init_43 : decode cX6_init 43 = .ok (.invokespecial 11, 3) := by decide +kernel
theorem dX6_init_46 : decode cX6_init 46 = .ok (.aastore, 1) := by decide +kernel
theorem dX6_init_47 : decode cX6_init 47 = .ok (.iinc 1 1, 3) := by decide +kernel
theorem dX6_init_50 : decode cX6_init 50 = .ok (.goto (-25), 3) := by decide +kernel
theorem dX6_init_53 : decode cX6_init 53 = .ok (.aload_n 0, 1) := by decide +kernel
theorem dX6_init_54 : decode cX6_init 54 = .ok (.new 20, 3) := by decide +kernel
theorem dX6_init_57 : decode cX6_init 57 = .ok (.dup, 1) := by decide +kernel
theorem dX6_init_58 : decode cX6_init 58 = .ok (.invokespecial 22, 3) := by decide +kernel
theorem dX6_init_61 : decode cX6_init 61 = .ok (.putfield 23, 3) := by decide +kernel
theorem dX6_init_64 : decode cX6_init 64 = .ok (.aload_n 0, 1) := by decide +kernel
theorem dX6_init_65 : decode cX6_init 65 = .ok (.new 9, 3) := by decide +kernel
theorem dX6_init_68 : decode cX6_init 68 = .ok (.dup, 1) := by decide +kernel
theorem dX6_init_69 : decode cX6_init 69 = .ok (.invokespecial 11, 3) := by decide +kernel
theorem dX6_init_72 : decode cX6_init 72 = .ok (.putfield 27, 3) := by decide +kernel
theorem dX6_init_75 : decode cX6_init 75 = .ok (.aload_n 0, 1) := by decide +kernel
theorem dX6_init_76 : decode cX6_init 76 = .ok (.iconst 0, 1) := by decide +kernel
theorem dX6_init_77 : decode cX6_init 77 = .ok (.putfield 30, 3) := by decide +kernel
theorem dX6_init_80 : decode cX6_init 80 = .ok (.return_, 1) := by decide +kernel
theorem dX6_set_0 : decode cX6_set 0 = .ok (.iload_n 1, 1) := by decide +kernel
theorem dX6_set_1 : decode cX6_set 1 = .ok (.iconst 0, 1) := by decide +kernel
theorem dX6_set_2 : decode cX6_set 2 = .ok (.bipush 6, 2) := by decide +kernel
theorem dX6_set_4 : decode cX6_set 4 = .ok (.invokestatic 34, 3) := by decide +kernel
theorem dX6_set_7 : decode cX6_set 7 = .ok (.ifCond .ne 6, 3) := by decide +kernel
theorem dX6_set_10 : decode cX6_set 10 = .ok (.ldc 38, 2) := by decide +kernel
theorem dX6_set_12 : decode cX6_set 12 = .ok (.ireturn, 1) := by decide +kernel
theorem dX6_set_13 : decode cX6_set 13 = .ok (.iload_n 2, 1) := by decide +kernel
theorem dX6_set_14 : decode cX6_set 14 = .ok (.getstatic 39, 3) := by decide +kernel
theorem dX6_set_17 : decode cX6_set 17 = .ok (.iload_n 1, 1) := by decide +kernel
theorem dX6_set_18 : decode cX6_set 18 = .ok (.iaload, 1) := by decide +kernel
theorem dX6_set_19 : decode cX6_set 19 = .ok (.getstatic 43, 3) := by decide +kernel
theorem dX6_set_22 : decode cX6_set 22 = .ok (.iload_n 1, 1) := by decide +kernel
theorem dX6_set_23 : decode cX6_set 23 = .ok (.iaload, 1) := by decide +kernel
theorem dX6_set_24 : decode cX6_set 24 = .ok (.invokestatic 34, 3) := by decide +kernel
theorem dX6_set_27 : decode cX6_set 27 = .ok (.ifCond .ne 6, 3) := by decide +kernel
theorem dX6_set_30 : decode cX6_set 30 = .ok (.ldc 38, 2) := by decide +kernel
theorem dX6_set_32 : decode cX6_set 32 = .ok (.ireturn, 1) := by decide +kernel
theorem dX6_set_33 : decode cX6_set 33 = .ok (.aload_n 0, 1) := by decide +kernel
theorem dX6_set_34 : decode cX6_set 34 = .ok (.invokevirtual 46, 3) := by decide +kernel
theorem dX6_set_37 : decode cX6_set 37 = .ok (.aload_n 0, 1) := by decide +kernel
theorem dX6_set_38 : decode cX6_set 38 = .ok (.getfield 27, 3) := by decide +kernel
theorem dX6_set_41 : decode cX6_set 41 = .ok (.getfield 49, 3) := by decide +kernel
theorem dX6_set_44 : decode cX6_set 44 = .ok (.iload_n 1, 1) := by decide +kernel
theorem dX6_set_45 : decode cX6_set 45 = .ok (.iaload, 1) := by decide +kernel
theorem dX6_set_46 : decode cX6_set 46 = .ok (.istore_n 3, 1) := by decide +kernel
theorem dX6_set_47 : decode cX6_set 47 = .ok (.aload_n 0, 1) := by decide +kernel
theorem dX6_set_48 : decode cX6_set 48 = .ok (.getfield 27, 3) := by decide +kernel
theorem dX6_set_51 : decode cX6_set 51 = .ok (.getfield 49, 3) := by decide +kernel
theorem dX6_set_54 : decode cX6_set 54 = .ok (.iload_n 1, 1) := by decide +kernel
theorem dX6_set_55 : decode cX6_set 55 = .ok (.iload_n 2, 1) := by decide +kernel
theorem dX6_set_56 : decode cX6_set 56 = .ok (.iastore, 1) := by decide +kernel
theorem dX6_set_57 : decode cX6_set 57 = .ok (.iload_n 3, 1) := by decide +kernel
theorem dX6_set_58 : decode cX6_set 58 = .ok (.ireturn, 1) := by decide +kernel
theorem dX6_band_0 : decode cX6_band 0 = .ok (.iload_n 1, 1) := by decide +kernel
theorem dX6_band_1 : decode cX6_band 1 = .ok (.iconst 0, 1) := by decide +kernel
theorem dX6_band_2 : decode cX6_band 2 = .ok (.sipush 5000, 3) := by decide +kernel
theorem dX6_band_5 : decode cX6_band 5 = .ok (.invokestatic 34, 3) := by decide +kernel
theorem dX6_band_8 : decode cX6_band 8 = .ok (.ifCond .eq 37, 3) := by decide +kernel
theorem dX6_band_11 : decode cX6_band 11 = .ok (.iload_n 2, 1) := by decide +kernel
theorem dX6_band_12 : decode cX6_band 12 = .ok (.bipush 100, 2) := by decide +kernel
theorem dX6_band_14 : decode cX6_band 14 = .ok (.sipush 5000, 3) := by decide +kernel
theorem dX6_band_17 : decode cX6_band 17 = .ok (.invokestatic 34, 3) := by decide +kernel
theorem dX6_band_20 : decode cX6_band 20 = .ok (.ifCond .eq 25, 3) := by decide +kernel
theorem dX6_band_23 : decode cX6_band 23 = .ok (.iload_n 3, 1) := by decide +kernel
theorem dX6_band_24 : decode cX6_band 24 = .ok (.iconst 0, 1) := by decide +kernel
theorem dX6_band_25 : decode cX6_band 25 = .ok (.sipush 500, 3) := by decide +kernel
theorem dX6_band_28 : decode cX6_band 28 = .ok (.invokestatic 34, 3) := by decide +kernel
theorem dX6_band_31 : decode cX6_band 31 = .ok (.ifCond .eq 14, 3) := by decide +kernel
theorem dX6_band_34 : decode cX6_band 34 = .ok (.iload 4, 2) := by decide +kernel
theorem dX6_band_36 : decode cX6_band 36 = .ok (.iconst 0, 1) := by decide +kernel
theorem dX6_band_37 : decode cX6_band 37 = .ok (.ldc 52, 2) := by decide +kernel
theorem dX6_band_39 : decode cX6_band 39 = .ok (.invokestatic 34, 3) := by decide +kernel
theorem dX6_band_42 : decode cX6_band 42 = .ok (.ifCond .ne 6, 3) := by decide +kernel
theorem dX6_band_45 : decode cX6_band 45 = .ok (.ldc 38, 2) := by decide +kernel
theorem dX6_band_47 : decode cX6_band 47 = .ok (.ireturn, 1) := by decide +kernel
theorem dX6_band_48 : decode cX6_band 48 = .ok (.aload_n 0, 1) := by decide +kernel
theorem dX6_band_49 : decode cX6_band 49 = .ok (.getfield 27, 3) := by decide +kernel
theorem dX6_band_52 : decode cX6_band 52 = .ok (.iload_n 1, 1) := by decide +kernel
theorem dX6_band_53 : decode cX6_band 53 = .ok (.invokevirtual 53, 3) := by decide +kernel
theorem dX6_band_56 : decode cX6_band 56 = .ok (.ifCond .ne 6, 3) := by decide +kernel
theorem dX6_band_59 : decode cX6_band 59 = .ok (.ldc 57, 2) := by decide +kernel
theorem dX6_band_61 : decode cX6_band 61 = .ok (.ireturn, 1) := by decide +kernel
theorem dX6_band_62 : decode cX6_band 62 = .ok (.aload_n 0, 1) := by decide +kernel
theorem dX6_band_63 : decode cX6_band 63 = .ok (.getfield 27, 3) := by decide +kernel
theorem dX6_band_66 : decode cX6_band 66 = .ok (.getfield 58, 3) := by decide +kernel
theorem dX6_band_69 : decode cX6_band 69 = .ok (.bipush 10, 2) := by decide +kernel
theorem dX6_band_71 : decode cX6_band 71 = .ok (.if_icmp .lt 6, 3) := by decide +kernel
theorem dX6_band_74 : decode cX6_band 74 = .ok (.ldc 61, 2) := by decide +kernel
theorem dX6_band_76 : decode cX6_band 76 = .ok (.ireturn, 1) := by decide +kernel
theorem dX6_band_77 : decode cX6_band 77 = .ok (.aload_n 0, 1) := by decide +kernel
theorem dX6_band_78 : decode cX6_band 78 = .ok (.invokevirtual 46, 3) := by decide +kernel
theorem dX6_band_81 : decode cX6_band 81 = .ok (.aload_n 0, 1) := by decide +kernel
theorem dX6_band_82 : decode cX6_band 82 = .ok (.getfield 27, 3) := by decide +kernel
theorem dX6_band_85 : decode cX6_band 85 = .ok (.iload_n 1, 1) := by decide +kernel
theorem dX6_band_86 : decode cX6_band 86 = .ok (.iload_n 2, 1) := by decide +kernel
theorem dX6_band_87 : decode cX6_band 87 = .ok (.iload_n 3, 1) := by decide +kernel
theorem dX6_band_88 : decode cX6_band 88 = .ok (.iload 4, 2) := by decide +kernel
theorem dX6_band_90 : decode cX6_band 90 = .ok (.invokevirtual 62, 3) := by decide +kernel
theorem dX6_band_93 : decode cX6_band 93 = .ok (.ireturn, 1) := by decide +kernel
theorem dX6_creep_0 : decode cX6_creep 0 = .ok (.aload_n 0, 1) := by decide +kernel
theorem dX6_creep_1 : decode cX6_creep 1 = .ok (.getfield 27, 3) := by decide +kernel
theorem dX6_creep_4 : decode cX6_creep 4 = .ok (.iload_n 1, 1) := by decide +kernel
theorem dX6_creep_5 : decode cX6_creep 5 = .ok (.invokevirtual 66, 3) := by decide +kernel
theorem dX6_creep_8 : decode cX6_creep 8 = .ok (.ifCond .eq 14, 3) := by decide +kernel
theorem dX6_creep_11 : decode cX6_creep 11 = .ok (.iload_n 2, 1) := by decide +kernel
theorem dX6_creep_12 : decode cX6_creep 12 = .ok (.iconst 0, 1) := by decide +kernel
theorem dX6_creep_13 : decode cX6_creep 13 = .ok (.sipush 500, 3) := by decide +kernel
theorem dX6_creep_16 : decode cX6_creep 16 = .ok (.invokestatic 34, 3) := by decide +kernel
theorem dX6_creep_19 : decode cX6_creep 19 = .ok (.ifCond .ne 6, 3) := by decide +kernel
theorem dX6_creep_22 : decode cX6_creep 22 = .ok (.ldc 38, 2) := by decide +kernel
theorem dX6_creep_24 : decode cX6_creep 24 = .ok (.ireturn, 1) := by decide +kernel
theorem dX6_creep_25 : decode cX6_creep 25 = .ok (.aload_n 0, 1) := by decide +kernel
theorem dX6_creep_26 : decode cX6_creep 26 = .ok (.invokevirtual 46, 3) := by decide +kernel
theorem dX6_creep_29 : decode cX6_creep 29 = .ok (.aload_n 0, 1) := by decide +kernel
theorem dX6_creep_30 : decode cX6_creep 30 = .ok (.getfield 27, 3) := by decide +kernel
theorem dX6_creep_33 : decode cX6_creep 33 = .ok (.getfield 69, 3) := by decide +kernel
theorem dX6_creep_36 : decode cX6_creep 36 = .ok (.iload_n 1, 1) := by decide +kernel
theorem dX6_creep_37 : decode cX6_creep 37 = .ok (.aaload, 1) := by decide +kernel
theorem dX6_creep_38 : decode cX6_creep 38 = .ok (.getfield 73, 3) := by decide +kernel
theorem dX6_creep_41 : decode cX6_creep 41 = .ok (.istore_n 3, 1) := by decide +kernel
theorem dX6_creep_42 : decode cX6_creep 42 = .ok (.aload_n 0, 1) := by decide +kernel
theorem dX6_creep_43 : decode cX6_creep 43 = .ok (.getfield 27, 3) := by decide +kernel
theorem dX6_creep_46 : decode cX6_creep 46 = .ok (.getfield 69, 3) := by decide +kernel
theorem dX6_creep_49 : decode cX6_creep 49 = .ok (.iload_n 1, 1) := by decide +kernel
theorem dX6_creep_50 : decode cX6_creep 50 = .ok (.aaload, 1) := by decide +kernel
theorem dX6_creep_51 : decode cX6_creep 51 = .ok (.iload_n 2, 1) := by decide +kernel
theorem dX6_creep_52 : decode cX6_creep 52 = .ok (.putfield 73, 3) := by decide +kernel
theorem dX6_creep_55 : decode cX6_creep 55 = .ok (.iload_n 3, 1) := by decide +kernel
theorem dX6_creep_56 : decode cX6_creep 56 = .ok (.ireturn, 1) := by decide +kernel
theorem dX6_bandInfo_0 : decode cX6_bandInfo 0 = .ok (.aload_n 0, 1) := by decide +kernel
theorem dX6_bandInfo_1 : decode cX6_bandInfo 1 = .ok (.getfield 27, 3) := by decide +kernel
theorem dX6_bandInfo_4 : decode cX6_bandInfo 4 = .ok (.iload_n 1, 1) := by decide +kernel
theorem dX6_bandInfo_5 : decode cX6_bandInfo 5 = .ok (.invokevirtual 66, 3) := by decide +kernel
theorem dX6_bandInfo_8 : decode cX6_bandInfo 8 = .ok (.ifCond .eq 13, 3) := by decide +kernel
theorem dX6_bandInfo_11 : decode cX6_bandInfo 11 = .ok (.iload_n 2, 1) := by decide +kernel
theorem dX6_bandInfo_12 : decode cX6_bandInfo 12 = .ok (.iconst 0, 1) := by decide +kernel
theorem dX6_bandInfo_13 : decode cX6_bandInfo 13 = .ok (.bipush 11, 2) := by decide +kernel
theorem dX6_bandInfo_15 : decode cX6_bandInfo 15 = .ok (.invokestatic 34, 3) := by decide +kernel
theorem dX6_bandInfo_18 : decode cX6_bandInfo 18 = .ok (.ifCond .ne 6, 3) := by decide +kernel
theorem dX6_bandInfo_21 : decode cX6_bandInfo 21 = .ok (.ldc 38, 2) := by decide +kernel
theorem dX6_bandInfo_23 : decode cX6_bandInfo 23 = .ok (.ireturn, 1) := by decide +kernel
theorem dX6_bandInfo_24 : decode cX6_bandInfo 24 = .ok (.aload_n 0, 1) := by decide +kernel
theorem dX6_bandInfo_25 : decode cX6_bandInfo 25 = .ok (.getfield 27, 3) := by decide +kernel
theorem dX6_bandInfo_28 : decode cX6_bandInfo 28 = .ok (.getfield 69, 3) := by decide +kernel
theorem dX6_bandInfo_31 : decode cX6_bandInfo 31 = .ok (.iload_n 1, 1) := by decide +kernel
theorem dX6_bandInfo_32 : decode cX6_bandInfo 32 = .ok (.aaload, 1) := by decide +kernel
theorem dX6_bandInfo_33 : decode cX6_bandInfo 33 = .ok (.astore_n 3, 1) := by decide +kernel
theorem dX6_bandInfo_34 : decode cX6_bandInfo 34 = .ok (.iload_n 2, 1) := by decide +kernel
theorem dX6_bandInfo_35 : decode cX6_bandInfo 35 = .ok (.tableswitch 177 0 10 #[57, 62, 67, 72, 80, 88, 111, 134, 146, 167, 172], 57) := by decide +kernel
theorem dX6_bandInfo_92 : decode cX6_bandInfo 92 = .ok (.aload_n 3, 1) := by decide +kernel
theorem dX6_bandInfo_93 : decode cX6_bandInfo 93 = .ok (.getfield 78, 3) := by decide +kernel
theorem dX6_bandInfo_96 : decode cX6_bandInfo 96 = .ok (.ireturn, 1) := by decide +kernel
theorem dX6_bandInfo_97 : decode cX6_bandInfo 97 = .ok (.aload_n 3, 1) := by decide +kernel
theorem dX6_bandInfo_98 : decode cX6_bandInfo 98 = .ok (.getfield 81, 3) := by decide +kernel
theorem dX6_bandInfo_101 : decode cX6_bandInfo 101 = .ok (.ireturn, 1) := by decide +kernel
theorem dX6_bandInfo_102 : decode cX6_bandInfo 102 = .ok (.aload_n 3, 1) := by decide +kernel
theorem dX6_bandInfo_103 : decode cX6_bandInfo 103 = .ok (.getfield 73, 3) := by decide +kernel
theorem dX6_bandInfo_106 : decode cX6_bandInfo 106 = .ok (.ireturn, 1) := by decide +kernel
theorem dX6_bandInfo_107 : decode cX6_bandInfo 107 = .ok (.aload_n 3, 1) := by decide +kernel
theorem dX6_bandInfo_108 : decode cX6_bandInfo 108 = .ok (.getfield 84, 3) := by decide +kernel
theorem dX6_bandInfo_111 : decode cX6_bandInfo 111 = .ok (.getfield 88, 3) := by decide +kernel
theorem dX6_bandInfo_114 : decode cX6_bandInfo 114 = .ok (.ireturn, 1) := by decide +kernel
theorem dX6_bandInfo_115 : decode cX6_bandInfo 115 = .ok (.aload_n 3, 1) := by decide +kernel
theorem dX6_bandInfo_116 : decode cX6_bandInfo 116 = .ok (.getfield 84, 3) := by decide +kernel
theorem dX6_bandInfo_119 : decode cX6_bandInfo 119 = .ok (.invokevirtual 93, 3) := by decide +kernel
theorem dX6_bandInfo_122 : decode cX6_bandInfo 122 = .ok (.ireturn, 1) := by decide +kernel
theorem dX6_bandInfo_123 : decode cX6_bandInfo 123 = .ok (.aload_n 3, 1) := by decide +kernel
theorem dX6_bandInfo_124 : decode cX6_bandInfo 124 = .ok (.getfield 84, 3) := by decide +kernel
theorem dX6_bandInfo_127 : decode cX6_bandInfo 127 = .ok (.getfield 88, 3) := by decide +kernel
theorem dX6_bandInfo_130 : decode cX6_bandInfo 130 = .ok (.ifCond .ne 8, 3) := by decide +kernel
theorem dX6_bandInfo_133 : decode cX6_bandInfo 133 = .ok (.ldc 97, 2) := by decide +kernel
theorem dX6_bandInfo_135 : decode cX6_bandInfo 135 = .ok (.goto 10, 3) := by decide +kernel
theorem dX6_bandInfo_138 : decode cX6_bandInfo 138 = .ok (.aload_n 3, 1) := by decide +kernel
theorem dX6_bandInfo_139 : decode cX6_bandInfo 139 = .ok (.getfield 84, 3) := by decide +kernel
theorem dX6_bandInfo_142 : decode cX6_bandInfo 142 = .ok (.getfield 98, 3) := by decide +kernel
theorem dX6_bandInfo_145 : decode cX6_bandInfo 145 = .ok (.ireturn, 1) := by decide +kernel
theorem dX6_bandInfo_146 : decode cX6_bandInfo 146 = .ok (.aload_n 3, 1) := by decide +kernel
theorem dX6_bandInfo_147 : decode cX6_bandInfo 147 = .ok (.getfield 84, 3) := by decide +kernel
theorem dX6_bandInfo_150 : decode cX6_bandInfo 150 = .ok (.getfield 88, 3) := by decide +kernel
theorem dX6_bandInfo_153 : decode cX6_bandInfo 153 = .ok (.ifCond .ne 8, 3) := by decide +kernel
theorem dX6_bandInfo_156 : decode cX6_bandInfo 156 = .ok (.ldc 97, 2) := by decide +kernel
theorem dX6_bandInfo_158 : decode cX6_bandInfo 158 = .ok (.goto 10, 3) := by decide +kernel
theorem dX6_bandInfo_161 : decode cX6_bandInfo 161 = .ok (.aload_n 3, 1) := by decide +kernel
theorem dX6_bandInfo_162 : decode cX6_bandInfo 162 = .ok (.getfield 84, 3) := by decide +kernel
theorem dX6_bandInfo_165 : decode cX6_bandInfo 165 = .ok (.getfield 101, 3) := by decide +kernel
theorem dX6_bandInfo_168 : decode cX6_bandInfo 168 = .ok (.ireturn, 1) := by decide +kernel
theorem dX6_bandInfo_169 : decode cX6_bandInfo 169 = .ok (.aload_n 0, 1) := by decide +kernel
theorem dX6_bandInfo_170 : decode cX6_bandInfo 170 = .ok (.getfield 27, 3) := by decide +kernel
theorem dX6_bandInfo_173 : decode cX6_bandInfo 173 = .ok (.aload_n 3, 1) := by decide +kernel
theorem dX6_bandInfo_174 : decode cX6_bandInfo 174 = .ok (.getfield 78, 3) := by decide +kernel
theorem dX6_bandInfo_177 : decode cX6_bandInfo 177 = .ok (.invokevirtual 104, 3) := by decide +kernel
theorem dX6_bandInfo_180 : decode cX6_bandInfo 180 = .ok (.ireturn, 1) := by decide +kernel
theorem dX6_bandInfo_181 : decode cX6_bandInfo 181 = .ok (.aload_n 0, 1) := by decide +kernel
theorem dX6_bandInfo_182 : decode cX6_bandInfo 182 = .ok (.getfield 27, 3) := by decide +kernel
theorem dX6_bandInfo_185 : decode cX6_bandInfo 185 = .ok (.aload_n 3, 1) := by decide +kernel
theorem dX6_bandInfo_186 : decode cX6_bandInfo 186 = .ok (.getfield 78, 3) := by decide +kernel
theorem dX6_bandInfo_189 : decode cX6_bandInfo 189 = .ok (.aload_n 0, 1) := by decide +kernel
theorem dX6_bandInfo_190 : decode cX6_bandInfo 190 = .ok (.getfield 27, 3) := by decide +kernel
theorem dX6_bandInfo_193 : decode cX6_bandInfo 193 = .ok (.getfield 49, 3) := by decide +kernel
theorem dX6_bandInfo_196 : decode cX6_bandInfo 196 = .ok (.iconst 2, 1) := by decide +kernel
theorem dX6_bandInfo_197 : decode cX6_bandInfo 197 = .ok (.iaload, 1) := by decide +kernel
theorem dX6_bandInfo_198 : decode cX6_bandInfo 198 = .ok (.invokevirtual 108, 3) := by decide +kernel
theorem dX6_bandInfo_201 : decode cX6_bandInfo 201 = .ok (.ireturn, 1) := by decide +kernel
theorem dX6_bandInfo_202 : decode cX6_bandInfo 202 = .ok (.aload_n 3, 1) := by decide +kernel
theorem dX6_bandInfo_203 : decode cX6_bandInfo 203 = .ok (.getfield 112, 3) := by decide +kernel
theorem dX6_bandInfo_206 : decode cX6_bandInfo 206 = .ok (.ireturn, 1) := by decide +kernel
theorem dX6_bandInfo_207 : decode cX6_bandInfo 207 = .ok (.aload_n 3, 1) := by decide +kernel
theorem dX6_bandInfo_208 : decode cX6_bandInfo 208 = .ok (.getfield 115, 3) := by decide +kernel
theorem dX6_bandInfo_211 : decode cX6_bandInfo 211 = .ok (.ireturn, 1) := by decide +kernel
theorem dX6_bandInfo_212 : decode cX6_bandInfo 212 = .ok (.aload_n 3, 1) := by decide +kernel
theorem dX6_bandInfo_213 : decode cX6_bandInfo 213 = .ok (.getfield 118, 3) := by decide +kernel
theorem dX6_bandInfo_216 : decode cX6_bandInfo 216 = .ok (.ireturn, 1) := by decide +kernel
theorem dX6_layer_0 : decode cX6_layer 0 = .ok (.aload_n 0, 1) := by decide +kernel
theorem dX6_layer_1 : decode cX6_layer 1 = .ok (.getfield 27, 3) := by decide +kernel
theorem dX6_layer_4 : decode cX6_layer 4 = .ok (.iload_n 1, 1) := by decide +kernel
theorem dX6_layer_5 : decode cX6_layer 5 = .ok (.invokevirtual 66, 3) := by decide +kernel
theorem dX6_layer_8 : decode cX6_layer 8 = .ok (.ifCond .eq 16, 3) := by decide +kernel
theorem dX6_layer_11 : decode cX6_layer 11 = .ok (.iload_n 2, 1) := by decide +kernel
theorem dX6_layer_12 : decode cX6_layer 12 = .ok (.ifCond .lt 12, 3) := by decide +kernel
theorem dX6_layer_15 : decode cX6_layer 15 = .ok (.iload_n 3, 1) := by decide +kernel
theorem dX6_layer_16 : decode cX6_layer 16 = .ok (.iconst 0, 1) := by decide +kernel
theorem dX6_layer_17 : decode cX6_layer 17 = .ok (.iconst 1, 1) := by decide +kernel
theorem dX6_layer_18 : decode cX6_layer 18 = .ok (.invokestatic 34, 3) := by decide +kernel
theorem dX6_layer_21 : decode cX6_layer 21 = .ok (.ifCond .ne 6, 3) := by decide +kernel
theorem dX6_layer_24 : decode cX6_layer 24 = .ok (.ldc 38, 2) := by decide +kernel
theorem dX6_layer_26 : decode cX6_layer 26 = .ok (.ireturn, 1) := by decide +kernel
theorem dX6_layer_27 : decode cX6_layer 27 = .ok (.aload_n 0, 1) := by decide +kernel
theorem dX6_layer_28 : decode cX6_layer 28 = .ok (.getfield 27, 3) := by decide +kernel
theorem dX6_layer_31 : decode cX6_layer 31 = .ok (.getfield 69, 3) := by decide +kernel
theorem dX6_layer_34 : decode cX6_layer 34 = .ok (.iload_n 1, 1) := by decide +kernel
theorem dX6_layer_35 : decode cX6_layer 35 = .ok (.aaload, 1) := by decide +kernel
theorem dX6_layer_36 : decode cX6_layer 36 = .ok (.getfield 84, 3) := by decide +kernel
theorem dX6_layer_39 : decode cX6_layer 39 = .ok (.astore 4, 2) := by decide +kernel
theorem dX6_layer_41 : decode cX6_layer 41 = .ok (.aload 4, 2) := by decide +kernel
theorem dX6_layer_43 : decode cX6_layer 43 = .ok (.iload_n 2, 1) := by decide +kernel
theorem dX6_layer_44 : decode cX6_layer 44 = .ok (.invokevirtual 121, 3) := by decide +kernel
theorem dX6_layer_47 : decode cX6_layer 47 = .ok (.istore 5, 2) := by decide +kernel
theorem dX6_layer_49 : decode cX6_layer 49 = .ok (.iload 5, 2) := by decide +kernel
theorem dX6_layer_51 : decode cX6_layer 51 = .ok (.ifCond .ge 6, 3) := by decide +kernel
theorem dX6_layer_54 : decode cX6_layer 54 = .ok (.ldc 97, 2) := by decide +kernel
theorem dX6_layer_56 : decode cX6_layer 56 = .ok (.ireturn, 1) := by decide +kernel
theorem dX6_layer_57 : decode cX6_layer 57 = .ok (.iload_n 3, 1) := by decide +kernel
theorem dX6_layer_58 : decode cX6_layer 58 = .ok (.ifCond .ne 8, 3) := by decide +kernel
theorem dX6_layer_61 : decode cX6_layer 61 = .ok (.iload 5, 2) := by decide +kernel
theorem dX6_layer_63 : decode cX6_layer 63 = .ok (.goto 10, 3) := by decide +kernel
theorem dX6_layer_66 : decode cX6_layer 66 = .ok (.aload 4, 2) := by decide +kernel
theorem dX6_layer_68 : decode cX6_layer 68 = .ok (.iload 5, 2) := by decide +kernel
theorem dX6_layer_70 : decode cX6_layer 70 = .ok (.invokevirtual 124, 3) := by decide +kernel
theorem dX6_layer_73 : decode cX6_layer 73 = .ok (.ireturn, 1) := by decide +kernel
theorem dX6_ofYear_0 : decode cX6_ofYear 0 = .ok (.iload_n 1, 1) := by decide +kernel
theorem dX6_ofYear_1 : decode cX6_ofYear 1 = .ok (.iconst 0, 1) := by decide +kernel
theorem dX6_ofYear_2 : decode cX6_ofYear 2 = .ok (.sipush 500, 3) := by decide +kernel
theorem dX6_ofYear_5 : decode cX6_ofYear 5 = .ok (.invokestatic 34, 3) := by decide +kernel
theorem dX6_ofYear_8 : decode cX6_ofYear 8 = .ok (.ifCond .ne 6, 3) := by decide +kernel
theorem dX6_ofYear_11 : decode cX6_ofYear 11 = .ok (.ldc 38, 2) := by decide +kernel
theorem dX6_ofYear_13 : decode cX6_ofYear 13 = .ok (.ireturn, 1) := by decide +kernel
theorem dX6_ofYear_14 : decode cX6_ofYear 14 = .ok (.aload_n 0, 1) := by decide +kernel
theorem dX6_ofYear_15 : decode cX6_ofYear 15 = .ok (.getfield 27, 3) := by decide +kernel
theorem dX6_ofYear_18 : decode cX6_ofYear 18 = .ok (.iload_n 1, 1) := by decide +kernel
theorem dX6_ofYear_19 : decode cX6_ofYear 19 = .ok (.invokevirtual 127, 3) := by decide +kernel
theorem dX6_ofYear_22 : decode cX6_ofYear 22 = .ok (.ireturn, 1) := by decide +kernel
theorem dX6_line_0 : decode cX6_line 0 = .ok (.aload_n 0, 1) := by decide +kernel
theorem dX6_line_1 : decode cX6_line 1 = .ok (.getfield 27, 3) := by decide +kernel
theorem dX6_line_4 : decode cX6_line 4 = .ok (.getfield 58, 3) := by decide +kernel
theorem dX6_line_7 : decode cX6_line 7 = .ok (.iconst 1, 1) := by decide +kernel
theorem dX6_line_8 : decode cX6_line 8 = .ok (.isub, 1) := by decide +kernel
theorem dX6_line_9 : decode cX6_line 9 = .ok (.istore_n 1, 1) := by decide +kernel
theorem dX6_line_10 : decode cX6_line 10 = .ok (.iload_n 1, 1) := by decide +kernel
theorem dX6_line_11 : decode cX6_line 11 = .ok (.ifCond .lt 52, 3) := by decide +kernel
theorem dX6_line_14 : decode cX6_line 14 = .ok (.aload_n 0, 1) := by decide +kernel
theorem dX6_line_15 : decode cX6_line 15 = .ok (.getfield 27, 3) := by decide +kernel
theorem dX6_line_18 : decode cX6_line 18 = .ok (.getfield 69, 3) := by decide +kernel
theorem dX6_line_21 : decode cX6_line 21 = .ok (.iload_n 1, 1) := by decide +kernel
theorem dX6_line_22 : decode cX6_line 22 = .ok (.aaload, 1) := by decide +kernel
theorem dX6_line_23 : decode cX6_line 23 = .ok (.getfield 78, 3) := by decide +kernel
theorem dX6_line_26 : decode cX6_line 26 = .ok (.istore_n 2, 1) := by decide +kernel
theorem dX6_line_27 : decode cX6_line 27 = .ok (.aload_n 0, 1) := by decide +kernel
theorem dX6_line_28 : decode cX6_line 28 = .ok (.getfield 27, 3) := by decide +kernel
theorem dX6_line_31 : decode cX6_line 31 = .ok (.iload_n 2, 1) := by decide +kernel
theorem dX6_line_32 : decode cX6_line 32 = .ok (.invokevirtual 104, 3) := by decide +kernel
theorem dX6_line_35 : decode cX6_line 35 = .ok (.aload_n 0, 1) := by decide +kernel
theorem dX6_line_36 : decode cX6_line 36 = .ok (.getfield 27, 3) := by decide +kernel
theorem dX6_line_39 : decode cX6_line 39 = .ok (.iload_n 2, 1) := by decide +kernel
theorem dX6_line_40 : decode cX6_line 40 = .ok (.aload_n 0, 1) := by decide +kernel
theorem dX6_line_41 : decode cX6_line 41 = .ok (.getfield 27, 3) := by decide +kernel
theorem dX6_line_44 : decode cX6_line 44 = .ok (.getfield 49, 3) := by decide +kernel
theorem dX6_line_47 : decode cX6_line 47 = .ok (.iconst 2, 1) := by decide +kernel
theorem dX6_line_48 : decode cX6_line 48 = .ok (.iaload, 1) := by decide +kernel
theorem dX6_line_49 : decode cX6_line 49 = .ok (.invokevirtual 108, 3) := by decide +kernel
theorem dX6_line_52 : decode cX6_line 52 = .ok (.if_icmp .lt 5, 3) := by decide +kernel
theorem dX6_line_55 : decode cX6_line 55 = .ok (.iload_n 1, 1) := by decide +kernel
theorem dX6_line_56 : decode cX6_line 56 = .ok (.ireturn, 1) := by decide +kernel
theorem dX6_line_57 : decode cX6_line 57 = .ok (.iinc 1 (-1), 3) := by decide +kernel
theorem dX6_line_60 : decode cX6_line 60 = .ok (.goto (-50), 3) := by decide +kernel
theorem dX6_line_63 : decode cX6_line 63 = .ok (.ldc 97, 2) := by decide +kernel
theorem dX6_line_65 : decode cX6_line 65 = .ok (.ireturn, 1) := by decide +kernel
theorem dX6_front_0 : decode cX6_front 0 = .ok (.iload_n 1, 1) := by decide +kernel
theorem dX6_front_1 : decode cX6_front 1 = .ok (.iconst 0, 1) := by decide +kernel
theorem dX6_front_2 : decode cX6_front 2 = .ok (.iconst 3, 1) := by decide +kernel
theorem dX6_front_3 : decode cX6_front 3 = .ok (.invokestatic 34, 3) := by decide +kernel
theorem dX6_front_6 : decode cX6_front 6 = .ok (.ifCond .ne 6, 3) := by decide +kernel
theorem dX6_front_9 : decode cX6_front 9 = .ok (.ldc 38, 2) := by decide +kernel
theorem dX6_front_11 : decode cX6_front 11 = .ok (.ireturn, 1) := by decide +kernel
theorem dX6_front_12 : decode cX6_front 12 = .ok (.iload_n 1, 1) := by decide +kernel
theorem dX6_front_13 : decode cX6_front 13 = .ok (.tableswitch 60 0 2 #[27, 38, 49], 27) := by decide +kernel
theorem dX6_front_40 : decode cX6_front 40 = .ok (.aload_n 0, 1) := by decide +kernel
theorem dX6_front_41 : decode cX6_front 41 = .ok (.getfield 27, 3) := by decide +kernel
theorem dX6_front_44 : decode cX6_front 44 = .ok (.getfield 128, 3) := by decide +kernel
theorem dX6_front_47 : decode cX6_front 47 = .ok (.getfield 132, 3) := by decide +kernel
theorem dX6_front_50 : decode cX6_front 50 = .ok (.ireturn, 1) := by decide +kernel
theorem dX6_front_51 : decode cX6_front 51 = .ok (.aload_n 0, 1) := by decide +kernel
theorem dX6_front_52 : decode cX6_front 52 = .ok (.getfield 27, 3) := by decide +kernel
theorem dX6_front_55 : decode cX6_front 55 = .ok (.getfield 128, 3) := by decide +kernel
theorem dX6_front_58 : decode cX6_front 58 = .ok (.getfield 135, 3) := by decide +kernel
theorem dX6_front_61 : decode cX6_front 61 = .ok (.ireturn, 1) := by decide +kernel
theorem dX6_front_62 : decode cX6_front 62 = .ok (.aload_n 0, 1) := by decide +kernel
theorem dX6_front_63 : decode cX6_front 63 = .ok (.getfield 27, 3) := by decide +kernel
theorem dX6_front_66 : decode cX6_front 66 = .ok (.getfield 128, 3) := by decide +kernel
theorem dX6_front_69 : decode cX6_front 69 = .ok (.getfield 138, 3) := by decide +kernel
theorem dX6_front_72 : decode cX6_front 72 = .ok (.ireturn, 1) := by decide +kernel
theorem dX6_front_73 : decode cX6_front 73 = .ok (.aload_n 0, 1) := by decide +kernel
theorem dX6_front_74 : decode cX6_front 74 = .ok (.getfield 27, 3) := by decide +kernel
theorem dX6_front_77 : decode cX6_front 77 = .ok (.getfield 128, 3) := by decide +kernel
theorem dX6_front_80 : decode cX6_front 80 = .ok (.getfield 138, 3) := by decide +kernel
theorem dX6_front_83 : decode cX6_front 83 = .ok (.ifCond .ne 8, 3) := by decide +kernel
theorem dX6_front_86 : decode cX6_front 86 = .ok (.ldc 97, 2) := by decide +kernel
theorem dX6_front_88 : decode cX6_front 88 = .ok (.goto 13, 3) := by decide +kernel
theorem dX6_front_91 : decode cX6_front 91 = .ok (.aload_n 0, 1) := by decide +kernel
theorem dX6_front_92 : decode cX6_front 92 = .ok (.getfield 27, 3) := by decide +kernel
theorem dX6_front_95 : decode cX6_front 95 = .ok (.getfield 128, 3) := by decide +kernel
theorem dX6_front_98 : decode cX6_front 98 = .ok (.getfield 141, 3) := by decide +kernel
theorem dX6_front_101 : decode cX6_front 101 = .ok (.ireturn, 1) := by decide +kernel
theorem dX6_account_0 : decode cX6_account 0 = .ok (.iload_n 1, 1) := by decide +kernel
theorem dX6_account_1 : decode cX6_account 1 = .ok (.iconst 0, 1) := by decide +kernel
theorem dX6_account_2 : decode cX6_account 2 = .ok (.iconst 5, 1) := by decide +kernel
theorem dX6_account_3 : decode cX6_account 3 = .ok (.invokestatic 34, 3) := by decide +kernel
theorem dX6_account_6 : decode cX6_account 6 = .ok (.ifCond .ne 7, 3) := by decide +kernel
theorem dX6_account_9 : decode cX6_account 9 = .ok (.ldc2_w 144, 3) := by decide +kernel
theorem dX6_account_12 : decode cX6_account 12 = .ok (.lreturn, 1) := by decide +kernel
theorem dX6_account_13 : decode cX6_account 13 = .ok (.iload_n 1, 1) := by decide +kernel
theorem dX6_account_14 : decode cX6_account 14 = .ok (.tableswitch 74 0 4 #[34, 42, 50, 58, 66], 34) := by decide +kernel
theorem dX6_account_48 : decode cX6_account 48 = .ok (.aload_n 0, 1) := by decide +kernel
theorem dX6_account_49 : decode cX6_account 49 = .ok (.getfield 27, 3) := by decide +kernel
theorem dX6_account_52 : decode cX6_account 52 = .ok (.getfield 146, 3) := by decide +kernel
theorem dX6_account_55 : decode cX6_account 55 = .ok (.lreturn, 1) := by decide +kernel
theorem dX6_account_56 : decode cX6_account 56 = .ok (.aload_n 0, 1) := by decide +kernel
theorem dX6_account_57 : decode cX6_account 57 = .ok (.getfield 27, 3) := by decide +kernel
theorem dX6_account_60 : decode cX6_account 60 = .ok (.getfield 150, 3) := by decide +kernel
theorem dX6_account_63 : decode cX6_account 63 = .ok (.lreturn, 1) := by decide +kernel
theorem dX6_account_64 : decode cX6_account 64 = .ok (.aload_n 0, 1) := by decide +kernel
theorem dX6_account_65 : decode cX6_account 65 = .ok (.getfield 27, 3) := by decide +kernel
theorem dX6_account_68 : decode cX6_account 68 = .ok (.getfield 153, 3) := by decide +kernel
theorem dX6_account_71 : decode cX6_account 71 = .ok (.lreturn, 1) := by decide +kernel
theorem dX6_account_72 : decode cX6_account 72 = .ok (.aload_n 0, 1) := by decide +kernel
theorem dX6_account_73 : decode cX6_account 73 = .ok (.getfield 27, 3) := by decide +kernel
theorem dX6_account_76 : decode cX6_account 76 = .ok (.getfield 155, 3) := by decide +kernel
theorem dX6_account_79 : decode cX6_account 79 = .ok (.lreturn, 1) := by decide +kernel
theorem dX6_account_80 : decode cX6_account 80 = .ok (.aload_n 0, 1) := by decide +kernel
theorem dX6_account_81 : decode cX6_account 81 = .ok (.getfield 27, 3) := by decide +kernel
theorem dX6_account_84 : decode cX6_account 84 = .ok (.invokevirtual 158, 3) := by decide +kernel
theorem dX6_account_87 : decode cX6_account 87 = .ok (.lreturn, 1) := by decide +kernel
theorem dX6_account_88 : decode cX6_account 88 = .ok (.aload_n 0, 1) := by decide +kernel
theorem dX6_account_89 : decode cX6_account 89 = .ok (.getfield 27, 3) := by decide +kernel
theorem dX6_account_92 : decode cX6_account 92 = .ok (.invokevirtual 162, 3) := by decide +kernel
theorem dX6_account_95 : decode cX6_account 95 = .ok (.lreturn, 1) := by decide +kernel
theorem dX6_count_0 : decode cX6_count 0 = .ok (.iload_n 1, 1) := by decide +kernel
theorem dX6_count_1 : decode cX6_count 1 = .ok (.iconst 0, 1) := by decide +kernel
theorem dX6_count_2 : decode cX6_count 2 = .ok (.bipush 14, 2) := by decide +kernel
theorem dX6_count_4 : decode cX6_count 4 = .ok (.invokestatic 34, 3) := by decide +kernel
theorem dX6_count_7 : decode cX6_count 7 = .ok (.ifCond .ne 6, 3) := by decide +kernel
theorem dX6_count_10 : decode cX6_count 10 = .ok (.ldc 38, 2) := by decide +kernel
theorem dX6_count_12 : decode cX6_count 12 = .ok (.ireturn, 1) := by decide +kernel
theorem dX6_count_13 : decode cX6_count 13 = .ok (.iload_n 1, 1) := by decide +kernel
theorem dX6_count_14 : decode cX6_count 14 = .ok (.bipush 6, 2) := by decide +kernel
theorem dX6_count_16 : decode cX6_count 16 = .ok (.bipush 12, 2) := by decide +kernel
theorem dX6_count_18 : decode cX6_count 18 = .ok (.invokestatic 34, 3) := by decide +kernel
theorem dX6_count_21 : decode cX6_count 21 = .ok (.ifCond .eq 16, 3) := by decide +kernel
theorem dX6_count_24 : decode cX6_count 24 = .ok (.aload_n 0, 1) := by decide +kernel
theorem dX6_count_25 : decode cX6_count 25 = .ok (.getfield 27, 3) := by decide +kernel
theorem dX6_count_28 : decode cX6_count 28 = .ok (.getfield 49, 3) := by decide +kernel
theorem dX6_count_31 : decode cX6_count 31 = .ok (.iload_n 1, 1) := by decide +kernel
theorem dX6_count_32 : decode cX6_count 32 = .ok (.bipush 6, 2) := by decide +kernel
theorem dX6_count_34 : decode cX6_count 34 = .ok (.isub, 1) := by decide +kernel
theorem dX6_count_35 : decode cX6_count 35 = .ok (.iaload, 1) := by decide +kernel
theorem dX6_count_36 : decode cX6_count 36 = .ok (.ireturn, 1) := by decide +kernel
theorem dX6_count_37 : decode cX6_count 37 = .ok (.iload_n 1, 1) := by decide +kernel
theorem dX6_count_38 : decode cX6_count 38 = .ok (.tableswitch 123 0 13 #[70, 78, 86, 94, 102, 110, 123, 123, 123, 123, 123, 123, 123, 118], 70) := by decide +kernel
theorem dX6_count_108 : decode cX6_count 108 = .ok (.aload_n 0, 1) := by decide +kernel
theorem dX6_count_109 : decode cX6_count 109 = .ok (.getfield 27, 3) := by decide +kernel
theorem dX6_count_112 : decode cX6_count 112 = .ok (.getfield 58, 3) := by decide +kernel
theorem dX6_count_115 : decode cX6_count 115 = .ok (.ireturn, 1) := by decide +kernel
theorem dX6_count_116 : decode cX6_count 116 = .ok (.aload_n 0, 1) := by decide +kernel
theorem dX6_count_117 : decode cX6_count 117 = .ok (.getfield 27, 3) := by decide +kernel
theorem dX6_count_120 : decode cX6_count 120 = .ok (.getfield 165, 3) := by decide +kernel
theorem dX6_count_123 : decode cX6_count 123 = .ok (.ireturn, 1) := by decide +kernel
theorem dX6_count_124 : decode cX6_count 124 = .ok (.aload_n 0, 1) := by decide +kernel
theorem dX6_count_125 : decode cX6_count 125 = .ok (.getfield 27, 3) := by decide +kernel
theorem dX6_count_128 : decode cX6_count 128 = .ok (.getfield 168, 3) := by decide +kernel
theorem dX6_count_131 : decode cX6_count 131 = .ok (.ireturn, 1) := by decide +kernel
theorem dX6_count_132 : decode cX6_count 132 = .ok (.aload_n 0, 1) := by decide +kernel
theorem dX6_count_133 : decode cX6_count 133 = .ok (.getfield 27, 3) := by decide +kernel
theorem dX6_count_136 : decode cX6_count 136 = .ok (.invokevirtual 171, 3) := by decide +kernel
theorem dX6_count_139 : decode cX6_count 139 = .ok (.ireturn, 1) := by decide +kernel
theorem dX6_count_140 : decode cX6_count 140 = .ok (.aload_n 0, 1) := by decide +kernel
theorem dX6_count_141 : decode cX6_count 141 = .ok (.getfield 27, 3) := by decide +kernel
theorem dX6_count_144 : decode cX6_count 144 = .ok (.invokevirtual 174, 3) := by decide +kernel
theorem dX6_count_147 : decode cX6_count 147 = .ok (.ireturn, 1) := by decide +kernel
theorem dX6_count_148 : decode cX6_count 148 = .ok (.aload_n 0, 1) := by decide +kernel
theorem dX6_count_149 : decode cX6_count 149 = .ok (.getfield 27, 3) := by decide +kernel
theorem dX6_count_152 : decode cX6_count 152 = .ok (.invokevirtual 177, 3) := by decide +kernel
theorem dX6_count_155 : decode cX6_count 155 = .ok (.ireturn, 1) := by decide +kernel
theorem dX6_count_156 : decode cX6_count 156 = .ok (.aload_n 0, 1) := by decide +kernel
theorem dX6_count_157 : decode cX6_count 157 = .ok (.getfield 30, 3) := by decide +kernel
theorem dX6_count_160 : decode cX6_count 160 = .ok (.ireturn, 1) := by decide +kernel
theorem dX6_count_161 : decode cX6_count 161 = .ok (.aload_n 0, 1) := by decide +kernel
theorem dX6_count_162 : decode cX6_count 162 = .ok (.getfield 23, 3) := by decide +kernel
theorem dX6_count_165 : decode cX6_count 165 = .ok (.getfield 180, 3) := by decide +kernel
theorem dX6_count_168 : decode cX6_count 168 = .ok (.ireturn, 1) := by decide +kernel
theorem dX6_stake_0 : decode cX6_stake 0 = .ok (.aload_n 0, 1) := by decide +kernel
theorem dX6_stake_1 : decode cX6_stake 1 = .ok (.getfield 27, 3) := by decide +kernel
theorem dX6_stake_4 : decode cX6_stake 4 = .ok (.iload_n 1, 1) := by decide +kernel
theorem dX6_stake_5 : decode cX6_stake 5 = .ok (.invokevirtual 66, 3) := by decide +kernel
theorem dX6_stake_8 : decode cX6_stake 8 = .ok (.ifCond .eq 36, 3) := by decide +kernel
theorem dX6_stake_11 : decode cX6_stake 11 = .ok (.iload_n 2, 1) := by decide +kernel
theorem dX6_stake_12 : decode cX6_stake 12 = .ok (.iconst 0, 1) := by decide +kernel
theorem dX6_stake_13 : decode cX6_stake 13 = .ok (.aload_n 0, 1) := by decide +kernel
theorem dX6_stake_14 : decode cX6_stake 14 = .ok (.getfield 27, 3) := by decide +kernel
theorem dX6_stake_17 : decode cX6_stake 17 = .ok (.getfield 69, 3) := by decide +kernel
theorem dX6_stake_20 : decode cX6_stake 20 = .ok (.iload_n 1, 1) := by decide +kernel
theorem dX6_stake_21 : decode cX6_stake 21 = .ok (.aaload, 1) := by decide +kernel
theorem dX6_stake_22 : decode cX6_stake 22 = .ok (.getfield 81, 3) := by decide +kernel
theorem dX6_stake_25 : decode cX6_stake 25 = .ok (.iconst 1, 1) := by decide +kernel
theorem dX6_stake_26 : decode cX6_stake 26 = .ok (.isub, 1) := by decide +kernel
theorem dX6_stake_27 : decode cX6_stake 27 = .ok (.invokestatic 34, 3) := by decide +kernel
theorem dX6_stake_30 : decode cX6_stake 30 = .ok (.ifCond .eq 14, 3) := by decide +kernel
theorem dX6_stake_33 : decode cX6_stake 33 = .ok (.iload_n 3, 1) := by decide +kernel
theorem dX6_stake_34 : decode cX6_stake 34 = .ok (.iconst 1, 1) := by decide +kernel
theorem dX6_stake_35 : decode cX6_stake 35 = .ok (.sipush 10000, 3) := by decide +kernel
theorem dX6_stake_38 : decode cX6_stake 38 = .ok (.invokestatic 34, 3) := by decide +kernel
theorem dX6_stake_41 : decode cX6_stake 41 = .ok (.ifCond .ne 6, 3) := by decide +kernel
theorem dX6_stake_44 : decode cX6_stake 44 = .ok (.ldc 38, 2) := by decide +kernel
theorem dX6_stake_46 : decode cX6_stake 46 = .ok (.ireturn, 1) := by decide +kernel
theorem dX6_stake_47 : decode cX6_stake 47 = .ok (.aload_n 0, 1) := by decide +kernel
theorem dX6_stake_48 : decode cX6_stake 48 = .ok (.getfield 27, 3) := by decide +kernel
theorem dX6_stake_51 : decode cX6_stake 51 = .ok (.iload_n 1, 1) := by decide +kernel
theorem dX6_stake_52 : decode cX6_stake 52 = .ok (.iload_n 2, 1) := by decide +kernel
theorem dX6_stake_53 : decode cX6_stake 53 = .ok (.invokevirtual 181, 3) := by decide +kernel
theorem dX6_stake_56 : decode cX6_stake 56 = .ok (.ifCond .eq 6, 3) := by decide +kernel
theorem dX6_stake_59 : decode cX6_stake 59 = .ok (.ldc 57, 2) := by decide +kernel
theorem dX6_stake_61 : decode cX6_stake 61 = .ok (.ireturn, 1) := by decide +kernel
theorem dX6_stake_62 : decode cX6_stake 62 = .ok (.aload_n 0, 1) := by decide +kernel
theorem dX6_stake_63 : decode cX6_stake 63 = .ok (.getfield 27, 3) := by decide +kernel
theorem dX6_stake_66 : decode cX6_stake 66 = .ok (.getfield 168, 3) := by decide +kernel
theorem dX6_stake_69 : decode cX6_stake 69 = .ok (.bipush 6, 2) := by decide +kernel
theorem dX6_stake_71 : decode cX6_stake 71 = .ok (.if_icmp .lt 6, 3) := by decide +kernel
theorem dX6_stake_74 : decode cX6_stake 74 = .ok (.ldc 61, 2) := by decide +kernel
theorem dX6_stake_76 : decode cX6_stake 76 = .ok (.ireturn, 1) := by decide +kernel
theorem dX6_stake_77 : decode cX6_stake 77 = .ok (.aload_n 0, 1) := by decide +kernel
theorem dX6_stake_78 : decode cX6_stake 78 = .ok (.invokevirtual 46, 3) := by decide +kernel
theorem dX6_stake_81 : decode cX6_stake 81 = .ok (.aload_n 0, 1) := by decide +kernel
theorem dX6_stake_82 : decode cX6_stake 82 = .ok (.getfield 27, 3) := by decide +kernel
theorem dX6_stake_85 : decode cX6_stake 85 = .ok (.iload_n 1, 1) := by decide +kernel
theorem dX6_stake_86 : decode cX6_stake 86 = .ok (.iload_n 2, 1) := by decide +kernel
theorem dX6_stake_87 : decode cX6_stake 87 = .ok (.iload_n 3, 1) := by decide +kernel
theorem dX6_stake_88 : decode cX6_stake 88 = .ok (.invokevirtual 185, 3) := by decide +kernel
theorem dX6_stake_91 : decode cX6_stake 91 = .ok (.ireturn, 1) := by decide +kernel
theorem dX6_pull_0 : decode cX6_pull 0 = .ok (.aload_n 0, 1) := by decide +kernel
theorem dX6_pull_1 : decode cX6_pull 1 = .ok (.getfield 27, 3) := by decide +kernel
theorem dX6_pull_4 : decode cX6_pull 4 = .ok (.iload_n 1, 1) := by decide +kernel
theorem dX6_pull_5 : decode cX6_pull 5 = .ok (.invokevirtual 189, 3) := by decide +kernel
theorem dX6_pull_8 : decode cX6_pull 8 = .ok (.ifCond .ne 6, 3) := by decide +kernel
theorem dX6_pull_11 : decode cX6_pull 11 = .ok (.ldc 38, 2) := by decide +kernel
theorem dX6_pull_13 : decode cX6_pull 13 = .ok (.ireturn, 1) := by decide +kernel
theorem dX6_pull_14 : decode cX6_pull 14 = .ok (.aload_n 0, 1) := by decide +kernel
theorem dX6_pull_15 : decode cX6_pull 15 = .ok (.invokevirtual 46, 3) := by decide +kernel
theorem dX6_pull_18 : decode cX6_pull 18 = .ok (.aload_n 0, 1) := by decide +kernel
theorem dX6_pull_19 : decode cX6_pull 19 = .ok (.getfield 27, 3) := by decide +kernel
theorem dX6_pull_22 : decode cX6_pull 22 = .ok (.iload_n 1, 1) := by decide +kernel
theorem dX6_pull_23 : decode cX6_pull 23 = .ok (.invokevirtual 192, 3) := by decide +kernel
theorem dX6_pull_26 : decode cX6_pull 26 = .ok (.ireturn, 1) := by decide +kernel
theorem dX6_stakeInfo_0 : decode cX6_stakeInfo 0 = .ok (.aload_n 0, 1) := by decide +kernel
theorem dX6_stakeInfo_1 : decode cX6_stakeInfo 1 = .ok (.getfield 27, 3) := by decide +kernel
theorem dX6_stakeInfo_4 : decode cX6_stakeInfo 4 = .ok (.iload_n 1, 1) := by decide +kernel
theorem dX6_stakeInfo_5 : decode cX6_stakeInfo 5 = .ok (.invokevirtual 189, 3) := by decide +kernel
theorem dX6_stakeInfo_8 : decode cX6_stakeInfo 8 = .ok (.ifCond .eq 12, 3) := by decide +kernel
theorem dX6_stakeInfo_11 : decode cX6_stakeInfo 11 = .ok (.iload_n 2, 1) := by decide +kernel
theorem dX6_stakeInfo_12 : decode cX6_stakeInfo 12 = .ok (.iconst 0, 1) := by decide +kernel
theorem dX6_stakeInfo_13 : decode cX6_stakeInfo 13 = .ok (.iconst 5, 1) := by decide +kernel
theorem dX6_stakeInfo_14 : decode cX6_stakeInfo 14 = .ok (.invokestatic 34, 3) := by decide +kernel
theorem dX6_stakeInfo_17 : decode cX6_stakeInfo 17 = .ok (.ifCond .ne 6, 3) := by decide +kernel
theorem dX6_stakeInfo_20 : decode cX6_stakeInfo 20 = .ok (.ldc 38, 2) := by decide +kernel
theorem dX6_stakeInfo_22 : decode cX6_stakeInfo 22 = .ok (.ireturn, 1) := by decide +kernel
theorem dX6_stakeInfo_23 : decode cX6_stakeInfo 23 = .ok (.aload_n 0, 1) := by decide +kernel
theorem dX6_stakeInfo_24 : decode cX6_stakeInfo 24 = .ok (.getfield 27, 3) := by decide +kernel
theorem dX6_stakeInfo_27 : decode cX6_stakeInfo 27 = .ok (.getfield 195, 3) := by decide +kernel
theorem dX6_stakeInfo_30 : decode cX6_stakeInfo 30 = .ok (.iload_n 1, 1) := by decide +kernel
theorem dX6_stakeInfo_31 : decode cX6_stakeInfo 31 = .ok (.aaload, 1) := by decide +kernel
theorem dX6_stakeInfo_32 : decode cX6_stakeInfo 32 = .ok (.astore_n 3, 1) := by decide +kernel
theorem dX6_stakeInfo_33 : decode cX6_stakeInfo 33 = .ok (.iload_n 2, 1) := by decide +kernel
theorem dX6_stakeInfo_34 : decode cX6_stakeInfo 34 = .ok (.tableswitch 59 0 4 #[34, 39, 44, 49, 54], 34) := by decide +kernel
theorem dX6_stakeInfo_68 : decode cX6_stakeInfo 68 = .ok (.aload_n 3, 1) := by decide +kernel
theorem dX6_stakeInfo_69 : decode cX6_stakeInfo 69 = .ok (.getfield 199, 3) := by decide +kernel
theorem dX6_stakeInfo_72 : decode cX6_stakeInfo 72 = .ok (.ireturn, 1) := by decide +kernel
theorem dX6_stakeInfo_73 : decode cX6_stakeInfo 73 = .ok (.aload_n 3, 1) := by decide +kernel
theorem dX6_stakeInfo_74 : decode cX6_stakeInfo 74 = .ok (.getfield 204, 3) := by decide +kernel
theorem dX6_stakeInfo_77 : decode cX6_stakeInfo 77 = .ok (.ireturn, 1) := by decide +kernel
theorem dX6_stakeInfo_78 : decode cX6_stakeInfo 78 = .ok (.aload_n 3, 1) := by decide +kernel
theorem dX6_stakeInfo_79 : decode cX6_stakeInfo 79 = .ok (.getfield 207, 3) := by decide +kernel
theorem dX6_stakeInfo_82 : decode cX6_stakeInfo 82 = .ok (.ireturn, 1) := by decide +kernel
theorem dX6_stakeInfo_83 : decode cX6_stakeInfo 83 = .ok (.aload_n 3, 1) := by decide +kernel
theorem dX6_stakeInfo_84 : decode cX6_stakeInfo 84 = .ok (.getfield 210, 3) := by decide +kernel
theorem dX6_stakeInfo_87 : decode cX6_stakeInfo 87 = .ok (.ireturn, 1) := by decide +kernel
theorem dX6_stakeInfo_88 : decode cX6_stakeInfo 88 = .ok (.aload_n 3, 1) := by decide +kernel
theorem dX6_stakeInfo_89 : decode cX6_stakeInfo 89 = .ok (.getfield 213, 3) := by decide +kernel
theorem dX6_stakeInfo_92 : decode cX6_stakeInfo 92 = .ok (.ireturn, 1) := by decide +kernel
theorem dX6_stakeInfo_93 : decode cX6_stakeInfo 93 = .ok (.aload_n 3, 1) := by decide +kernel
theorem dX6_stakeInfo_94 : decode cX6_stakeInfo 94 = .ok (.getfield 216, 3) := by decide +kernel
theorem dX6_stakeInfo_97 : decode cX6_stakeInfo 97 = .ok (.ireturn, 1) := by decide +kernel
theorem dX6_stakesIn_0 : decode cX6_stakesIn 0 = .ok (.aload_n 0, 1) := by decide +kernel
theorem dX6_stakesIn_1 : decode cX6_stakesIn 1 = .ok (.getfield 27, 3) := by decide +kernel
theorem dX6_stakesIn_4 : decode cX6_stakesIn 4 = .ok (.iload_n 1, 1) := by decide +kernel
theorem dX6_stakesIn_5 : decode cX6_stakesIn 5 = .ok (.invokevirtual 66, 3) := by decide +kernel
theorem dX6_stakesIn_8 : decode cX6_stakesIn 8 = .ok (.ifCond .ne 6, 3) := by decide +kernel
theorem dX6_stakesIn_11 : decode cX6_stakesIn 11 = .ok (.ldc 38, 2) := by decide +kernel
theorem dX6_stakesIn_13 : decode cX6_stakesIn 13 = .ok (.ireturn, 1) := by decide +kernel
theorem dX6_stakesIn_14 : decode cX6_stakesIn 14 = .ok (.iconst 0, 1) := by decide +kernel
theorem dX6_stakesIn_15 : decode cX6_stakesIn 15 = .ok (.istore_n 2, 1) := by decide +kernel
theorem dX6_stakesIn_16 : decode cX6_stakesIn 16 = .ok (.iconst 0, 1) := by decide +kernel
theorem dX6_stakesIn_17 : decode cX6_stakesIn 17 = .ok (.istore_n 3, 1) := by decide +kernel
theorem dX6_stakesIn_18 : decode cX6_stakesIn 18 = .ok (.iload_n 3, 1) := by decide +kernel
theorem dX6_stakesIn_19 : decode cX6_stakesIn 19 = .ok (.aload_n 0, 1) := by decide +kernel
theorem dX6_stakesIn_20 : decode cX6_stakesIn 20 = .ok (.getfield 27, 3) := by decide +kernel
theorem dX6_stakesIn_23 : decode cX6_stakesIn 23 = .ok (.getfield 168, 3) := by decide +kernel
theorem dX6_stakesIn_26 : decode cX6_stakesIn 26 = .ok (.if_icmp .ge 46, 3) := by decide +kernel
theorem dX6_stakesIn_29 : decode cX6_stakesIn 29 = .ok (.aload_n 0, 1) := by decide +kernel
theorem dX6_stakesIn_30 : decode cX6_stakesIn 30 = .ok (.getfield 27, 3) := by decide +kernel
theorem dX6_stakesIn_33 : decode cX6_stakesIn 33 = .ok (.getfield 195, 3) := by decide +kernel
theorem dX6_stakesIn_36 : decode cX6_stakesIn 36 = .ok (.iload_n 3, 1) := by decide +kernel
theorem dX6_stakesIn_37 : decode cX6_stakesIn 37 = .ok (.aaload, 1) := by decide +kernel
theorem dX6_stakesIn_38 : decode cX6_stakesIn 38 = .ok (.getfield 213, 3) := by decide +kernel
theorem dX6_stakesIn_41 : decode cX6_stakesIn 41 = .ok (.ifCond .ne 25, 3) := by decide +kernel
theorem dX6_stakesIn_44 : decode cX6_stakesIn 44 = .ok (.aload_n 0, 1) := by decide +kernel
theorem dX6_stakesIn_45 : decode cX6_stakesIn 45 = .ok (.getfield 27, 3) := by decide +kernel
theorem dX6_stakesIn_48 : decode cX6_stakesIn 48 = .ok (.getfield 195, 3) := by decide +kernel
theorem dX6_stakesIn_51 : decode cX6_stakesIn 51 = .ok (.iload_n 3, 1) := by decide +kernel
theorem dX6_stakesIn_52 : decode cX6_stakesIn 52 = .ok (.aaload, 1) := by decide +kernel
theorem dX6_stakesIn_53 : decode cX6_stakesIn 53 = .ok (.getfield 199, 3) := by decide +kernel
theorem dX6_stakesIn_56 : decode cX6_stakesIn 56 = .ok (.iload_n 1, 1) := by decide +kernel
theorem dX6_stakesIn_57 : decode cX6_stakesIn 57 = .ok (.if_icmp .ne 9, 3) := by decide +kernel
theorem dX6_stakesIn_60 : decode cX6_stakesIn 60 = .ok (.iload_n 2, 1) := by decide +kernel
theorem dX6_stakesIn_61 : decode cX6_stakesIn 61 = .ok (.iconst 1, 1) := by decide +kernel
theorem dX6_stakesIn_62 : decode cX6_stakesIn 62 = .ok (.iload_n 3, 1) := by decide +kernel
theorem dX6_stakesIn_63 : decode cX6_stakesIn 63 = .ok (.ishl, 1) := by decide +kernel
theorem dX6_stakesIn_64 : decode cX6_stakesIn 64 = .ok (.ior, 1) := by decide +kernel
theorem dX6_stakesIn_65 : decode cX6_stakesIn 65 = .ok (.istore_n 2, 1) := by decide +kernel
theorem dX6_stakesIn_66 : decode cX6_stakesIn 66 = .ok (.iinc 3 1, 3) := by decide +kernel
theorem dX6_stakesIn_69 : decode cX6_stakesIn 69 = .ok (.goto (-51), 3) := by decide +kernel
theorem dX6_stakesIn_72 : decode cX6_stakesIn 72 = .ok (.iload_n 2, 1) := by decide +kernel
theorem dX6_stakesIn_73 : decode cX6_stakesIn 73 = .ok (.ireturn, 1) := by decide +kernel
theorem dX6_years_0 : decode cX6_years 0 = .ok (.iload_n 1, 1) := by decide +kernel
theorem dX6_years_1 : decode cX6_years 1 = .ok (.iconst 1, 1) := by decide +kernel
theorem dX6_years_2 : decode cX6_years 2 = .ok (.bipush 100, 2) := by decide +kernel
theorem dX6_years_4 : decode cX6_years 4 = .ok (.invokestatic 34, 3) := by decide +kernel
theorem dX6_years_7 : decode cX6_years 7 = .ok (.ifCond .ne 6, 3) := by decide +kernel
theorem dX6_years_10 : decode cX6_years 10 = .ok (.ldc 38, 2) := by decide +kernel
theorem dX6_years_12 : decode cX6_years 12 = .ok (.ireturn, 1) := by decide +kernel
theorem dX6_years_13 : decode cX6_years 13 = .ok (.aload_n 0, 1) := by decide +kernel
theorem dX6_years_14 : decode cX6_years 14 = .ok (.getfield 27, 3) := by decide +kernel
theorem dX6_years_17 : decode cX6_years 17 = .ok (.getfield 58, 3) := by decide +kernel
theorem dX6_years_20 : decode cX6_years 20 = .ok (.ifCond .ne 6, 3) := by decide +kernel
theorem dX6_years_23 : decode cX6_years 23 = .ok (.ldc 57, 2) := by decide +kernel
theorem dX6_years_25 : decode cX6_years 25 = .ok (.ireturn, 1) := by decide +kernel
theorem dX6_years_26 : decode cX6_years 26 = .ok (.aload_n 0, 1) := by decide +kernel
theorem dX6_years_27 : decode cX6_years 27 = .ok (.getfield 27, 3) := by decide +kernel
theorem dX6_years_30 : decode cX6_years 30 = .ok (.getfield 165, 3) := by decide +kernel
theorem dX6_years_33 : decode cX6_years 33 = .ok (.iload_n 1, 1) := by decide +kernel
theorem dX6_years_34 : decode cX6_years 34 = .ok (.iadd, 1) := by decide +kernel
theorem dX6_years_35 : decode cX6_years 35 = .ok (.sipush 500, 3) := by decide +kernel
theorem dX6_years_38 : decode cX6_years 38 = .ok (.if_icmp .le 6, 3) := by decide +kernel
theorem dX6_years_41 : decode cX6_years 41 = .ok (.ldc 61, 2) := by decide +kernel
theorem dX6_years_43 : decode cX6_years 43 = .ok (.ireturn, 1) := by decide +kernel
theorem dX6_years_44 : decode cX6_years 44 = .ok (.aload_n 0, 1) := by decide +kernel
theorem dX6_years_45 : decode cX6_years 45 = .ok (.invokevirtual 46, 3) := by decide +kernel
theorem dX6_years_48 : decode cX6_years 48 = .ok (.aload_n 0, 1) := by decide +kernel
theorem dX6_years_49 : decode cX6_years 49 = .ok (.getfield 27, 3) := by decide +kernel
theorem dX6_years_52 : decode cX6_years 52 = .ok (.getfield 128, 3) := by decide +kernel
theorem dX6_years_55 : decode cX6_years 55 = .ok (.getfield 138, 3) := by decide +kernel
theorem dX6_years_58 : decode cX6_years 58 = .ok (.istore_n 2, 1) := by decide +kernel
theorem dX6_years_59 : decode cX6_years 59 = .ok (.aload_n 0, 1) := by decide +kernel
theorem dX6_years_60 : decode cX6_years 60 = .ok (.getfield 27, 3) := by decide +kernel
theorem dX6_years_63 : decode cX6_years 63 = .ok (.iload_n 1, 1) := by decide +kernel
theorem dX6_years_64 : decode cX6_years 64 = .ok (.invokevirtual 219, 3) := by decide +kernel
theorem dX6_years_67 : decode cX6_years 67 = .ok (.aload_n 0, 1) := by decide +kernel
theorem dX6_years_68 : decode cX6_years 68 = .ok (.getfield 27, 3) := by decide +kernel
theorem dX6_years_71 : decode cX6_years 71 = .ok (.getfield 128, 3) := by decide +kernel
theorem dX6_years_74 : decode cX6_years 74 = .ok (.getfield 138, 3) := by decide +kernel
theorem dX6_years_77 : decode cX6_years 77 = .ok (.iload_n 2, 1) := by decide +kernel
theorem dX6_years_78 : decode cX6_years 78 = .ok (.isub, 1) := by decide +kernel
theorem dX6_years_79 : decode cX6_years 79 = .ok (.ireturn, 1) := by decide +kernel
theorem dX6_ifYears_0 : decode cX6_ifYears 0 = .ok (.iload_n 1, 1) := by decide +kernel
theorem dX6_ifYears_1 : decode cX6_ifYears 1 = .ok (.iconst 1, 1) := by decide +kernel
theorem dX6_ifYears_2 : decode cX6_ifYears 2 = .ok (.bipush 100, 2) := by decide +kernel
theorem dX6_ifYears_4 : decode cX6_ifYears 4 = .ok (.invokestatic 34, 3) := by decide +kernel
theorem dX6_ifYears_7 : decode cX6_ifYears 7 = .ok (.ifCond .eq 12, 3) := by decide +kernel
theorem dX6_ifYears_10 : decode cX6_ifYears 10 = .ok (.iload_n 2, 1) := by decide +kernel
theorem dX6_ifYears_11 : decode cX6_ifYears 11 = .ok (.iconst 0, 1) := by decide +kernel
theorem dX6_ifYears_12 : decode cX6_ifYears 12 = .ok (.iconst 4, 1) := by decide +kernel
theorem dX6_ifYears_13 : decode cX6_ifYears 13 = .ok (.invokestatic 34, 3) := by decide +kernel
theorem dX6_ifYears_16 : decode cX6_ifYears 16 = .ok (.ifCond .ne 6, 3) := by decide +kernel
theorem dX6_ifYears_19 : decode cX6_ifYears 19 = .ok (.ldc 38, 2) := by decide +kernel
theorem dX6_ifYears_21 : decode cX6_ifYears 21 = .ok (.ireturn, 1) := by decide +kernel
theorem dX6_ifYears_22 : decode cX6_ifYears 22 = .ok (.aload_n 0, 1) := by decide +kernel
theorem dX6_ifYears_23 : decode cX6_ifYears 23 = .ok (.getfield 27, 3) := by decide +kernel
theorem dX6_ifYears_26 : decode cX6_ifYears 26 = .ok (.getfield 58, 3) := by decide +kernel
theorem dX6_ifYears_29 : decode cX6_ifYears 29 = .ok (.ifCond .ne 6, 3) := by decide +kernel
theorem dX6_ifYears_32 : decode cX6_ifYears 32 = .ok (.ldc 57, 2) := by decide +kernel
theorem dX6_ifYears_34 : decode cX6_ifYears 34 = .ok (.ireturn, 1) := by decide +kernel
theorem dX6_ifYears_35 : decode cX6_ifYears 35 = .ok (.aload_n 0, 1) := by decide +kernel
theorem dX6_ifYears_36 : decode cX6_ifYears 36 = .ok (.getfield 12, 3) := by decide +kernel
theorem dX6_ifYears_39 : decode cX6_ifYears 39 = .ok (.aload_n 0, 1) := by decide +kernel
theorem dX6_ifYears_40 : decode cX6_ifYears 40 = .ok (.getfield 27, 3) := by decide +kernel
theorem dX6_ifYears_43 : decode cX6_ifYears 43 = .ok (.invokevirtual 223, 3) := by decide +kernel
theorem dX6_ifYears_46 : decode cX6_ifYears 46 = .ok (.aload_n 0, 1) := by decide +kernel
theorem dX6_ifYears_47 : decode cX6_ifYears 47 = .ok (.getfield 12, 3) := by decide +kernel
theorem dX6_ifYears_50 : decode cX6_ifYears 50 = .ok (.iload_n 1, 1) := by decide +kernel
theorem dX6_ifYears_51 : decode cX6_ifYears 51 = .ok (.invokevirtual 219, 3) := by decide +kernel
theorem dX6_ifYears_54 : decode cX6_ifYears 54 = .ok (.iload_n 2, 1) := by decide +kernel
theorem dX6_ifYears_55 : decode cX6_ifYears 55 = .ok (.tableswitch 85 0 3 #[29, 38, 60, 77], 29) := by decide +kernel
theorem dX6_ifYears_84 : decode cX6_ifYears 84 = .ok (.aload_n 0, 1) := by decide +kernel
theorem dX6_ifYears_85 : decode cX6_ifYears 85 = .ok (.getfield 12, 3) := by decide +kernel
theorem dX6_ifYears_88 : decode cX6_ifYears 88 = .ok (.invokevirtual 158, 3) := by decide +kernel
theorem dX6_ifYears_91 : decode cX6_ifYears 91 = .ok (.l2i, 1) := by decide +kernel
theorem dX6_ifYears_92 : decode cX6_ifYears 92 = .ok (.ireturn, 1) := by decide +kernel
theorem dX6_ifYears_93 : decode cX6_ifYears 93 = .ok (.aload_n 0, 1) := by decide +kernel
theorem dX6_ifYears_94 : decode cX6_ifYears 94 = .ok (.getfield 12, 3) := by decide +kernel
theorem dX6_ifYears_97 : decode cX6_ifYears 97 = .ok (.getfield 128, 3) := by decide +kernel
theorem dX6_ifYears_100 : decode cX6_ifYears 100 = .ok (.getfield 138, 3) := by decide +kernel
theorem dX6_ifYears_103 : decode cX6_ifYears 103 = .ok (.aload_n 0, 1) := by decide +kernel
theorem dX6_ifYears_104 : decode cX6_ifYears 104 = .ok (.getfield 27, 3) := by decide +kernel
theorem dX6_ifYears_107 : decode cX6_ifYears 107 = .ok (.getfield 128, 3) := by decide +kernel
theorem dX6_ifYears_110 : decode cX6_ifYears 110 = .ok (.getfield 138, 3) := by decide +kernel
theorem dX6_ifYears_113 : decode cX6_ifYears 113 = .ok (.isub, 1) := by decide +kernel
theorem dX6_ifYears_114 : decode cX6_ifYears 114 = .ok (.ireturn, 1) := by decide +kernel
theorem dX6_ifYears_115 : decode cX6_ifYears 115 = .ok (.aload_n 0, 1) := by decide +kernel
theorem dX6_ifYears_116 : decode cX6_ifYears 116 = .ok (.getfield 12, 3) := by decide +kernel
theorem dX6_ifYears_119 : decode cX6_ifYears 119 = .ok (.getfield 153, 3) := by decide +kernel
theorem dX6_ifYears_122 : decode cX6_ifYears 122 = .ok (.aload_n 0, 1) := by decide +kernel
theorem dX6_ifYears_123 : decode cX6_ifYears 123 = .ok (.getfield 27, 3) := by decide +kernel
theorem dX6_ifYears_126 : decode cX6_ifYears 126 = .ok (.getfield 153, 3) := by decide +kernel
theorem dX6_ifYears_129 : decode cX6_ifYears 129 = .ok (.lsub, 1) := by decide +kernel
theorem dX6_ifYears_130 : decode cX6_ifYears 130 = .ok (.l2i, 1) := by decide +kernel
theorem dX6_ifYears_131 : decode cX6_ifYears 131 = .ok (.ireturn, 1) := by decide +kernel
theorem dX6_ifYears_132 : decode cX6_ifYears 132 = .ok (.aload_n 0, 1) := by decide +kernel
theorem dX6_ifYears_133 : decode cX6_ifYears 133 = .ok (.getfield 12, 3) := by decide +kernel
theorem dX6_ifYears_136 : decode cX6_ifYears 136 = .ok (.invokevirtual 171, 3) := by decide +kernel
theorem dX6_ifYears_139 : decode cX6_ifYears 139 = .ok (.ireturn, 1) := by decide +kernel
theorem dX6_ifYears_140 : decode cX6_ifYears 140 = .ok (.aload_n 0, 1) := by decide +kernel
theorem dX6_ifYears_141 : decode cX6_ifYears 141 = .ok (.getfield 12, 3) := by decide +kernel
theorem dX6_ifYears_144 : decode cX6_ifYears 144 = .ok (.invokevirtual 227, 3) := by decide +kernel
theorem dX6_ifYears_147 : decode cX6_ifYears 147 = .ok (.ifCond .ne 8, 3) := by decide +kernel
theorem dX6_ifYears_150 : decode cX6_ifYears 150 = .ok (.ldc 97, 2) := by decide +kernel
theorem dX6_ifYears_152 : decode cX6_ifYears 152 = .ok (.goto 10, 3) := by decide +kernel
theorem dX6_ifYears_155 : decode cX6_ifYears 155 = .ok (.aload_n 0, 1) := by decide +kernel
theorem dX6_ifYears_156 : decode cX6_ifYears 156 = .ok (.getfield 12, 3) := by decide +kernel
theorem dX6_ifYears_159 : decode cX6_ifYears 159 = .ok (.invokevirtual 230, 3) := by decide +kernel
theorem dX6_ifYears_162 : decode cX6_ifYears 162 = .ok (.ireturn, 1) := by decide +kernel
theorem dX6_yearsTo_0 : decode cX6_yearsTo 0 = .ok (.iload_n 1, 1) := by decide +kernel
theorem dX6_yearsTo_1 : decode cX6_yearsTo 1 = .ok (.iconst 0, 1) := by decide +kernel
theorem dX6_yearsTo_2 : decode cX6_yearsTo 2 = .ok (.iconst 2, 1) := by decide +kernel
theorem dX6_yearsTo_3 : decode cX6_yearsTo 3 = .ok (.invokestatic 34, 3) := by decide +kernel
theorem dX6_yearsTo_6 : decode cX6_yearsTo 6 = .ok (.ifCond .ne 6, 3) := by decide +kernel
theorem dX6_yearsTo_9 : decode cX6_yearsTo 9 = .ok (.ldc 38, 2) := by decide +kernel
theorem dX6_yearsTo_11 : decode cX6_yearsTo 11 = .ok (.ireturn, 1) := by decide +kernel
theorem dX6_yearsTo_12 : decode cX6_yearsTo 12 = .ok (.aload_n 0, 1) := by decide +kernel
theorem dX6_yearsTo_13 : decode cX6_yearsTo 13 = .ok (.getfield 27, 3) := by decide +kernel
theorem dX6_yearsTo_16 : decode cX6_yearsTo 16 = .ok (.getfield 58, 3) := by decide +kernel
theorem dX6_yearsTo_19 : decode cX6_yearsTo 19 = .ok (.ifCond .ne 6, 3) := by decide +kernel
theorem dX6_yearsTo_22 : decode cX6_yearsTo 22 = .ok (.ldc 57, 2) := by decide +kernel
theorem dX6_yearsTo_24 : decode cX6_yearsTo 24 = .ok (.ireturn, 1) := by decide +kernel
theorem dX6_yearsTo_25 : decode cX6_yearsTo 25 = .ok (.aload_n 0, 1) := by decide +kernel
theorem dX6_yearsTo_26 : decode cX6_yearsTo 26 = .ok (.getfield 12, 3) := by decide +kernel
theorem dX6_yearsTo_29 : decode cX6_yearsTo 29 = .ok (.aload_n 0, 1) := by decide +kernel
theorem dX6_yearsTo_30 : decode cX6_yearsTo 30 = .ok (.getfield 27, 3) := by decide +kernel
theorem dX6_yearsTo_33 : decode cX6_yearsTo 33 = .ok (.invokevirtual 223, 3) := by decide +kernel
theorem dX6_yearsTo_36 : decode cX6_yearsTo 36 = .ok (.iconst 1, 1) := by decide +kernel
theorem dX6_yearsTo_37 : decode cX6_yearsTo 37 = .ok (.istore_n 2, 1) := by decide +kernel
theorem dX6_yearsTo_38 : decode cX6_yearsTo 38 = .ok (.iload_n 2, 1) := by decide +kernel
theorem dX6_yearsTo_39 : decode cX6_yearsTo 39 = .ok (.sipush 300, 3) := by decide +kernel
theorem dX6_yearsTo_42 : decode cX6_yearsTo 42 = .ok (.if_icmp .gt 38, 3) := by decide +kernel
theorem dX6_yearsTo_45 : decode cX6_yearsTo 45 = .ok (.aload_n 0, 1) := by decide +kernel
theorem dX6_yearsTo_46 : decode cX6_yearsTo 46 = .ok (.getfield 12, 3) := by decide +kernel
theorem dX6_yearsTo_49 : decode cX6_yearsTo 49 = .ok (.getfield 128, 3) := by decide +kernel
theorem dX6_yearsTo_52 : decode cX6_yearsTo 52 = .ok (.getfield 138, 3) := by decide +kernel
theorem dX6_yearsTo_55 : decode cX6_yearsTo 55 = .ok (.istore_n 3, 1) := by decide +kernel
theorem dX6_yearsTo_56 : decode cX6_yearsTo 56 = .ok (.aload_n 0, 1) := by decide +kernel
theorem dX6_yearsTo_57 : decode cX6_yearsTo 57 = .ok (.getfield 12, 3) := by decide +kernel
theorem dX6_yearsTo_60 : decode cX6_yearsTo 60 = .ok (.invokevirtual 233, 3) := by decide +kernel
theorem dX6_yearsTo_63 : decode cX6_yearsTo 63 = .ok (.aload_n 0, 1) := by decide +kernel
theorem dX6_yearsTo_64 : decode cX6_yearsTo 64 = .ok (.iload_n 1, 1) := by decide +kernel
theorem dX6_yearsTo_65 : decode cX6_yearsTo 65 = .ok (.iload_n 3, 1) := by decide +kernel
theorem dX6_yearsTo_66 : decode cX6_yearsTo 66 = .ok (.invokevirtual 236, 3) := by decide +kernel
theorem dX6_yearsTo_69 : decode cX6_yearsTo 69 = .ok (.ifCond .eq 5, 3) := by decide +kernel
theorem dX6_yearsTo_72 : decode cX6_yearsTo 72 = .ok (.iload_n 2, 1) := by decide +kernel
theorem dX6_yearsTo_73 : decode cX6_yearsTo 73 = .ok (.ireturn, 1) := by decide +kernel
theorem dX6_yearsTo_74 : decode cX6_yearsTo 74 = .ok (.iinc 2 1, 3) := by decide +kernel
theorem dX6_yearsTo_77 : decode cX6_yearsTo 77 = .ok (.goto (-39), 3) := by decide +kernel
theorem dX6_yearsTo_80 : decode cX6_yearsTo 80 = .ok (.ldc 97, 2) := by decide +kernel
theorem dX6_yearsTo_82 : decode cX6_yearsTo 82 = .ok (.ireturn, 1) := by decide +kernel
theorem dX6_isSoInTrial_0 : decode cX6_isSoInTrial 0 = .ok (.iload_n 1, 1) := by decide +kernel
theorem dX6_isSoInTrial_1 : decode cX6_isSoInTrial 1 = .ok (.lookupswitch 63 #[(0, 27), (1, 47)], 27) := by decide +kernel
theorem dX6_isSoInTrial_28 : decode cX6_isSoInTrial 28 = .ok (.aload_n 0, 1) := by decide +kernel
theorem dX6_isSoInTrial_29 : decode cX6_isSoInTrial 29 = .ok (.getfield 12, 3) := by decide +kernel
theorem dX6_isSoInTrial_32 : decode cX6_isSoInTrial 32 = .ok (.getfield 128, 3) := by decide +kernel
theorem dX6_isSoInTrial_35 : decode cX6_isSoInTrial 35 = .ok (.getfield 138, 3) := by decide +kernel
theorem dX6_isSoInTrial_38 : decode cX6_isSoInTrial 38 = .ok (.iload_n 2, 1) := by decide +kernel
theorem dX6_isSoInTrial_39 : decode cX6_isSoInTrial 39 = .ok (.if_icmp .le 7, 3) := by decide +kernel
theorem dX6_isSoInTrial_42 : decode cX6_isSoInTrial 42 = .ok (.iconst 1, 1) := by decide +kernel
theorem dX6_isSoInTrial_43 : decode cX6_isSoInTrial 43 = .ok (.goto 4, 3) := by decide +kernel
theorem dX6_isSoInTrial_46 : decode cX6_isSoInTrial 46 = .ok (.iconst 0, 1) := by decide +kernel
theorem dX6_isSoInTrial_47 : decode cX6_isSoInTrial 47 = .ok (.ireturn, 1) := by decide +kernel
theorem dX6_isSoInTrial_48 : decode cX6_isSoInTrial 48 = .ok (.aload_n 0, 1) := by decide +kernel
theorem dX6_isSoInTrial_49 : decode cX6_isSoInTrial 49 = .ok (.getfield 12, 3) := by decide +kernel
theorem dX6_isSoInTrial_52 : decode cX6_isSoInTrial 52 = .ok (.invokevirtual 227, 3) := by decide +kernel
theorem dX6_isSoInTrial_55 : decode cX6_isSoInTrial 55 = .ok (.ifCond .ne 7, 3) := by decide +kernel
theorem dX6_isSoInTrial_58 : decode cX6_isSoInTrial 58 = .ok (.iconst 1, 1) := by decide +kernel
theorem dX6_isSoInTrial_59 : decode cX6_isSoInTrial 59 = .ok (.goto 4, 3) := by decide +kernel
theorem dX6_isSoInTrial_62 : decode cX6_isSoInTrial 62 = .ok (.iconst 0, 1) := by decide +kernel
theorem dX6_isSoInTrial_63 : decode cX6_isSoInTrial 63 = .ok (.ireturn, 1) := by decide +kernel
theorem dX6_isSoInTrial_64 : decode cX6_isSoInTrial 64 = .ok (.aload_n 0, 1) := by decide +kernel
theorem dX6_isSoInTrial_65 : decode cX6_isSoInTrial 65 = .ok (.getfield 12, 3) := by decide +kernel
theorem dX6_isSoInTrial_68 : decode cX6_isSoInTrial 68 = .ok (.invokevirtual 171, 3) := by decide +kernel
theorem dX6_isSoInTrial_71 : decode cX6_isSoInTrial 71 = .ok (.ifCond .ne 7, 3) := by decide +kernel
theorem dX6_isSoInTrial_74 : decode cX6_isSoInTrial 74 = .ok (.iconst 1, 1) := by decide +kernel
theorem dX6_isSoInTrial_75 : decode cX6_isSoInTrial 75 = .ok (.goto 4, 3) := by decide +kernel
theorem dX6_isSoInTrial_78 : decode cX6_isSoInTrial 78 = .ok (.iconst 0, 1) := by decide +kernel
theorem dX6_isSoInTrial_79 : decode cX6_isSoInTrial 79 = .ok (.ireturn, 1) := by decide +kernel
theorem dX6_steadyMelt_0 : decode cX6_steadyMelt 0 = .ok (.aload_n 0, 1) := by decide +kernel
theorem dX6_steadyMelt_1 : decode cX6_steadyMelt 1 = .ok (.getfield 27, 3) := by decide +kernel
theorem dX6_steadyMelt_4 : decode cX6_steadyMelt 4 = .ok (.getfield 58, 3) := by decide +kernel
theorem dX6_steadyMelt_7 : decode cX6_steadyMelt 7 = .ok (.ifCond .ne 6, 3) := by decide +kernel
theorem dX6_steadyMelt_10 : decode cX6_steadyMelt 10 = .ok (.ldc 57, 2) := by decide +kernel
theorem dX6_steadyMelt_12 : decode cX6_steadyMelt 12 = .ok (.ireturn, 1) := by decide +kernel
theorem dX6_steadyMelt_13 : decode cX6_steadyMelt 13 = .ok (.aload_n 0, 1) := by decide +kernel
theorem dX6_steadyMelt_14 : decode cX6_steadyMelt 14 = .ok (.getfield 27, 3) := by decide +kernel
theorem dX6_steadyMelt_17 : decode cX6_steadyMelt 17 = .ok (.getstatic 39, 3) := by decide +kernel
theorem dX6_steadyMelt_20 : decode cX6_steadyMelt 20 = .ok (.iconst 2, 1) := by decide +kernel
theorem dX6_steadyMelt_21 : decode cX6_steadyMelt 21 = .ok (.iaload, 1) := by decide +kernel
theorem dX6_steadyMelt_22 : decode cX6_steadyMelt 22 = .ok (.invokevirtual 239, 3) := by decide +kernel
theorem dX6_steadyMelt_25 : decode cX6_steadyMelt 25 = .ok (.ifCond .ne 6, 3) := by decide +kernel
theorem dX6_steadyMelt_28 : decode cX6_steadyMelt 28 = .ok (.ldc 97, 2) := by decide +kernel
theorem dX6_steadyMelt_30 : decode cX6_steadyMelt 30 = .ok (.ireturn, 1) := by decide +kernel
theorem dX6_steadyMelt_31 : decode cX6_steadyMelt 31 = .ok (.getstatic 39, 3) := by decide +kernel
theorem dX6_steadyMelt_34 : decode cX6_steadyMelt 34 = .ok (.iconst 2, 1) := by decide +kernel
theorem dX6_steadyMelt_35 : decode cX6_steadyMelt 35 = .ok (.iaload, 1) := by decide +kernel
theorem dX6_steadyMelt_36 : decode cX6_steadyMelt 36 = .ok (.istore_n 1, 1) := by decide +kernel
theorem dX6_steadyMelt_37 : decode cX6_steadyMelt 37 = .ok (.sipush 8192, 3) := by decide +kernel
theorem dX6_steadyMelt_40 : decode cX6_steadyMelt 40 = .ok (.istore_n 2, 1) := by decide +kernel
theorem dX6_steadyMelt_41 : decode cX6_steadyMelt 41 = .ok (.iload_n 2, 1) := by decide +kernel
theorem dX6_steadyMelt_42 : decode cX6_steadyMelt 42 = .ok (.ifCond .le 38, 3) := by decide +kernel
theorem dX6_steadyMelt_45 : decode cX6_steadyMelt 45 = .ok (.iload_n 1, 1) := by decide +kernel
theorem dX6_steadyMelt_46 : decode cX6_steadyMelt 46 = .ok (.iload_n 2, 1) := by decide +kernel
theorem dX6_steadyMelt_47 : decode cX6_steadyMelt 47 = .ok (.iadd, 1) := by decide +kernel
theorem dX6_steadyMelt_48 : decode cX6_steadyMelt 48 = .ok (.getstatic 43, 3) := by decide +kernel
theorem dX6_steadyMelt_51 : decode cX6_steadyMelt 51 = .ok (.iconst 2, 1) := by decide +kernel
theorem dX6_steadyMelt_52 : decode cX6_steadyMelt 52 = .ok (.iaload, 1) := by decide +kernel
theorem dX6_steadyMelt_53 : decode cX6_steadyMelt 53 = .ok (.if_icmp .gt 20, 3) := by decide +kernel
theorem dX6_steadyMelt_56 : decode cX6_steadyMelt 56 = .ok (.aload_n 0, 1) := by decide +kernel
theorem dX6_steadyMelt_57 : decode cX6_steadyMelt 57 = .ok (.getfield 27, 3) := by decide +kernel
theorem dX6_steadyMelt_60 : decode cX6_steadyMelt 60 = .ok (.iload_n 1, 1) := by decide +kernel
theorem dX6_steadyMelt_61 : decode cX6_steadyMelt 61 = .ok (.iload_n 2, 1) := by decide +kernel
theorem dX6_steadyMelt_62 : decode cX6_steadyMelt 62 = .ok (.iadd, 1) := by decide +kernel
theorem dX6_steadyMelt_63 : decode cX6_steadyMelt 63 = .ok (.invokevirtual 239, 3) := by decide +kernel
theorem dX6_steadyMelt_66 : decode cX6_steadyMelt 66 = .ok (.ifCond .eq 7, 3) := by decide +kernel
theorem dX6_steadyMelt_69 : decode cX6_steadyMelt 69 = .ok (.iload_n 1, 1) := by decide +kernel
theorem dX6_steadyMelt_70 : decode cX6_steadyMelt 70 = .ok (.iload_n 2, 1) := by decide +kernel
theorem dX6_steadyMelt_71 : decode cX6_steadyMelt 71 = .ok (.iadd, 1) := by decide +kernel
theorem dX6_steadyMelt_72 : decode cX6_steadyMelt 72 = .ok (.istore_n 1, 1) := by decide +kernel
theorem dX6_steadyMelt_73 : decode cX6_steadyMelt 73 = .ok (.iload_n 2, 1) := by decide +kernel
theorem dX6_steadyMelt_74 : decode cX6_steadyMelt 74 = .ok (.iconst 2, 1) := by decide +kernel
theorem dX6_steadyMelt_75 : decode cX6_steadyMelt 75 = .ok (.idiv, 1) := by decide +kernel
theorem dX6_steadyMelt_76 : decode cX6_steadyMelt 76 = .ok (.istore_n 2, 1) := by decide +kernel
theorem dX6_steadyMelt_77 : decode cX6_steadyMelt 77 = .ok (.goto (-36), 3) := by decide +kernel
theorem dX6_steadyMelt_80 : decode cX6_steadyMelt 80 = .ok (.iload_n 1, 1) := by decide +kernel
theorem dX6_steadyMelt_81 : decode cX6_steadyMelt 81 = .ok (.ireturn, 1) := by decide +kernel
theorem dX6_undo_0 : decode cX6_undo 0 = .ok (.aload_n 0, 1) := by decide +kernel
theorem dX6_undo_1 : decode cX6_undo 1 = .ok (.getfield 30, 3) := by decide +kernel
theorem dX6_undo_4 : decode cX6_undo 4 = .ok (.ifCond .ne 6, 3) := by decide +kernel
theorem dX6_undo_7 : decode cX6_undo 7 = .ok (.ldc 57, 2) := by decide +kernel
theorem dX6_undo_9 : decode cX6_undo 9 = .ok (.ireturn, 1) := by decide +kernel
theorem dX6_undo_10 : decode cX6_undo 10 = .ok (.aload_n 0, 1) := by decide +kernel
theorem dX6_undo_11 : decode cX6_undo 11 = .ok (.dup, 1) := by decide +kernel
theorem dX6_undo_12 : decode cX6_undo 12 = .ok (.getfield 30, 3) := by decide +kernel
theorem dX6_undo_15 : decode cX6_undo 15 = .ok (.iconst 1, 1) := by decide +kernel
theorem dX6_undo_16 : decode cX6_undo 16 = .ok (.isub, 1) := by decide +kernel
theorem dX6_undo_17 : decode cX6_undo 17 = .ok (.putfield 30, 3) := by decide +kernel
theorem dX6_undo_20 : decode cX6_undo 20 = .ok (.aload_n 0, 1) := by decide +kernel
theorem dX6_undo_21 : decode cX6_undo 21 = .ok (.getfield 16, 3) := by decide +kernel
theorem dX6_undo_24 : decode cX6_undo 24 = .ok (.aload_n 0, 1) := by decide +kernel
theorem dX6_undo_25 : decode cX6_undo 25 = .ok (.getfield 30, 3) := by decide +kernel
theorem dX6_undo_28 : decode cX6_undo 28 = .ok (.aaload, 1) := by decide +kernel
theorem dX6_undo_29 : decode cX6_undo 29 = .ok (.astore_n 1, 1) := by decide +kernel
theorem dX6_undo_30 : decode cX6_undo 30 = .ok (.aload_n 0, 1) := by decide +kernel
theorem dX6_undo_31 : decode cX6_undo 31 = .ok (.getfield 16, 3) := by decide +kernel
theorem dX6_undo_34 : decode cX6_undo 34 = .ok (.aload_n 0, 1) := by decide +kernel
theorem dX6_undo_35 : decode cX6_undo 35 = .ok (.getfield 30, 3) := by decide +kernel
theorem dX6_undo_38 : decode cX6_undo 38 = .ok (.aload_n 0, 1) := by decide +kernel
theorem dX6_undo_39 : decode cX6_undo 39 = .ok (.getfield 27, 3) := by decide +kernel
theorem dX6_undo_42 : decode cX6_undo 42 = .ok (.aastore, 1) := by decide +kernel
theorem dX6_undo_43 : decode cX6_undo 43 = .ok (.aload_n 0, 1) := by decide +kernel
theorem dX6_undo_44 : decode cX6_undo 44 = .ok (.aload_n 1, 1) := by decide +kernel
theorem dX6_undo_45 : decode cX6_undo 45 = .ok (.putfield 27, 3) := by decide +kernel
theorem dX6_undo_48 : decode cX6_undo 48 = .ok (.aload_n 0, 1) := by decide +kernel
theorem dX6_undo_49 : decode cX6_undo 49 = .ok (.getfield 30, 3) := by decide +kernel
theorem dX6_undo_52 : decode cX6_undo 52 = .ok (.ireturn, 1) := by decide +kernel
theorem dX6_recordState_0 : decode cX6_recordState 0 = .ok (.aload_n 0, 1) := by decide +kernel
theorem dX6_recordState_1 : decode cX6_recordState 1 = .ok (.getfield 30, 3) := by decide +kernel
theorem dX6_recordState_4 : decode cX6_recordState 4 = .ok (.iconst 4, 1) := by decide +kernel
theorem dX6_recordState_5 : decode cX6_recordState 5 = .ok (.if_icmp .lt 7, 3) := by decide +kernel
theorem dX6_recordState_8 : decode cX6_recordState 8 = .ok (.aload_n 0, 1) := by decide +kernel
theorem dX6_recordState_9 : decode cX6_recordState 9 = .ok (.invokevirtual 242, 3) := by decide +kernel
theorem dX6_recordState_12 : decode cX6_recordState 12 = .ok (.aload_n 0, 1) := by decide +kernel
theorem dX6_recordState_13 : decode cX6_recordState 13 = .ok (.getfield 16, 3) := by decide +kernel
theorem dX6_recordState_16 : decode cX6_recordState 16 = .ok (.aload_n 0, 1) := by decide +kernel
theorem dX6_recordState_17 : decode cX6_recordState 17 = .ok (.getfield 30, 3) := by decide +kernel
theorem dX6_recordState_20 : decode cX6_recordState 20 = .ok (.aaload, 1) := by decide +kernel
theorem dX6_recordState_21 : decode cX6_recordState 21 = .ok (.aload_n 0, 1) := by decide +kernel
theorem dX6_recordState_22 : decode cX6_recordState 22 = .ok (.getfield 27, 3) := by decide +kernel
theorem dX6_recordState_25 : decode cX6_recordState 25 = .ok (.invokevirtual 223, 3) := by decide +kernel
theorem dX6_recordState_28 : decode cX6_recordState 28 = .ok (.aload_n 0, 1) := by decide +kernel
theorem dX6_recordState_29 : decode cX6_recordState 29 = .ok (.dup, 1) := by decide +kernel
theorem dX6_recordState_30 : decode cX6_recordState 30 = .ok (.getfield 30, 3) := by decide +kernel
theorem dX6_recordState_33 : decode cX6_recordState 33 = .ok (.iconst 1, 1) := by decide +kernel
theorem dX6_recordState_34 : decode cX6_recordState 34 = .ok (.iadd, 1) := by decide +kernel
theorem dX6_recordState_35 : decode cX6_recordState 35 = .ok (.putfield 30, 3) := by decide +kernel
theorem dX6_recordState_38 : decode cX6_recordState 38 = .ok (.return_, 1) := by decide +kernel
theorem dX6_dropOldestState_0 : decode cX6_dropOldestState 0 = .ok (.aload_n 0, 1) := by decide +kernel
theorem dX6_dropOldestState_1 : decode cX6_dropOldestState 1 = .ok (.getfield 16, 3) := by decide +kernel
theorem dX6_dropOldestState_4 : decode cX6_dropOldestState 4 = .ok (.iconst 0, 1) := by decide +kernel
theorem dX6_dropOldestState_5 : decode cX6_dropOldestState 5 = .ok (.aaload, 1) := by decide +kernel
theorem dX6_dropOldestState_6 : decode cX6_dropOldestState 6 = .ok (.astore_n 1, 1) := by decide +kernel
theorem dX6_dropOldestState_7 : decode cX6_dropOldestState 7 = .ok (.iconst 1, 1) := by decide +kernel
theorem dX6_dropOldestState_8 : decode cX6_dropOldestState 8 = .ok (.istore_n 2, 1) := by decide +kernel
theorem dX6_dropOldestState_9 : decode cX6_dropOldestState 9 = .ok (.iload_n 2, 1) := by decide +kernel
theorem dX6_dropOldestState_10 : decode cX6_dropOldestState 10 = .ok (.aload_n 0, 1) := by decide +kernel
theorem dX6_dropOldestState_11 : decode cX6_dropOldestState 11 = .ok (.getfield 16, 3) := by decide +kernel
theorem dX6_dropOldestState_14 : decode cX6_dropOldestState 14 = .ok (.arraylength, 1) := by decide +kernel
theorem dX6_dropOldestState_15 : decode cX6_dropOldestState 15 = .ok (.if_icmp .ge 23, 3) := by decide +kernel
theorem dX6_dropOldestState_18 : decode cX6_dropOldestState 18 = .ok (.aload_n 0, 1) := by decide +kernel
theorem dX6_dropOldestState_19 : decode cX6_dropOldestState 19 = .ok (.getfield 16, 3) := by decide +kernel
theorem dX6_dropOldestState_22 : decode cX6_dropOldestState 22 = .ok (.iload_n 2, 1) := by decide +kernel
theorem dX6_dropOldestState_23 : decode cX6_dropOldestState 23 = .ok (.iconst 1, 1) := by decide +kernel
theorem dX6_dropOldestState_24 : decode cX6_dropOldestState 24 = .ok (.isub, 1) := by decide +kernel
theorem dX6_dropOldestState_25 : decode cX6_dropOldestState 25 = .ok (.aload_n 0, 1) := by decide +kernel
theorem dX6_dropOldestState_26 : decode cX6_dropOldestState 26 = .ok (.getfield 16, 3) := by decide +kernel
theorem dX6_dropOldestState_29 : decode cX6_dropOldestState 29 = .ok (.iload_n 2, 1) := by decide +kernel
theorem dX6_dropOldestState_30 : decode cX6_dropOldestState 30 = .ok (.aaload, 1) := by decide +kernel
theorem dX6_dropOldestState_31 : decode cX6_dropOldestState 31 = .ok (.aastore, 1) := by decide +kernel
theorem dX6_dropOldestState_32 : decode cX6_dropOldestState 32 = .ok (.iinc 2 1, 3) := by decide +kernel
theorem dX6_dropOldestState_35 : decode cX6_dropOldestState 35 = .ok (.goto (-26), 3) := by decide +kernel
theorem dX6_dropOldestState_38 : decode cX6_dropOldestState 38 = .ok (.aload_n 0, 1) := by decide +kernel
theorem dX6_dropOldestState_39 : decode cX6_dropOldestState 39 = .ok (.getfield 16, 3) := by decide +kernel
theorem dX6_dropOldestState_42 : decode cX6_dropOldestState 42 = .ok (.iconst 3, 1) := by decide +kernel
theorem dX6_dropOldestState_43 : decode cX6_dropOldestState 43 = .ok (.aload_n 1, 1) := by decide +kernel
theorem dX6_dropOldestState_44 : decode cX6_dropOldestState 44 = .ok (.aastore, 1) := by decide +kernel
theorem dX6_dropOldestState_45 : decode cX6_dropOldestState 45 = .ok (.aload_n 0, 1) := by decide +kernel
theorem dX6_dropOldestState_46 : decode cX6_dropOldestState 46 = .ok (.iconst 3, 1) := by decide +kernel
theorem dX6_dropOldestState_47 : decode cX6_dropOldestState 47 = .ok (.putfield 30, 3) := by decide +kernel
theorem dX6_dropOldestState_50 : decode cX6_dropOldestState 50 = .ok (.return_, 1) := by decide +kernel
theorem dX6_type_0 : decode cX6_type 0 = .ok (.iload_n 1, 1) := by decide +kernel
theorem dX6_type_1 : decode cX6_type 1 = .ok (.bipush 32, 2) := by decide +kernel
theorem dX6_type_3 : decode cX6_type 3 = .ok (.bipush 126, 2) := by decide +kernel
theorem dX6_type_5 : decode cX6_type 5 = .ok (.invokestatic 34, 3) := by decide +kernel
theorem dX6_type_8 : decode cX6_type 8 = .ok (.ifCond .ne 6, 3) := by decide +kernel
theorem dX6_type_11 : decode cX6_type 11 = .ok (.ldc 38, 2) := by decide +kernel
theorem dX6_type_13 : decode cX6_type 13 = .ok (.ireturn, 1) := by decide +kernel
theorem dX6_type_14 : decode cX6_type 14 = .ok (.aload_n 0, 1) := by decide +kernel
theorem dX6_type_15 : decode cX6_type 15 = .ok (.getfield 23, 3) := by decide +kernel
theorem dX6_type_18 : decode cX6_type 18 = .ok (.getfield 180, 3) := by decide +kernel
theorem dX6_type_21 : decode cX6_type 21 = .ok (.bipush 60, 2) := by decide +kernel
theorem dX6_type_23 : decode cX6_type 23 = .ok (.if_icmp .lt 6, 3) := by decide +kernel
theorem dX6_type_26 : decode cX6_type 26 = .ok (.ldc 61, 2) := by decide +kernel
theorem dX6_type_28 : decode cX6_type 28 = .ok (.ireturn, 1) := by decide +kernel
theorem dX6_type_29 : decode cX6_type 29 = .ok (.aload_n 0, 1) := by decide +kernel
theorem dX6_type_30 : decode cX6_type 30 = .ok (.getfield 23, 3) := by decide +kernel
theorem dX6_type_33 : decode cX6_type 33 = .ok (.iload_n 1, 1) := by decide +kernel
theorem dX6_type_34 : decode cX6_type 34 = .ok (.i2c, 1) := by decide +kernel
theorem dX6_type_35 : decode cX6_type 35 = .ok (.invokevirtual 245, 3) := by decide +kernel
theorem dX6_type_38 : decode cX6_type 38 = .ok (.aload_n 0, 1) := by decide +kernel
theorem dX6_type_39 : decode cX6_type 39 = .ok (.getfield 23, 3) := by decide +kernel
theorem dX6_type_42 : decode cX6_type 42 = .ok (.getfield 180, 3) := by decide +kernel
theorem dX6_type_45 : decode cX6_type 45 = .ok (.ireturn, 1) := by decide +kernel
theorem dX6_fault_0 : decode cX6_fault 0 = .ok (.iload_n 1, 1) := by decide +kernel
theorem dX6_fault_1 : decode cX6_fault 1 = .ok (.iconst 0, 1) := by decide +kernel
theorem dX6_fault_2 : decode cX6_fault 2 = .ok (.iconst 1, 1) := by decide +kernel
theorem dX6_fault_3 : decode cX6_fault 3 = .ok (.invokestatic 34, 3) := by decide +kernel
theorem dX6_fault_6 : decode cX6_fault 6 = .ok (.ifCond .ne 6, 3) := by decide +kernel
theorem dX6_fault_9 : decode cX6_fault 9 = .ok (.ldc 38, 2) := by decide +kernel
theorem dX6_fault_11 : decode cX6_fault 11 = .ok (.ireturn, 1) := by decide +kernel
theorem dX6_fault_12 : decode cX6_fault 12 = .ok (.aload_n 0, 1) := by decide +kernel
theorem dX6_fault_13 : decode cX6_fault 13 = .ok (.invokevirtual 249, 3) := by decide +kernel
theorem dX6_fault_16 : decode cX6_fault 16 = .ok (.istore_n 2, 1) := by decide +kernel
theorem dX6_fault_17 : decode cX6_fault 17 = .ok (.aload_n 0, 1) := by decide +kernel
theorem dX6_fault_18 : decode cX6_fault 18 = .ok (.getfield 23, 3) := by decide +kernel
theorem dX6_fault_21 : decode cX6_fault 21 = .ok (.iload_n 2, 1) := by decide +kernel
theorem dX6_fault_22 : decode cX6_fault 22 = .ok (.invokevirtual 252, 3) := by decide +kernel
theorem dX6_fault_25 : decode cX6_fault 25 = .ok (.istore_n 3, 1) := by decide +kernel
theorem dX6_fault_26 : decode cX6_fault 26 = .ok (.iload_n 3, 1) := by decide +kernel
theorem dX6_fault_27 : decode cX6_fault 27 = .ok (.aload_n 0, 1) := by decide +kernel
theorem dX6_fault_28 : decode cX6_fault 28 = .ok (.getfield 23, 3) := by decide +kernel
theorem dX6_fault_31 : decode cX6_fault 31 = .ok (.getfield 180, 3) := by decide +kernel
theorem dX6_fault_34 : decode cX6_fault 34 = .ok (.if_icmp .lt 6, 3) := by decide +kernel
theorem dX6_fault_37 : decode cX6_fault 37 = .ok (.ldc 97, 2) := by decide +kernel
theorem dX6_fault_39 : decode cX6_fault 39 = .ok (.ireturn, 1) := by decide +kernel
theorem dX6_fault_40 : decode cX6_fault 40 = .ok (.iload_n 1, 1) := by decide +kernel
theorem dX6_fault_41 : decode cX6_fault 41 = .ok (.ifCond .ne 7, 3) := by decide +kernel
theorem dX6_fault_44 : decode cX6_fault 44 = .ok (.iload_n 3, 1) := by decide +kernel
theorem dX6_fault_45 : decode cX6_fault 45 = .ok (.goto 9, 3) := by decide +kernel
theorem dX6_fault_48 : decode cX6_fault 48 = .ok (.aload_n 0, 1) := by decide +kernel
theorem dX6_fault_49 : decode cX6_fault 49 = .ok (.iload_n 3, 1) := by decide +kernel
theorem dX6_fault_50 : decode cX6_fault 50 = .ok (.iload_n 2, 1) := by decide +kernel
theorem dX6_fault_51 : decode cX6_fault 51 = .ok (.invokevirtual 255, 3) := by decide +kernel
theorem dX6_fault_54 : decode cX6_fault 54 = .ok (.ireturn, 1) := by decide +kernel
theorem dX6_possibleYears_0 : decode cX6_possibleYears 0 = .ok (.iconst 0, 1) := by decide +kernel
theorem dX6_possibleYears_1 : decode cX6_possibleYears 1 = .ok (.istore_n 1, 1) := by decide +kernel
theorem dX6_possibleYears_2 : decode cX6_possibleYears 2 = .ok (.iconst 0, 1) := by decide +kernel
theorem dX6_possibleYears_3 : decode cX6_possibleYears 3 = .ok (.istore_n 2, 1) := by decide +kernel
theorem dX6_possibleYears_4 : decode cX6_possibleYears 4 = .ok (.iload_n 2, 1) := by decide +kernel
theorem dX6_possibleYears_5 : decode cX6_possibleYears 5 = .ok (.bipush 60, 2) := by decide +kernel
theorem dX6_possibleYears_7 : decode cX6_possibleYears 7 = .ok (.if_icmp .ge 40, 3) := by decide +kernel
theorem dX6_possibleYears_10 : decode cX6_possibleYears 10 = .ok (.iload_n 1, 1) := by decide +kernel
theorem dX6_possibleYears_11 : decode cX6_possibleYears 11 = .ok (.aload_n 0, 1) := by decide +kernel
theorem dX6_possibleYears_12 : decode cX6_possibleYears 12 = .ok (.getfield 23, 3) := by decide +kernel
theorem dX6_possibleYears_15 : decode cX6_possibleYears 15 = .ok (.getfield 180, 3) := by decide +kernel
theorem dX6_possibleYears_18 : decode cX6_possibleYears 18 = .ok (.if_icmp .ge 12, 3) := by decide +kernel
theorem dX6_possibleYears_21 : decode cX6_possibleYears 21 = .ok (.aload_n 0, 1) := by decide +kernel
theorem dX6_possibleYears_22 : decode cX6_possibleYears 22 = .ok (.iload_n 1, 1) := by decide +kernel
theorem dX6_possibleYears_23 : decode cX6_possibleYears 23 = .ok (.iload_n 2, 1) := by decide +kernel
theorem dX6_possibleYears_24 : decode cX6_possibleYears 24 = .ok (.invokevirtual 255, 3) := by decide +kernel
theorem dX6_possibleYears_27 : decode cX6_possibleYears 27 = .ok (.ifCond .eq 5, 3) := by decide +kernel
theorem dX6_possibleYears_30 : decode cX6_possibleYears 30 = .ok (.iload_n 2, 1) := by decide +kernel
theorem dX6_possibleYears_31 : decode cX6_possibleYears 31 = .ok (.ireturn, 1) := by decide +kernel
theorem dX6_possibleYears_32 : decode cX6_possibleYears 32 = .ok (.aload_n 0, 1) := by decide +kernel
theorem dX6_possibleYears_33 : decode cX6_possibleYears 33 = .ok (.getfield 23, 3) := by decide +kernel
theorem dX6_possibleYears_36 : decode cX6_possibleYears 36 = .ok (.iload_n 1, 1) := by decide +kernel
theorem dX6_possibleYears_37 : decode cX6_possibleYears 37 = .ok (.invokevirtual 264, 3) := by decide +kernel
theorem dX6_possibleYears_40 : decode cX6_possibleYears 40 = .ok (.istore_n 1, 1) := by decide +kernel
theorem dX6_possibleYears_41 : decode cX6_possibleYears 41 = .ok (.iinc 2 1, 3) := by decide +kernel
theorem dX6_possibleYears_44 : decode cX6_possibleYears 44 = .ok (.goto (-40), 3) := by decide +kernel
theorem dX6_possibleYears_47 : decode cX6_possibleYears 47 = .ok (.bipush 60, 2) := by decide +kernel
theorem dX6_possibleYears_49 : decode cX6_possibleYears 49 = .ok (.ireturn, 1) := by decide +kernel
theorem dX6_reasonAt_0 : decode cX6_reasonAt 0 = .ok (.aload_n 0, 1) := by decide +kernel
theorem dX6_reasonAt_1 : decode cX6_reasonAt 1 = .ok (.getfield 23, 3) := by decide +kernel
theorem dX6_reasonAt_4 : decode cX6_reasonAt 4 = .ok (.iload_n 1, 1) := by decide +kernel
theorem dX6_reasonAt_5 : decode cX6_reasonAt 5 = .ok (.invokevirtual 264, 3) := by decide +kernel
theorem dX6_reasonAt_8 : decode cX6_reasonAt 8 = .ok (.ifCond .ge 5, 3) := by decide +kernel
theorem dX6_reasonAt_11 : decode cX6_reasonAt 11 = .ok (.iconst 1, 1) := by decide +kernel
theorem dX6_reasonAt_12 : decode cX6_reasonAt 12 = .ok (.ireturn, 1) := by decide +kernel
theorem dX6_reasonAt_13 : decode cX6_reasonAt 13 = .ok (.aload_n 0, 1) := by decide +kernel
theorem dX6_reasonAt_14 : decode cX6_reasonAt 14 = .ok (.getfield 23, 3) := by decide +kernel
theorem dX6_reasonAt_17 : decode cX6_reasonAt 17 = .ok (.iload_n 1, 1) := by decide +kernel
theorem dX6_reasonAt_18 : decode cX6_reasonAt 18 = .ok (.invokevirtual 258, 3) := by decide +kernel
theorem dX6_reasonAt_21 : decode cX6_reasonAt 21 = .ok (.getstatic 39, 3) := by decide +kernel
theorem dX6_reasonAt_24 : decode cX6_reasonAt 24 = .ok (.iconst 0, 1) := by decide +kernel
theorem dX6_reasonAt_25 : decode cX6_reasonAt 25 = .ok (.iaload, 1) := by decide +kernel
theorem dX6_reasonAt_26 : decode cX6_reasonAt 26 = .ok (.getstatic 43, 3) := by decide +kernel
theorem dX6_reasonAt_29 : decode cX6_reasonAt 29 = .ok (.iconst 0, 1) := by decide +kernel
theorem dX6_reasonAt_30 : decode cX6_reasonAt 30 = .ok (.iaload, 1) := by decide +kernel
theorem dX6_reasonAt_31 : decode cX6_reasonAt 31 = .ok (.invokestatic 34, 3) := by decide +kernel
theorem dX6_reasonAt_34 : decode cX6_reasonAt 34 = .ok (.ifCond .eq 27, 3) := by decide +kernel
theorem dX6_reasonAt_37 : decode cX6_reasonAt 37 = .ok (.aload_n 0, 1) := by decide +kernel
theorem dX6_reasonAt_38 : decode cX6_reasonAt 38 = .ok (.getfield 23, 3) := by decide +kernel
theorem dX6_reasonAt_41 : decode cX6_reasonAt 41 = .ok (.iload_n 1, 1) := by decide +kernel
theorem dX6_reasonAt_42 : decode cX6_reasonAt 42 = .ok (.invokevirtual 261, 3) := by decide +kernel
theorem dX6_reasonAt_45 : decode cX6_reasonAt 45 = .ok (.getstatic 39, 3) := by decide +kernel
theorem dX6_reasonAt_48 : decode cX6_reasonAt 48 = .ok (.iconst 2, 1) := by decide +kernel
theorem dX6_reasonAt_49 : decode cX6_reasonAt 49 = .ok (.iaload, 1) := by decide +kernel
theorem dX6_reasonAt_50 : decode cX6_reasonAt 50 = .ok (.getstatic 43, 3) := by decide +kernel
theorem dX6_reasonAt_53 : decode cX6_reasonAt 53 = .ok (.iconst 2, 1) := by decide +kernel
theorem dX6_reasonAt_54 : decode cX6_reasonAt 54 = .ok (.iaload, 1) := by decide +kernel
theorem dX6_reasonAt_55 : decode cX6_reasonAt 55 = .ok (.invokestatic 34, 3) := by decide +kernel
theorem dX6_reasonAt_58 : decode cX6_reasonAt 58 = .ok (.ifCond .ne 5, 3) := by decide +kernel
theorem dX6_reasonAt_61 : decode cX6_reasonAt 61 = .ok (.iconst 2, 1) := by decide +kernel
theorem dX6_reasonAt_62 : decode cX6_reasonAt 62 = .ok (.ireturn, 1) := by decide +kernel
theorem dX6_reasonAt_63 : decode cX6_reasonAt 63 = .ok (.aload_n 0, 1) := by decide +kernel
theorem dX6_reasonAt_64 : decode cX6_reasonAt 64 = .ok (.getfield 27, 3) := by decide +kernel
theorem dX6_reasonAt_67 : decode cX6_reasonAt 67 = .ok (.getfield 165, 3) := by decide +kernel
theorem dX6_reasonAt_70 : decode cX6_reasonAt 70 = .ok (.iload_n 2, 1) := by decide +kernel
theorem dX6_reasonAt_71 : decode cX6_reasonAt 71 = .ok (.iadd, 1) := by decide +kernel
theorem dX6_reasonAt_72 : decode cX6_reasonAt 72 = .ok (.iconst 1, 1) := by decide +kernel
theorem dX6_reasonAt_73 : decode cX6_reasonAt 73 = .ok (.iadd, 1) := by decide +kernel
theorem dX6_reasonAt_74 : decode cX6_reasonAt 74 = .ok (.sipush 500, 3) := by decide +kernel
theorem dX6_reasonAt_77 : decode cX6_reasonAt 77 = .ok (.if_icmp .le 7, 3) := by decide +kernel
theorem dX6_reasonAt_80 : decode cX6_reasonAt 80 = .ok (.iconst 3, 1) := by decide +kernel
theorem dX6_reasonAt_81 : decode cX6_reasonAt 81 = .ok (.goto 4, 3) := by decide +kernel
theorem dX6_reasonAt_84 : decode cX6_reasonAt 84 = .ok (.iconst 0, 1) := by decide +kernel
theorem dX6_reasonAt_85 : decode cX6_reasonAt 85 = .ok (.ireturn, 1) := by decide +kernel
theorem dX6_isWithin_0 : decode cX6_isWithin 0 = .ok (.iload_n 0, 1) := by decide +kernel
theorem dX6_isWithin_1 : decode cX6_isWithin 1 = .ok (.iload_n 1, 1) := by decide +kernel
theorem dX6_isWithin_2 : decode cX6_isWithin 2 = .ok (.if_icmp .lt 12, 3) := by decide +kernel
theorem dX6_isWithin_5 : decode cX6_isWithin 5 = .ok (.iload_n 0, 1) := by decide +kernel
theorem dX6_isWithin_6 : decode cX6_isWithin 6 = .ok (.iload_n 2, 1) := by decide +kernel
theorem dX6_isWithin_7 : decode cX6_isWithin 7 = .ok (.if_icmp .gt 7, 3) := by decide +kernel
theorem dX6_isWithin_10 : decode cX6_isWithin 10 = .ok (.iconst 1, 1) := by decide +kernel
theorem dX6_isWithin_11 : decode cX6_isWithin 11 = .ok (.goto 4, 3) := by decide +kernel
theorem dX6_isWithin_14 : decode cX6_isWithin 14 = .ok (.iconst 0, 1) := by decide +kernel
theorem dX6_isWithin_15 : decode cX6_isWithin 15 = .ok (.ireturn, 1) := by decide +kernel
end
section
theorem dL_lot_0 : decode cL_lot 0 = .ok (.iload_n 1, 1) := by decide +kernel
theorem dL_lot_1 : decode cL_lot 1 = .ok (.aload_n 0, 1) := by decide +kernel
theorem dL_lot_2 : decode cL_lot 2 = .ok (.arraylength, 1) := by decide +kernel
theorem dL_lot_3 : decode cL_lot 3 = .ok (.if_icmp .ge 9, 3) := by decide +kernel
theorem dL_lot_6 : decode cL_lot 6 = .ok (.aload_n 0, 1) := by decide +kernel
theorem dL_lot_7 : decode cL_lot 7 = .ok (.iload_n 1, 1) := by decide +kernel
theorem dL_lot_8 : decode cL_lot 8 = .ok (.iaload, 1) := by decide +kernel
theorem dL_lot_9 : decode cL_lot 9 = .ok (.goto 15, 3) := by decide +kernel
theorem dL_lot_12 : decode cL_lot 12 = .ok (.ldc 7, 2) := by decide +kernel
theorem dL_lot_14 : decode cL_lot 14 = .ok (.iload_n 1, 1) := by decide +kernel
theorem dL_lot_15 : decode cL_lot 15 = .ok (.sipush 2161, 3) := by decide +kernel
theorem dL_lot_18 : decode cL_lot 18 = .ok (.iadd, 1) := by decide +kernel
theorem dL_lot_19 : decode cL_lot 19 = .ok (.imul, 1) := by decide +kernel
theorem dL_lot_20 : decode cL_lot 20 = .ok (.sipush 1993, 3) := by decide +kernel
theorem dL_lot_23 : decode cL_lot 23 = .ok (.iadd, 1) := by decide +kernel
theorem dL_lot_24 : decode cL_lot 24 = .ok (.ireturn, 1) := by decide +kernel
theorem dL_low_0 : decode cL_low 0 = .ok (.iload_n 0, 1) := by decide +kernel
theorem dL_low_1 : decode cL_low 1 = .ok (.ldc 8, 2) := by decide +kernel
theorem dL_low_3 : decode cL_low 3 = .ok (.iand, 1) := by decide +kernel
theorem dL_low_4 : decode cL_low 4 = .ok (.iload_n 1, 1) := by decide +kernel
theorem dL_low_5 : decode cL_low 5 = .ok (.irem, 1) := by decide +kernel
theorem dL_low_6 : decode cL_low 6 = .ok (.ireturn, 1) := by decide +kernel
theorem dL_year_0 : decode cL_year 0 = .ok (.aload_n 0, 1) := by decide +kernel
theorem dL_year_1 : decode cL_year 1 = .ok (.iconst 0, 1) := by decide +kernel
theorem dL_year_2 : decode cL_year 2 = .ok (.invokevirtual 9, 3) := by decide +kernel
theorem dL_year_5 : decode cL_year 5 = .ok (.istore_n 1, 1) := by decide +kernel
theorem dL_year_6 : decode cL_year 6 = .ok (.bipush 10, 2) := by decide +kernel
theorem dL_year_8 : decode cL_year 8 = .ok (.newarray .int, 2) := by decide +kernel
theorem dL_year_10 : decode cL_year 10 = .ok (.astore_n 2, 1) := by decide +kernel
theorem dL_year_11 : decode cL_year 11 = .ok (.bipush 10, 2) := by decide +kernel
theorem dL_year_13 : decode cL_year 13 = .ok (.newarray .int, 2) := by decide +kernel
theorem dL_year_15 : decode cL_year 15 = .ok (.astore_n 3, 1) := by decide +kernel
theorem dL_year_16 : decode cL_year 16 = .ok (.bipush 10, 2) := by decide +kernel
theorem dL_year_18 : decode cL_year 18 = .ok (.newarray .int, 2) := by decide +kernel
theorem dL_year_20 : decode cL_year 20 = .ok (.astore 4, 2) := by decide +kernel
theorem dL_year_22 : decode cL_year 22 = .ok (.iconst 0, 1) := by decide +kernel
theorem dL_year_23 : decode cL_year 23 = .ok (.istore 5, 2) := by decide +kernel
theorem dL_year_25 : decode cL_year 25 = .ok (.iload 5, 2) := by decide +kernel
theorem dL_year_27 : decode cL_year 27 = .ok (.iload_n 1, 1) := by decide +kernel
theorem dL_year_28 : decode cL_year 28 = .ok (.if_icmp .ge 45, 3) := by decide +kernel
theorem dL_year_31 : decode cL_year 31 = .ok (.aload_n 2, 1) := by decide +kernel
theorem dL_year_32 : decode cL_year 32 = .ok (.iload 5, 2) := by decide +kernel
theorem dL_year_34 : decode cL_year 34 = .ok (.aload_n 0, 1) := by decide +kernel
theorem dL_year_35 : decode cL_year 35 = .ok (.iload 5, 2) := by decide +kernel
theorem dL_year_37 : decode cL_year 37 = .ok (.iconst 3, 1) := by decide +kernel
theorem dL_year_38 : decode cL_year 38 = .ok (.invokevirtual 21, 3) := by decide +kernel
theorem dL_year_41 : decode cL_year 41 = .ok (.iastore, 1) := by decide +kernel
theorem dL_year_42 : decode cL_year 42 = .ok (.aload_n 3, 1) := by decide +kernel
theorem dL_year_43 : decode cL_year 43 = .ok (.iload 5, 2) := by decide +kernel
theorem dL_year_45 : decode cL_year 45 = .ok (.aload_n 0, 1) := by decide +kernel
theorem dL_year_46 : decode cL_year 46 = .ok (.iload 5, 2) := by decide +kernel
theorem dL_year_48 : decode cL_year 48 = .ok (.bipush 7, 2) := by decide +kernel
theorem dL_year_50 : decode cL_year 50 = .ok (.invokevirtual 21, 3) := by decide +kernel
theorem dL_year_53 : decode cL_year 53 = .ok (.iastore, 1) := by decide +kernel
theorem dL_year_54 : decode cL_year 54 = .ok (.aload 4, 2) := by decide +kernel
theorem dL_year_56 : decode cL_year 56 = .ok (.iload 5, 2) := by decide +kernel
theorem dL_year_58 : decode cL_year 58 = .ok (.aload_n 0, 1) := by decide +kernel
theorem dL_year_59 : decode cL_year 59 = .ok (.iload 5, 2) := by decide +kernel
theorem dL_year_61 : decode cL_year 61 = .ok (.bipush 8, 2) := by decide +kernel
theorem dL_year_63 : decode cL_year 63 = .ok (.invokevirtual 21, 3) := by decide +kernel
theorem dL_year_66 : decode cL_year 66 = .ok (.iastore, 1) := by decide +kernel
theorem dL_year_67 : decode cL_year 67 = .ok (.iinc 5 1, 3) := by decide +kernel
theorem dL_year_70 : decode cL_year 70 = .ok (.goto (-45), 3) := by decide +kernel
theorem dL_year_73 : decode cL_year 73 = .ok (.aload_n 0, 1) := by decide +kernel
theorem dL_year_74 : decode cL_year 74 = .ok (.iconst 0, 1) := by decide +kernel
theorem dL_year_75 : decode cL_year 75 = .ok (.invokevirtual 15, 3) := by decide +kernel
theorem dL_year_78 : decode cL_year 78 = .ok (.istore 5, 2) := by decide +kernel
theorem dL_year_80 : decode cL_year 80 = .ok (.aload_n 0, 1) := by decide +kernel
theorem dL_year_81 : decode cL_year 81 = .ok (.iconst 1, 1) := by decide +kernel
theorem dL_year_82 : decode cL_year 82 = .ok (.invokevirtual 15, 3) := by decide +kernel
theorem dL_year_85 : decode cL_year 85 = .ok (.istore 6, 2) := by decide +kernel
theorem dL_year_87 : decode cL_year 87 = .ok (.aload_n 0, 1) := by decide +kernel
theorem dL_year_88 : decode cL_year 88 = .ok (.iconst 2, 1) := by decide +kernel
theorem dL_year_89 : decode cL_year 89 = .ok (.invokevirtual 15, 3) := by decide +kernel
theorem dL_year_92 : decode cL_year 92 = .ok (.istore 7, 2) := by decide +kernel
theorem dL_year_94 : decode cL_year 94 = .ok (.aload_n 0, 1) := by decide +kernel
theorem dL_year_95 : decode cL_year 95 = .ok (.iconst 1, 1) := by decide +kernel
theorem dL_year_96 : decode cL_year 96 = .ok (.invokevirtual 38, 3) := by decide +kernel
theorem dL_year_99 : decode cL_year 99 = .ok (.lstore 8, 2) := by decide +kernel
theorem dL_year_101 : decode cL_year 101 = .ok (.aload_n 0, 1) := by decide +kernel
theorem dL_year_102 : decode cL_year 102 = .ok (.iconst 2, 1) := by decide +kernel
theorem dL_year_103 : decode cL_year 103 = .ok (.invokevirtual 38, 3) := by decide +kernel
theorem dL_year_106 : decode cL_year 106 = .ok (.lstore 10, 2) := by decide +kernel
theorem dL_year_108 : decode cL_year 108 = .ok (.aload_n 0, 1) := by decide +kernel
theorem dL_year_109 : decode cL_year 109 = .ok (.iconst 1, 1) := by decide +kernel
theorem dL_year_110 : decode cL_year 110 = .ok (.invokevirtual 9, 3) := by decide +kernel
theorem dL_year_113 : decode cL_year 113 = .ok (.istore 12, 2) := by decide +kernel
theorem dL_year_115 : decode cL_year 115 = .ok (.aload_n 0, 1) := by decide +kernel
theorem dL_year_116 : decode cL_year 116 = .ok (.iconst 1, 1) := by decide +kernel
theorem dL_year_117 : decode cL_year 117 = .ok (.invokevirtual 46, 3) := by decide +kernel
theorem dL_year_120 : decode cL_year 120 = .ok (.istore 13, 2) := by decide +kernel
theorem dL_year_122 : decode cL_year 122 = .ok (.iload 13, 2) := by decide +kernel
theorem dL_year_124 : decode cL_year 124 = .ok (.ifCond .lt 50, 3) := by decide +kernel
theorem dL_year_127 : decode cL_year 127 = .ok (.aload_n 0, 1) := by decide +kernel
theorem dL_year_128 : decode cL_year 128 = .ok (.iconst 1, 1) := by decide +kernel
theorem dL_year_129 : decode cL_year 129 = .ok (.invokevirtual 9, 3) := by decide +kernel
theorem dL_year_132 : decode cL_year 132 = .ok (.iload 12, 2) := by decide +kernel
theorem dL_year_134 : decode cL_year 134 = .ok (.iconst 1, 1) := by decide +kernel
theorem dL_year_135 : decode cL_year 135 = .ok (.iadd, 1) := by decide +kernel
theorem dL_year_136 : decode cL_year 136 = .ok (.if_icmp .ne 38, 3) := by decide +kernel
theorem dL_year_139 : decode cL_year 139 = .ok (.aload_n 0, 1) := by decide +kernel
theorem dL_year_140 : decode cL_year 140 = .ok (.iconst 2, 1) := by decide +kernel
theorem dL_year_141 : decode cL_year 141 = .ok (.invokevirtual 15, 3) := by decide +kernel
theorem dL_year_144 : decode cL_year 144 = .ok (.iload 7, 2) := by decide +kernel
theorem dL_year_146 : decode cL_year 146 = .ok (.iload 13, 2) := by decide +kernel
theorem dL_year_148 : decode cL_year 148 = .ok (.iadd, 1) := by decide +kernel
theorem dL_year_149 : decode cL_year 149 = .ok (.if_icmp .ne 25, 3) := by decide +kernel
theorem dL_year_152 : decode cL_year 152 = .ok (.iload 6, 2) := by decide +kernel
theorem dL_year_154 : decode cL_year 154 = .ok (.ifCond .le 22, 3) := by decide +kernel
theorem dL_year_157 : decode cL_year 157 = .ok (.iload 13, 2) := by decide +kernel
theorem dL_year_159 : decode cL_year 159 = .ok (.ifCond .ne 15, 3) := by decide +kernel
theorem dL_year_162 : decode cL_year 162 = .ok (.aload_n 0, 1) := by decide +kernel
theorem dL_year_163 : decode cL_year 163 = .ok (.iconst 1, 1) := by decide +kernel
theorem dL_year_164 : decode cL_year 164 = .ok (.invokevirtual 15, 3) := by decide +kernel
theorem dL_year_167 : decode cL_year 167 = .ok (.iload 6, 2) := by decide +kernel
theorem dL_year_169 : decode cL_year 169 = .ok (.iconst 1, 1) := by decide +kernel
theorem dL_year_170 : decode cL_year 170 = .ok (.isub, 1) := by decide +kernel
theorem dL_year_171 : decode cL_year 171 = .ok (.if_icmp .eq 5, 3) := by decide +kernel
theorem dL_year_174 : decode cL_year 174 = .ok (.iconst 0, 1) := by decide +kernel
theorem dL_year_175 : decode cL_year 175 = .ok (.ireturn, 1) := by decide +kernel
theorem dL_year_176 : decode cL_year 176 = .ok (.iconst 0, 1) := by decide +kernel
theorem dL_year_177 : decode cL_year 177 = .ok (.istore 14, 2) := by decide +kernel
theorem dL_year_179 : decode cL_year 179 = .ok (.iconst 0, 1) := by decide +kernel
theorem dL_year_180 : decode cL_year 180 = .ok (.istore 15, 2) := by decide +kernel
theorem dL_year_182 : decode cL_year 182 = .ok (.iload 15, 2) := by decide +kernel
theorem dL_year_184 : decode cL_year 184 = .ok (.iload_n 1, 1) := by decide +kernel
theorem dL_year_185 : decode cL_year 185 = .ok (.if_icmp .ge 159, 3) := by decide +kernel
theorem dL_year_188 : decode cL_year 188 = .ok (.aload_n 0, 1) := by decide +kernel
theorem dL_year_189 : decode cL_year 189 = .ok (.iload 15, 2) := by decide +kernel
theorem dL_year_191 : decode cL_year 191 = .ok (.bipush 9, 2) := by decide +kernel
theorem dL_year_193 : decode cL_year 193 = .ok (.invokevirtual 21, 3) := by decide +kernel
theorem dL_year_196 : decode cL_year 196 = .ok (.istore 16, 2) := by decide +kernel
theorem dL_year_198 : decode cL_year 198 = .ok (.aload_n 2, 1) := by decide +kernel
theorem dL_year_199 : decode cL_year 199 = .ok (.iload 15, 2) := by decide +kernel
theorem dL_year_201 : decode cL_year 201 = .ok (.iaload, 1) := by decide +kernel
theorem dL_year_202 : decode cL_year 202 = .ok (.aload_n 3, 1) := by decide +kernel
theorem dL_year_203 : decode cL_year 203 = .ok (.iload 15, 2) := by decide +kernel
theorem dL_year_205 : decode cL_year 205 = .ok (.iaload, 1) := by decide +kernel
theorem dL_year_206 : decode cL_year 206 = .ok (.iadd, 1) := by decide +kernel
theorem dL_year_207 : decode cL_year 207 = .ok (.iload 16, 2) := by decide +kernel
theorem dL_year_209 : decode cL_year 209 = .ok (.isub, 1) := by decide +kernel
theorem dL_year_210 : decode cL_year 210 = .ok (.istore 17, 2) := by decide +kernel
theorem dL_year_212 : decode cL_year 212 = .ok (.aload_n 0, 1) := by decide +kernel
theorem dL_year_213 : decode cL_year 213 = .ok (.iload 15, 2) := by decide +kernel
theorem dL_year_215 : decode cL_year 215 = .ok (.bipush 10, 2) := by decide +kernel
theorem dL_year_217 : decode cL_year 217 = .ok (.invokevirtual 21, 3) := by decide +kernel
theorem dL_year_220 : decode cL_year 220 = .ok (.istore 18, 2) := by decide +kernel
theorem dL_year_222 : decode cL_year 222 = .ok (.iload 16, 2) := by decide +kernel
theorem dL_year_224 : decode cL_year 224 = .ok (.aload 4, 2) := by decide +kernel
theorem dL_year_226 : decode cL_year 226 = .ok (.iload 15, 2) := by decide +kernel
theorem dL_year_228 : decode cL_year 228 = .ok (.iaload, 1) := by decide +kernel
theorem dL_year_229 : decode cL_year 229 = .ok (.aload_n 2, 1) := by decide +kernel
theorem dL_year_230 : decode cL_year 230 = .ok (.iload 15, 2) := by decide +kernel
theorem dL_year_232 : decode cL_year 232 = .ok (.iaload, 1) := by decide +kernel
theorem dL_year_233 : decode cL_year 233 = .ok (.aload_n 3, 1) := by decide +kernel
theorem dL_year_234 : decode cL_year 234 = .ok (.iload 15, 2) := by decide +kernel
theorem dL_year_236 : decode cL_year 236 = .ok (.iaload, 1) := by decide +kernel
theorem dL_year_237 : decode cL_year 237 = .ok (.iadd, 1) := by decide +kernel
theorem dL_year_238 : decode cL_year 238 = .ok (.if_icmp .ge 11, 3) := by decide +kernel
theorem dL_year_241 : decode cL_year 241 = .ok (.aload 4, 2) := by decide +kernel
theorem dL_year_243 : decode cL_year 243 = .ok (.iload 15, 2) := by decide +kernel
theorem dL_year_245 : decode cL_year 245 = .ok (.iaload, 1) := by decide +kernel
theorem dL_year_246 : decode cL_year 246 = .ok (.goto 12, 3) := by decide +kernel
theorem dL_year_249 : decode cL_year 249 = .ok (.aload_n 2, 1) := by decide +kernel
theorem dL_year_250 : decode cL_year 250 = .ok (.iload 15, 2) := by decide +kernel
theorem dL_year_252 : decode cL_year 252 = .ok (.iaload, 1) := by decide +kernel
theorem dL_year_253 : decode cL_year 253 = .ok (.aload_n 3, 1) := by decide +kernel
theorem dL_year_254 : decode cL_year 254 = .ok (.iload 15, 2) := by decide +kernel
theorem dL_year_256 : decode cL_year 256 = .ok (.iaload, 1) := by decide +kernel
theorem dL_year_257 : decode cL_year 257 = .ok (.iadd, 1) := by decide +kernel
theorem dL_year_258 : decode cL_year 258 = .ok (.if_icmp .ne 56, 3) := by decide +kernel
theorem dL_year_261 : decode cL_year 261 = .ok (.iload 18, 2) := by decide +kernel
theorem dL_year_263 : decode cL_year 263 = .ok (.iload 17, 2) := by decide +kernel
theorem dL_year_265 : decode cL_year 265 = .ok (.i2l, 1) := by decide +kernel
theorem dL_year_266 : decode cL_year 266 = .ok (.aload_n 0, 1) := by decide +kernel
theorem dL_year_267 : decode cL_year 267 = .ok (.iload 15, 2) := by decide +kernel
theorem dL_year_269 : decode cL_year 269 = .ok (.iconst 2, 1) := by decide +kernel
theorem dL_year_270 : decode cL_year 270 = .ok (.invokevirtual 21, 3) := by decide +kernel
theorem dL_year_273 : decode cL_year 273 = .ok (.i2l, 1) := by decide +kernel
theorem dL_year_274 : decode cL_year 274 = .ok (.lmul, 1) := by decide +kernel
theorem dL_year_275 : decode cL_year 275 = .ok (.ldc2_w 49, 3) := by decide +kernel
theorem dL_year_278 : decode cL_year 278 = .ok (.ldiv, 1) := by decide +kernel
theorem dL_year_279 : decode cL_year 279 = .ok (.l2i, 1) := by decide +kernel
theorem dL_year_280 : decode cL_year 280 = .ok (.if_icmp .ne 34, 3) := by decide +kernel
theorem dL_year_283 : decode cL_year 283 = .ok (.aload_n 0, 1) := by decide +kernel
theorem dL_year_284 : decode cL_year 284 = .ok (.iload 15, 2) := by decide +kernel
theorem dL_year_286 : decode cL_year 286 = .ok (.bipush 11, 2) := by decide +kernel
theorem dL_year_288 : decode cL_year 288 = .ok (.invokevirtual 21, 3) := by decide +kernel
theorem dL_year_291 : decode cL_year 291 = .ok (.iload 14, 2) := by decide +kernel
theorem dL_year_293 : decode cL_year 293 = .ok (.if_icmp .ne 21, 3) := by decide +kernel
theorem dL_year_296 : decode cL_year 296 = .ok (.aload_n 0, 1) := by decide +kernel
theorem dL_year_297 : decode cL_year 297 = .ok (.iload 15, 2) := by decide +kernel
theorem dL_year_299 : decode cL_year 299 = .ok (.iconst 3, 1) := by decide +kernel
theorem dL_year_300 : decode cL_year 300 = .ok (.invokevirtual 21, 3) := by decide +kernel
theorem dL_year_303 : decode cL_year 303 = .ok (.iload 17, 2) := by decide +kernel
theorem dL_year_305 : decode cL_year 305 = .ok (.iload 18, 2) := by decide +kernel
theorem dL_year_307 : decode cL_year 307 = .ok (.isub, 1) := by decide +kernel
theorem dL_year_308 : decode cL_year 308 = .ok (.iload 14, 2) := by decide +kernel
theorem dL_year_310 : decode cL_year 310 = .ok (.iadd, 1) := by decide +kernel
theorem dL_year_311 : decode cL_year 311 = .ok (.if_icmp .eq 5, 3) := by decide +kernel
theorem dL_year_314 : decode cL_year 314 = .ok (.iconst 0, 1) := by decide +kernel
theorem dL_year_315 : decode cL_year 315 = .ok (.ireturn, 1) := by decide +kernel
theorem dL_year_316 : decode cL_year 316 = .ok (.lload 8, 2) := by decide +kernel
theorem dL_year_318 : decode cL_year 318 = .ok (.aload_n 3, 1) := by decide +kernel
theorem dL_year_319 : decode cL_year 319 = .ok (.iload 15, 2) := by decide +kernel
theorem dL_year_321 : decode cL_year 321 = .ok (.iaload, 1) := by decide +kernel
theorem dL_year_322 : decode cL_year 322 = .ok (.i2l, 1) := by decide +kernel
theorem dL_year_323 : decode cL_year 323 = .ok (.ladd, 1) := by decide +kernel
theorem dL_year_324 : decode cL_year 324 = .ok (.lstore 8, 2) := by decide +kernel
theorem dL_year_326 : decode cL_year 326 = .ok (.lload 10, 2) := by decide +kernel
theorem dL_year_328 : decode cL_year 328 = .ok (.iload 16, 2) := by decide +kernel
theorem dL_year_330 : decode cL_year 330 = .ok (.i2l, 1) := by decide +kernel
theorem dL_year_331 : decode cL_year 331 = .ok (.ladd, 1) := by decide +kernel
theorem dL_year_332 : decode cL_year 332 = .ok (.lstore 10, 2) := by decide +kernel
theorem dL_year_334 : decode cL_year 334 = .ok (.iload 18, 2) := by decide +kernel
theorem dL_year_336 : decode cL_year 336 = .ok (.istore 14, 2) := by decide +kernel
theorem dL_year_338 : decode cL_year 338 = .ok (.iinc 15 1, 3) := by decide +kernel
theorem dL_year_341 : decode cL_year 341 = .ok (.goto (-159), 3) := by decide +kernel
theorem dL_year_344 : decode cL_year 344 = .ok (.aload_n 0, 1) := by decide +kernel
theorem dL_year_345 : decode cL_year 345 = .ok (.bipush 11, 2) := by decide +kernel
theorem dL_year_347 : decode cL_year 347 = .ok (.invokevirtual 9, 3) := by decide +kernel
theorem dL_year_350 : decode cL_year 350 = .ok (.istore 15, 2) := by decide +kernel
theorem dL_year_352 : decode cL_year 352 = .ok (.iload 5, 2) := by decide +kernel
theorem dL_year_354 : decode cL_year 354 = .ok (.iload 14, 2) := by decide +kernel
theorem dL_year_356 : decode cL_year 356 = .ok (.iadd, 1) := by decide +kernel
theorem dL_year_357 : decode cL_year 357 = .ok (.istore 5, 2) := by decide +kernel
theorem dL_year_359 : decode cL_year 359 = .ok (.iload 6, 2) := by decide +kernel
theorem dL_year_361 : decode cL_year 361 = .ok (.ifCond .le 7, 3) := by decide +kernel
theorem dL_year_364 : decode cL_year 364 = .ok (.iconst 0, 1) := by decide +kernel
theorem dL_year_365 : decode cL_year 365 = .ok (.goto 8, 3) := by decide +kernel
theorem dL_year_368 : decode cL_year 368 = .ok (.iload 5, 2) := by decide +kernel
theorem dL_year_370 : decode cL_year 370 = .ok (.iload 15, 2) := by decide +kernel
theorem dL_year_372 : decode cL_year 372 = .ok (.idiv, 1) := by decide +kernel
theorem dL_year_373 : decode cL_year 373 = .ok (.istore 16, 2) := by decide +kernel
theorem dL_year_375 : decode cL_year 375 = .ok (.aload_n 0, 1) := by decide +kernel
theorem dL_year_376 : decode cL_year 376 = .ok (.iconst 1, 1) := by decide +kernel
theorem dL_year_377 : decode cL_year 377 = .ok (.invokevirtual 38, 3) := by decide +kernel
theorem dL_year_380 : decode cL_year 380 = .ok (.lload 8, 2) := by decide +kernel
theorem dL_year_382 : decode cL_year 382 = .ok (.lcmp, 1) := by decide +kernel
theorem dL_year_383 : decode cL_year 383 = .ok (.ifCond .ne 105, 3) := by decide +kernel
theorem dL_year_386 : decode cL_year 386 = .ok (.aload_n 0, 1) := by decide +kernel
theorem dL_year_387 : decode cL_year 387 = .ok (.iconst 2, 1) := by decide +kernel
theorem dL_year_388 : decode cL_year 388 = .ok (.invokevirtual 38, 3) := by decide +kernel
theorem dL_year_391 : decode cL_year 391 = .ok (.lload 10, 2) := by decide +kernel
theorem dL_year_393 : decode cL_year 393 = .ok (.lcmp, 1) := by decide +kernel
theorem dL_year_394 : decode cL_year 394 = .ok (.ifCond .ne 94, 3) := by decide +kernel
theorem dL_year_397 : decode cL_year 397 = .ok (.iload 13, 2) := by decide +kernel
theorem dL_year_399 : decode cL_year 399 = .ok (.iload 16, 2) := by decide +kernel
theorem dL_year_401 : decode cL_year 401 = .ok (.if_icmp .ne 87, 3) := by decide +kernel
theorem dL_year_404 : decode cL_year 404 = .ok (.aload_n 0, 1) := by decide +kernel
theorem dL_year_405 : decode cL_year 405 = .ok (.iconst 0, 1) := by decide +kernel
theorem dL_year_406 : decode cL_year 406 = .ok (.invokevirtual 15, 3) := by decide +kernel
theorem dL_year_409 : decode cL_year 409 = .ok (.iload 5, 2) := by decide +kernel
theorem dL_year_411 : decode cL_year 411 = .ok (.iload 16, 2) := by decide +kernel
theorem dL_year_413 : decode cL_year 413 = .ok (.iload 15, 2) := by decide +kernel
theorem dL_year_415 : decode cL_year 415 = .ok (.imul, 1) := by decide +kernel
theorem dL_year_416 : decode cL_year 416 = .ok (.isub, 1) := by decide +kernel
theorem dL_year_417 : decode cL_year 417 = .ok (.if_icmp .ne 71, 3) := by decide +kernel
theorem dL_year_420 : decode cL_year 420 = .ok (.iload 16, 2) := by decide +kernel
theorem dL_year_422 : decode cL_year 422 = .ok (.ifCond .eq 29, 3) := by decide +kernel
theorem dL_year_425 : decode cL_year 425 = .ok (.aload_n 0, 1) := by decide +kernel
theorem dL_year_426 : decode cL_year 426 = .ok (.iconst 1, 1) := by decide +kernel
theorem dL_year_427 : decode cL_year 427 = .ok (.invokevirtual 15, 3) := by decide +kernel
theorem dL_year_430 : decode cL_year 430 = .ok (.aload_n 0, 1) := by decide +kernel
theorem dL_year_431 : decode cL_year 431 = .ok (.bipush 12, 2) := by decide +kernel
theorem dL_year_433 : decode cL_year 433 = .ok (.invokevirtual 9, 3) := by decide +kernel
theorem dL_year_436 : decode cL_year 436 = .ok (.if_icmp .ne 52, 3) := by decide +kernel
theorem dL_year_439 : decode cL_year 439 = .ok (.aload_n 0, 1) := by decide +kernel
theorem dL_year_440 : decode cL_year 440 = .ok (.iconst 3, 1) := by decide +kernel
theorem dL_year_441 : decode cL_year 441 = .ok (.invokevirtual 15, 3) := by decide +kernel
theorem dL_year_444 : decode cL_year 444 = .ok (.iload 12, 2) := by decide +kernel
theorem dL_year_446 : decode cL_year 446 = .ok (.iconst 1, 1) := by decide +kernel
theorem dL_year_447 : decode cL_year 447 = .ok (.iadd, 1) := by decide +kernel
theorem dL_year_448 : decode cL_year 448 = .ok (.if_icmp .ne 40, 3) := by decide +kernel
theorem dL_year_451 : decode cL_year 451 = .ok (.iload 6, 2) := by decide +kernel
theorem dL_year_453 : decode cL_year 453 = .ok (.ifCond .gt 13, 3) := by decide +kernel
theorem dL_year_456 : decode cL_year 456 = .ok (.aload_n 0, 1) := by decide +kernel
theorem dL_year_457 : decode cL_year 457 = .ok (.iconst 0, 1) := by decide +kernel
theorem dL_year_458 : decode cL_year 458 = .ok (.invokevirtual 15, 3) := by decide +kernel
theorem dL_year_461 : decode cL_year 461 = .ok (.iload 15, 2) := by decide +kernel
theorem dL_year_463 : decode cL_year 463 = .ok (.if_icmp .ge 25, 3) := by decide +kernel
theorem dL_year_466 : decode cL_year 466 = .ok (.iload 6, 2) := by decide +kernel
theorem dL_year_468 : decode cL_year 468 = .ok (.ifCond .gt 16, 3) := by decide +kernel
theorem dL_year_471 : decode cL_year 471 = .ok (.iload 16, 2) := by decide +kernel
theorem dL_year_473 : decode cL_year 473 = .ok (.ifCond .gt 11, 3) := by decide +kernel
theorem dL_year_476 : decode cL_year 476 = .ok (.aload_n 0, 1) := by decide +kernel
theorem dL_year_477 : decode cL_year 477 = .ok (.iconst 1, 1) := by decide +kernel
theorem dL_year_478 : decode cL_year 478 = .ok (.invokevirtual 15, 3) := by decide +kernel
theorem dL_year_481 : decode cL_year 481 = .ok (.ifCond .ne 7, 3) := by decide +kernel
theorem dL_year_484 : decode cL_year 484 = .ok (.iconst 1, 1) := by decide +kernel
theorem dL_year_485 : decode cL_year 485 = .ok (.goto 4, 3) := by decide +kernel
theorem dL_year_488 : decode cL_year 488 = .ok (.iconst 0, 1) := by decide +kernel
theorem dL_year_489 : decode cL_year 489 = .ok (.ireturn, 1) := by decide +kernel
end
section
theorem dL_sound_0 : decode cL_sound 0 = .ok (.aload_n 0, 1) := by decide +kernel
theorem dL_sound_1 : decode cL_sound 1 = .ok (.iconst 0, 1) := by decide +kernel
theorem dL_sound_2 : decode cL_sound 2 = .ok (.invokevirtual 9, 3) := by decide +kernel
theorem dL_sound_5 : decode cL_sound 5 = .ok (.istore_n 1, 1) := by decide +kernel
theorem dL_sound_6 : decode cL_sound 6 = .ok (.aload_n 0, 1) := by decide +kernel
theorem dL_sound_7 : decode cL_sound 7 = .ok (.iconst 1, 1) := by decide +kernel
theorem dL_sound_8 : decode cL_sound 8 = .ok (.invokevirtual 9, 3) := by decide +kernel
theorem dL_sound_11 : decode cL_sound 11 = .ok (.istore_n 2, 1) := by decide +kernel
theorem dL_sound_12 : decode cL_sound 12 = .ok (.aload_n 0, 1) := by decide +kernel
theorem dL_sound_13 : decode cL_sound 13 = .ok (.iconst 0, 1) := by decide +kernel
theorem dL_sound_14 : decode cL_sound 14 = .ok (.invokevirtual 15, 3) := by decide +kernel
theorem dL_sound_17 : decode cL_sound 17 = .ok (.i2l, 1) := by decide +kernel
theorem dL_sound_18 : decode cL_sound 18 = .ok (.lstore_n 3, 1) := by decide +kernel
theorem dL_sound_19 : decode cL_sound 19 = .ok (.iconst 0, 1) := by decide +kernel
theorem dL_sound_20 : decode cL_sound 20 = .ok (.istore 5, 2) := by decide +kernel
theorem dL_sound_22 : decode cL_sound 22 = .ok (.iconst 0, 1) := by decide +kernel
theorem dL_sound_23 : decode cL_sound 23 = .ok (.istore 6, 2) := by decide +kernel
theorem dL_sound_25 : decode cL_sound 25 = .ok (.ldc 20, 2) := by decide +kernel
theorem dL_sound_27 : decode cL_sound 27 = .ok (.istore 7, 2) := by decide +kernel
theorem dL_sound_29 : decode cL_sound 29 = .ok (.iconst 0, 1) := by decide +kernel
theorem dL_sound_30 : decode cL_sound 30 = .ok (.istore 8, 2) := by decide +kernel
theorem dL_sound_32 : decode cL_sound 32 = .ok (.iload 8, 2) := by decide +kernel
theorem dL_sound_34 : decode cL_sound 34 = .ok (.iload_n 1, 1) := by decide +kernel
theorem dL_sound_35 : decode cL_sound 35 = .ok (.if_icmp .ge 354, 3) := by decide +kernel
theorem dL_sound_38 : decode cL_sound 38 = .ok (.aload_n 0, 1) := by decide +kernel
theorem dL_sound_39 : decode cL_sound 39 = .ok (.iload 8, 2) := by decide +kernel
theorem dL_sound_41 : decode cL_sound 41 = .ok (.iconst 4, 1) := by decide +kernel
theorem dL_sound_42 : decode cL_sound 42 = .ok (.invokevirtual 21, 3) := by decide +kernel
theorem dL_sound_45 : decode cL_sound 45 = .ok (.istore 9, 2) := by decide +kernel
theorem dL_sound_47 : decode cL_sound 47 = .ok (.iconst 0, 1) := by decide +kernel
theorem dL_sound_48 : decode cL_sound 48 = .ok (.istore 10, 2) := by decide +kernel
theorem dL_sound_50 : decode cL_sound 50 = .ok (.iconst (-1), 1) := by decide +kernel
theorem dL_sound_51 : decode cL_sound 51 = .ok (.istore 11, 2) := by decide +kernel
theorem dL_sound_53 : decode cL_sound 53 = .ok (.iconst 0, 1) := by decide +kernel
theorem dL_sound_54 : decode cL_sound 54 = .ok (.istore 12, 2) := by decide +kernel
theorem dL_sound_56 : decode cL_sound 56 = .ok (.iload 12, 2) := by decide +kernel
theorem dL_sound_58 : decode cL_sound 58 = .ok (.iload 9, 2) := by decide +kernel
theorem dL_sound_60 : decode cL_sound 60 = .ok (.if_icmp .ge 76, 3) := by decide +kernel
theorem dL_sound_63 : decode cL_sound 63 = .ok (.aload_n 0, 1) := by decide +kernel
theorem dL_sound_64 : decode cL_sound 64 = .ok (.iload 8, 2) := by decide +kernel
theorem dL_sound_66 : decode cL_sound 66 = .ok (.iload 12, 2) := by decide +kernel
theorem dL_sound_68 : decode cL_sound 68 = .ok (.iconst 0, 1) := by decide +kernel
theorem dL_sound_69 : decode cL_sound 69 = .ok (.invokevirtual 25, 3) := by decide +kernel
theorem dL_sound_72 : decode cL_sound 72 = .ok (.iload 11, 2) := by decide +kernel
theorem dL_sound_74 : decode cL_sound 74 = .ok (.if_icmp .le 29, 3) := by decide +kernel
theorem dL_sound_77 : decode cL_sound 77 = .ok (.aload_n 0, 1) := by decide +kernel
theorem dL_sound_78 : decode cL_sound 78 = .ok (.iload 8, 2) := by decide +kernel
theorem dL_sound_80 : decode cL_sound 80 = .ok (.iload 12, 2) := by decide +kernel
theorem dL_sound_82 : decode cL_sound 82 = .ok (.iconst 1, 1) := by decide +kernel
theorem dL_sound_83 : decode cL_sound 83 = .ok (.invokevirtual 25, 3) := by decide +kernel
theorem dL_sound_86 : decode cL_sound 86 = .ok (.iconst 1, 1) := by decide +kernel
theorem dL_sound_87 : decode cL_sound 87 = .ok (.if_icmp .lt 16, 3) := by decide +kernel
theorem dL_sound_90 : decode cL_sound 90 = .ok (.aload_n 0, 1) := by decide +kernel
theorem dL_sound_91 : decode cL_sound 91 = .ok (.iload 8, 2) := by decide +kernel
theorem dL_sound_93 : decode cL_sound 93 = .ok (.iload 12, 2) := by decide +kernel
theorem dL_sound_95 : decode cL_sound 95 = .ok (.iconst 0, 1) := by decide +kernel
theorem dL_sound_96 : decode cL_sound 96 = .ok (.invokevirtual 25, 3) := by decide +kernel
theorem dL_sound_99 : decode cL_sound 99 = .ok (.iload_n 2, 1) := by decide +kernel
theorem dL_sound_100 : decode cL_sound 100 = .ok (.if_icmp .le 5, 3) := by decide +kernel
theorem dL_sound_103 : decode cL_sound 103 = .ok (.iconst 0, 1) := by decide +kernel
theorem dL_sound_104 : decode cL_sound 104 = .ok (.ireturn, 1) := by decide +kernel
theorem dL_sound_105 : decode cL_sound 105 = .ok (.aload_n 0, 1) := by decide +kernel
theorem dL_sound_106 : decode cL_sound 106 = .ok (.iload 8, 2) := by decide +kernel
theorem dL_sound_108 : decode cL_sound 108 = .ok (.iload 12, 2) := by decide +kernel
theorem dL_sound_110 : decode cL_sound 110 = .ok (.iconst 0, 1) := by decide +kernel
theorem dL_sound_111 : decode cL_sound 111 = .ok (.invokevirtual 25, 3) := by decide +kernel
theorem dL_sound_114 : decode cL_sound 114 = .ok (.istore 11, 2) := by decide +kernel
theorem dL_sound_116 : decode cL_sound 116 = .ok (.iload 10, 2) := by decide +kernel
theorem dL_sound_118 : decode cL_sound 118 = .ok (.aload_n 0, 1) := by decide +kernel
theorem dL_sound_119 : decode cL_sound 119 = .ok (.iload 8, 2) := by decide +kernel
theorem dL_sound_121 : decode cL_sound 121 = .ok (.iload 12, 2) := by decide +kernel
theorem dL_sound_123 : decode cL_sound 123 = .ok (.iconst 1, 1) := by decide +kernel
theorem dL_sound_124 : decode cL_sound 124 = .ok (.invokevirtual 25, 3) := by decide +kernel
theorem dL_sound_127 : decode cL_sound 127 = .ok (.iadd, 1) := by decide +kernel
theorem dL_sound_128 : decode cL_sound 128 = .ok (.istore 10, 2) := by decide +kernel
theorem dL_sound_130 : decode cL_sound 130 = .ok (.iinc 12 1, 3) := by decide +kernel
theorem dL_sound_133 : decode cL_sound 133 = .ok (.goto (-77), 3) := by decide +kernel
theorem dL_sound_136 : decode cL_sound 136 = .ok (.aload_n 0, 1) := by decide +kernel
theorem dL_sound_137 : decode cL_sound 137 = .ok (.iload 8, 2) := by decide +kernel
theorem dL_sound_139 : decode cL_sound 139 = .ok (.invokevirtual 29, 3) := by decide +kernel
theorem dL_sound_142 : decode cL_sound 142 = .ok (.istore 12, 2) := by decide +kernel
theorem dL_sound_144 : decode cL_sound 144 = .ok (.aload_n 0, 1) := by decide +kernel
theorem dL_sound_145 : decode cL_sound 145 = .ok (.iload 8, 2) := by decide +kernel
theorem dL_sound_147 : decode cL_sound 147 = .ok (.bipush 7, 2) := by decide +kernel
theorem dL_sound_149 : decode cL_sound 149 = .ok (.invokevirtual 21, 3) := by decide +kernel
theorem dL_sound_152 : decode cL_sound 152 = .ok (.aload_n 0, 1) := by decide +kernel
theorem dL_sound_153 : decode cL_sound 153 = .ok (.iload 8, 2) := by decide +kernel
theorem dL_sound_155 : decode cL_sound 155 = .ok (.bipush 8, 2) := by decide +kernel
theorem dL_sound_157 : decode cL_sound 157 = .ok (.invokevirtual 21, 3) := by decide +kernel
theorem dL_sound_160 : decode cL_sound 160 = .ok (.if_icmp .lt 8, 3) := by decide +kernel
theorem dL_sound_163 : decode cL_sound 163 = .ok (.iload 8, 2) := by decide +kernel
theorem dL_sound_165 : decode cL_sound 165 = .ok (.goto 5, 3) := by decide +kernel
theorem dL_sound_168 : decode cL_sound 168 = .ok (.iload 7, 2) := by decide +kernel
theorem dL_sound_170 : decode cL_sound 170 = .ok (.istore 7, 2) := by decide +kernel
theorem dL_sound_172 : decode cL_sound 172 = .ok (.iload 10, 2) := by decide +kernel
theorem dL_sound_174 : decode cL_sound 174 = .ok (.aload_n 0, 1) := by decide +kernel
theorem dL_sound_175 : decode cL_sound 175 = .ok (.iload 8, 2) := by decide +kernel
theorem dL_sound_177 : decode cL_sound 177 = .ok (.iconst 3, 1) := by decide +kernel
theorem dL_sound_178 : decode cL_sound 178 = .ok (.invokevirtual 21, 3) := by decide +kernel
theorem dL_sound_181 : decode cL_sound 181 = .ok (.if_icmp .ne 180, 3) := by decide +kernel
theorem dL_sound_184 : decode cL_sound 184 = .ok (.aload_n 0, 1) := by decide +kernel
theorem dL_sound_185 : decode cL_sound 185 = .ok (.iload 8, 2) := by decide +kernel
theorem dL_sound_187 : decode cL_sound 187 = .ok (.iload 9, 2) := by decide +kernel
theorem dL_sound_189 : decode cL_sound 189 = .ok (.iconst 0, 1) := by decide +kernel
theorem dL_sound_190 : decode cL_sound 190 = .ok (.invokevirtual 25, 3) := by decide +kernel
theorem dL_sound_193 : decode cL_sound 193 = .ok (.ldc 20, 2) := by decide +kernel
theorem dL_sound_195 : decode cL_sound 195 = .ok (.if_icmp .ne 166, 3) := by decide +kernel
theorem dL_sound_198 : decode cL_sound 198 = .ok (.iload 9, 2) := by decide +kernel
theorem dL_sound_200 : decode cL_sound 200 = .ok (.ifCond .ne 7, 3) := by decide +kernel
theorem dL_sound_203 : decode cL_sound 203 = .ok (.iconst 1, 1) := by decide +kernel
theorem dL_sound_204 : decode cL_sound 204 = .ok (.goto 4, 3) := by decide +kernel
theorem dL_sound_207 : decode cL_sound 207 = .ok (.iconst 0, 1) := by decide +kernel
theorem dL_sound_208 : decode cL_sound 208 = .ok (.aload_n 0, 1) := by decide +kernel
theorem dL_sound_209 : decode cL_sound 209 = .ok (.iload 8, 2) := by decide +kernel
theorem dL_sound_211 : decode cL_sound 211 = .ok (.iconst 5, 1) := by decide +kernel
theorem dL_sound_212 : decode cL_sound 212 = .ok (.invokevirtual 21, 3) := by decide +kernel
theorem dL_sound_215 : decode cL_sound 215 = .ok (.ldc 20, 2) := by decide +kernel
theorem dL_sound_217 : decode cL_sound 217 = .ok (.if_icmp .ne 7, 3) := by decide +kernel
theorem dL_sound_220 : decode cL_sound 220 = .ok (.iconst 1, 1) := by decide +kernel
theorem dL_sound_221 : decode cL_sound 221 = .ok (.goto 4, 3) := by decide +kernel
theorem dL_sound_224 : decode cL_sound 224 = .ok (.iconst 0, 1) := by decide +kernel
theorem dL_sound_225 : decode cL_sound 225 = .ok (.if_icmp .ne 136, 3) := by decide +kernel
theorem dL_sound_228 : decode cL_sound 228 = .ok (.iload 9, 2) := by decide +kernel
theorem dL_sound_230 : decode cL_sound 230 = .ok (.ifCond .le 34, 3) := by decide +kernel
theorem dL_sound_233 : decode cL_sound 233 = .ok (.aload_n 0, 1) := by decide +kernel
theorem dL_sound_234 : decode cL_sound 234 = .ok (.iload 8, 2) := by decide +kernel
theorem dL_sound_236 : decode cL_sound 236 = .ok (.iconst 5, 1) := by decide +kernel
theorem dL_sound_237 : decode cL_sound 237 = .ok (.invokevirtual 21, 3) := by decide +kernel
theorem dL_sound_240 : decode cL_sound 240 = .ok (.aload_n 0, 1) := by decide +kernel
theorem dL_sound_241 : decode cL_sound 241 = .ok (.iload 8, 2) := by decide +kernel
theorem dL_sound_243 : decode cL_sound 243 = .ok (.iconst 0, 1) := by decide +kernel
theorem dL_sound_244 : decode cL_sound 244 = .ok (.iconst 0, 1) := by decide +kernel
theorem dL_sound_245 : decode cL_sound 245 = .ok (.invokevirtual 25, 3) := by decide +kernel
theorem dL_sound_248 : decode cL_sound 248 = .ok (.if_icmp .ne 113, 3) := by decide +kernel
theorem dL_sound_251 : decode cL_sound 251 = .ok (.aload_n 0, 1) := by decide +kernel
theorem dL_sound_252 : decode cL_sound 252 = .ok (.iload 8, 2) := by decide +kernel
theorem dL_sound_254 : decode cL_sound 254 = .ok (.bipush 6, 2) := by decide +kernel
theorem dL_sound_256 : decode cL_sound 256 = .ok (.invokevirtual 21, 3) := by decide +kernel
theorem dL_sound_259 : decode cL_sound 259 = .ok (.iload 11, 2) := by decide +kernel
theorem dL_sound_261 : decode cL_sound 261 = .ok (.if_icmp .ne 100, 3) := by decide +kernel
theorem dL_sound_264 : decode cL_sound 264 = .ok (.iload 12, 2) := by decide +kernel
theorem dL_sound_266 : decode cL_sound 266 = .ok (.iload 6, 2) := by decide +kernel
theorem dL_sound_268 : decode cL_sound 268 = .ok (.iand, 1) := by decide +kernel
theorem dL_sound_269 : decode cL_sound 269 = .ok (.ifCond .ne 92, 3) := by decide +kernel
theorem dL_sound_272 : decode cL_sound 272 = .ok (.aload_n 0, 1) := by decide +kernel
theorem dL_sound_273 : decode cL_sound 273 = .ok (.iload 8, 2) := by decide +kernel
theorem dL_sound_275 : decode cL_sound 275 = .ok (.bipush 7, 2) := by decide +kernel
theorem dL_sound_277 : decode cL_sound 277 = .ok (.invokevirtual 21, 3) := by decide +kernel
theorem dL_sound_280 : decode cL_sound 280 = .ok (.ifCond .lt 81, 3) := by decide +kernel
theorem dL_sound_283 : decode cL_sound 283 = .ok (.aload_n 0, 1) := by decide +kernel
theorem dL_sound_284 : decode cL_sound 284 = .ok (.iload 8, 2) := by decide +kernel
theorem dL_sound_286 : decode cL_sound 286 = .ok (.bipush 8, 2) := by decide +kernel
theorem dL_sound_288 : decode cL_sound 288 = .ok (.invokevirtual 21, 3) := by decide +kernel
theorem dL_sound_291 : decode cL_sound 291 = .ok (.ifCond .lt 70, 3) := by decide +kernel
theorem dL_sound_294 : decode cL_sound 294 = .ok (.aload_n 0, 1) := by decide +kernel
theorem dL_sound_295 : decode cL_sound 295 = .ok (.iload 8, 2) := by decide +kernel
theorem dL_sound_297 : decode cL_sound 297 = .ok (.bipush 9, 2) := by decide +kernel
theorem dL_sound_299 : decode cL_sound 299 = .ok (.invokevirtual 21, 3) := by decide +kernel
theorem dL_sound_302 : decode cL_sound 302 = .ok (.ifCond .lt 59, 3) := by decide +kernel
theorem dL_sound_305 : decode cL_sound 305 = .ok (.iload 8, 2) := by decide +kernel
theorem dL_sound_307 : decode cL_sound 307 = .ok (.ifCond .le 56, 3) := by decide +kernel
theorem dL_sound_310 : decode cL_sound 310 = .ok (.aload_n 0, 1) := by decide +kernel
theorem dL_sound_311 : decode cL_sound 311 = .ok (.iload 8, 2) := by decide +kernel
theorem dL_sound_313 : decode cL_sound 313 = .ok (.iconst 0, 1) := by decide +kernel
theorem dL_sound_314 : decode cL_sound 314 = .ok (.invokevirtual 21, 3) := by decide +kernel
theorem dL_sound_317 : decode cL_sound 317 = .ok (.aload_n 0, 1) := by decide +kernel
theorem dL_sound_318 : decode cL_sound 318 = .ok (.iload 8, 2) := by decide +kernel
theorem dL_sound_320 : decode cL_sound 320 = .ok (.iconst 1, 1) := by decide +kernel
theorem dL_sound_321 : decode cL_sound 321 = .ok (.isub, 1) := by decide +kernel
theorem dL_sound_322 : decode cL_sound 322 = .ok (.iconst 0, 1) := by decide +kernel
theorem dL_sound_323 : decode cL_sound 323 = .ok (.invokevirtual 21, 3) := by decide +kernel
theorem dL_sound_326 : decode cL_sound 326 = .ok (.if_icmp .ge 35, 3) := by decide +kernel
theorem dL_sound_329 : decode cL_sound 329 = .ok (.aload_n 0, 1) := by decide +kernel
theorem dL_sound_330 : decode cL_sound 330 = .ok (.iload 8, 2) := by decide +kernel
theorem dL_sound_332 : decode cL_sound 332 = .ok (.bipush 11, 2) := by decide +kernel
theorem dL_sound_334 : decode cL_sound 334 = .ok (.invokevirtual 21, 3) := by decide +kernel
theorem dL_sound_337 : decode cL_sound 337 = .ok (.aload_n 0, 1) := by decide +kernel
theorem dL_sound_338 : decode cL_sound 338 = .ok (.iload 8, 2) := by decide +kernel
theorem dL_sound_340 : decode cL_sound 340 = .ok (.iconst 1, 1) := by decide +kernel
theorem dL_sound_341 : decode cL_sound 341 = .ok (.isub, 1) := by decide +kernel
theorem dL_sound_342 : decode cL_sound 342 = .ok (.bipush 10, 2) := by decide +kernel
theorem dL_sound_344 : decode cL_sound 344 = .ok (.invokevirtual 21, 3) := by decide +kernel
theorem dL_sound_347 : decode cL_sound 347 = .ok (.if_icmp .eq 16, 3) := by decide +kernel
theorem dL_sound_350 : decode cL_sound 350 = .ok (.aload_n 0, 1) := by decide +kernel
theorem dL_sound_351 : decode cL_sound 351 = .ok (.iload 8, 2) := by decide +kernel
theorem dL_sound_353 : decode cL_sound 353 = .ok (.bipush 11, 2) := by decide +kernel
theorem dL_sound_355 : decode cL_sound 355 = .ok (.invokevirtual 21, 3) := by decide +kernel
theorem dL_sound_358 : decode cL_sound 358 = .ok (.ifCond .eq 5, 3) := by decide +kernel
theorem dL_sound_361 : decode cL_sound 361 = .ok (.iconst 0, 1) := by decide +kernel
theorem dL_sound_362 : decode cL_sound 362 = .ok (.ireturn, 1) := by decide +kernel
theorem dL_sound_363 : decode cL_sound 363 = .ok (.iload 6, 2) := by decide +kernel
theorem dL_sound_365 : decode cL_sound 365 = .ok (.iload 12, 2) := by decide +kernel
theorem dL_sound_367 : decode cL_sound 367 = .ok (.ior, 1) := by decide +kernel
theorem dL_sound_368 : decode cL_sound 368 = .ok (.istore 6, 2) := by decide +kernel
theorem dL_sound_370 : decode cL_sound 370 = .ok (.iload 5, 2) := by decide +kernel
theorem dL_sound_372 : decode cL_sound 372 = .ok (.iload 9, 2) := by decide +kernel
theorem dL_sound_374 : decode cL_sound 374 = .ok (.iadd, 1) := by decide +kernel
theorem dL_sound_375 : decode cL_sound 375 = .ok (.istore 5, 2) := by decide +kernel
theorem dL_sound_377 : decode cL_sound 377 = .ok (.lload_n 3, 1) := by decide +kernel
theorem dL_sound_378 : decode cL_sound 378 = .ok (.iload 10, 2) := by decide +kernel
theorem dL_sound_380 : decode cL_sound 380 = .ok (.i2l, 1) := by decide +kernel
theorem dL_sound_381 : decode cL_sound 381 = .ok (.ladd, 1) := by decide +kernel
theorem dL_sound_382 : decode cL_sound 382 = .ok (.lstore_n 3, 1) := by decide +kernel
theorem dL_sound_383 : decode cL_sound 383 = .ok (.iinc 8 1, 3) := by decide +kernel
theorem dL_sound_386 : decode cL_sound 386 = .ok (.goto (-354), 3) := by decide +kernel
theorem dL_sound_389 : decode cL_sound 389 = .ok (.iconst 0, 1) := by decide +kernel
theorem dL_sound_390 : decode cL_sound 390 = .ok (.istore 8, 2) := by decide +kernel
theorem dL_sound_392 : decode cL_sound 392 = .ok (.aload_n 0, 1) := by decide +kernel
theorem dL_sound_393 : decode cL_sound 393 = .ok (.iconst 0, 1) := by decide +kernel
theorem dL_sound_394 : decode cL_sound 394 = .ok (.invokevirtual 15, 3) := by decide +kernel
theorem dL_sound_397 : decode cL_sound 397 = .ok (.i2l, 1) := by decide +kernel
theorem dL_sound_398 : decode cL_sound 398 = .ok (.lstore 9, 2) := by decide +kernel
theorem dL_sound_400 : decode cL_sound 400 = .ok (.iconst 0, 1) := by decide +kernel
theorem dL_sound_401 : decode cL_sound 401 = .ok (.istore 11, 2) := by decide +kernel
theorem dL_sound_403 : decode cL_sound 403 = .ok (.iload 11, 2) := by decide +kernel
theorem dL_sound_405 : decode cL_sound 405 = .ok (.iload_n 2, 1) := by decide +kernel
theorem dL_sound_406 : decode cL_sound 406 = .ok (.if_icmp .gt 40, 3) := by decide +kernel
theorem dL_sound_409 : decode cL_sound 409 = .ok (.iload 8, 2) := by decide +kernel
theorem dL_sound_411 : decode cL_sound 411 = .ok (.aload_n 0, 1) := by decide +kernel
theorem dL_sound_412 : decode cL_sound 412 = .ok (.iload 11, 2) := by decide +kernel
theorem dL_sound_414 : decode cL_sound 414 = .ok (.invokevirtual 32, 3) := by decide +kernel
theorem dL_sound_417 : decode cL_sound 417 = .ok (.ifCond .le 7, 3) := by decide +kernel
theorem dL_sound_420 : decode cL_sound 420 = .ok (.iconst 1, 1) := by decide +kernel
theorem dL_sound_421 : decode cL_sound 421 = .ok (.goto 4, 3) := by decide +kernel
theorem dL_sound_424 : decode cL_sound 424 = .ok (.iconst 0, 1) := by decide +kernel
theorem dL_sound_425 : decode cL_sound 425 = .ok (.iadd, 1) := by decide +kernel
theorem dL_sound_426 : decode cL_sound 426 = .ok (.istore 8, 2) := by decide +kernel
theorem dL_sound_428 : decode cL_sound 428 = .ok (.lload 9, 2) := by decide +kernel
theorem dL_sound_430 : decode cL_sound 430 = .ok (.aload_n 0, 1) := by decide +kernel
theorem dL_sound_431 : decode cL_sound 431 = .ok (.iload 11, 2) := by decide +kernel
theorem dL_sound_433 : decode cL_sound 433 = .ok (.invokevirtual 32, 3) := by decide +kernel
theorem dL_sound_436 : decode cL_sound 436 = .ok (.i2l, 1) := by decide +kernel
theorem dL_sound_437 : decode cL_sound 437 = .ok (.ladd, 1) := by decide +kernel
theorem dL_sound_438 : decode cL_sound 438 = .ok (.lstore 9, 2) := by decide +kernel
theorem dL_sound_440 : decode cL_sound 440 = .ok (.iinc 11 1, 3) := by decide +kernel
theorem dL_sound_443 : decode cL_sound 443 = .ok (.goto (-40), 3) := by decide +kernel
theorem dL_sound_446 : decode cL_sound 446 = .ok (.iconst 0, 1) := by decide +kernel
theorem dL_sound_447 : decode cL_sound 447 = .ok (.istore 11, 2) := by decide +kernel
theorem dL_sound_449 : decode cL_sound 449 = .ok (.iconst 0, 1) := by decide +kernel
theorem dL_sound_450 : decode cL_sound 450 = .ok (.istore 12, 2) := by decide +kernel
theorem dL_sound_452 : decode cL_sound 452 = .ok (.iload 12, 2) := by decide +kernel
theorem dL_sound_454 : decode cL_sound 454 = .ok (.aload_n 0, 1) := by decide +kernel
theorem dL_sound_455 : decode cL_sound 455 = .ok (.iconst 2, 1) := by decide +kernel
theorem dL_sound_456 : decode cL_sound 456 = .ok (.invokevirtual 9, 3) := by decide +kernel
theorem dL_sound_459 : decode cL_sound 459 = .ok (.if_icmp .ge 183, 3) := by decide +kernel
theorem dL_sound_462 : decode cL_sound 462 = .ok (.aload_n 0, 1) := by decide +kernel
theorem dL_sound_463 : decode cL_sound 463 = .ok (.iload 12, 2) := by decide +kernel
theorem dL_sound_465 : decode cL_sound 465 = .ok (.iconst 4, 1) := by decide +kernel
theorem dL_sound_466 : decode cL_sound 466 = .ok (.invokevirtual 35, 3) := by decide +kernel
theorem dL_sound_469 : decode cL_sound 469 = .ok (.ifCond .ne 7, 3) := by decide +kernel
theorem dL_sound_472 : decode cL_sound 472 = .ok (.iconst 1, 1) := by decide +kernel
theorem dL_sound_473 : decode cL_sound 473 = .ok (.goto 4, 3) := by decide +kernel
theorem dL_sound_476 : decode cL_sound 476 = .ok (.iconst 0, 1) := by decide +kernel
theorem dL_sound_477 : decode cL_sound 477 = .ok (.istore 13, 2) := by decide +kernel
theorem dL_sound_479 : decode cL_sound 479 = .ok (.iload 11, 2) := by decide +kernel
theorem dL_sound_481 : decode cL_sound 481 = .ok (.iload 13, 2) := by decide +kernel
theorem dL_sound_483 : decode cL_sound 483 = .ok (.ifCond .eq 7, 3) := by decide +kernel
theorem dL_sound_486 : decode cL_sound 486 = .ok (.iconst 1, 1) := by decide +kernel
theorem dL_sound_487 : decode cL_sound 487 = .ok (.goto 4, 3) := by decide +kernel
theorem dL_sound_490 : decode cL_sound 490 = .ok (.iconst 0, 1) := by decide +kernel
theorem dL_sound_491 : decode cL_sound 491 = .ok (.iadd, 1) := by decide +kernel
theorem dL_sound_492 : decode cL_sound 492 = .ok (.istore 11, 2) := by decide +kernel
theorem dL_sound_494 : decode cL_sound 494 = .ok (.iload 13, 2) := by decide +kernel
theorem dL_sound_496 : decode cL_sound 496 = .ok (.iload 6, 2) := by decide +kernel
theorem dL_sound_498 : decode cL_sound 498 = .ok (.iload 12, 2) := by decide +kernel
theorem dL_sound_500 : decode cL_sound 500 = .ok (.ishr, 1) := by decide +kernel
theorem dL_sound_501 : decode cL_sound 501 = .ok (.iconst 1, 1) := by decide +kernel
theorem dL_sound_502 : decode cL_sound 502 = .ok (.iand, 1) := by decide +kernel
theorem dL_sound_503 : decode cL_sound 503 = .ok (.iconst 1, 1) := by decide +kernel
theorem dL_sound_504 : decode cL_sound 504 = .ok (.if_icmp .ne 7, 3) := by decide +kernel
theorem dL_sound_507 : decode cL_sound 507 = .ok (.iconst 1, 1) := by decide +kernel
theorem dL_sound_508 : decode cL_sound 508 = .ok (.goto 4, 3) := by decide +kernel
theorem dL_sound_511 : decode cL_sound 511 = .ok (.iconst 0, 1) := by decide +kernel
theorem dL_sound_512 : decode cL_sound 512 = .ok (.if_icmp .ne 122, 3) := by decide +kernel
theorem dL_sound_515 : decode cL_sound 515 = .ok (.aload_n 0, 1) := by decide +kernel
theorem dL_sound_516 : decode cL_sound 516 = .ok (.iload 12, 2) := by decide +kernel
theorem dL_sound_518 : decode cL_sound 518 = .ok (.iconst 1, 1) := by decide +kernel
theorem dL_sound_519 : decode cL_sound 519 = .ok (.invokevirtual 35, 3) := by decide +kernel
theorem dL_sound_522 : decode cL_sound 522 = .ok (.ifCond .lt 112, 3) := by decide +kernel
theorem dL_sound_525 : decode cL_sound 525 = .ok (.aload_n 0, 1) := by decide +kernel
theorem dL_sound_526 : decode cL_sound 526 = .ok (.iload 12, 2) := by decide +kernel
theorem dL_sound_528 : decode cL_sound 528 = .ok (.iconst 1, 1) := by decide +kernel
theorem dL_sound_529 : decode cL_sound 529 = .ok (.invokevirtual 35, 3) := by decide +kernel
theorem dL_sound_532 : decode cL_sound 532 = .ok (.aload_n 0, 1) := by decide +kernel
theorem dL_sound_533 : decode cL_sound 533 = .ok (.aload_n 0, 1) := by decide +kernel
theorem dL_sound_534 : decode cL_sound 534 = .ok (.iload 12, 2) := by decide +kernel
theorem dL_sound_536 : decode cL_sound 536 = .ok (.iconst 0, 1) := by decide +kernel
theorem dL_sound_537 : decode cL_sound 537 = .ok (.invokevirtual 35, 3) := by decide +kernel
theorem dL_sound_540 : decode cL_sound 540 = .ok (.iconst 1, 1) := by decide +kernel
theorem dL_sound_541 : decode cL_sound 541 = .ok (.invokevirtual 21, 3) := by decide +kernel
theorem dL_sound_544 : decode cL_sound 544 = .ok (.if_icmp .ge 90, 3) := by decide +kernel
theorem dL_sound_547 : decode cL_sound 547 = .ok (.iload 13, 2) := by decide +kernel
theorem dL_sound_549 : decode cL_sound 549 = .ok (.ifCond .eq 22, 3) := by decide +kernel
theorem dL_sound_552 : decode cL_sound 552 = .ok (.aload_n 0, 1) := by decide +kernel
theorem dL_sound_553 : decode cL_sound 553 = .ok (.aload_n 0, 1) := by decide +kernel
theorem dL_sound_554 : decode cL_sound 554 = .ok (.iload 12, 2) := by decide +kernel
theorem dL_sound_556 : decode cL_sound 556 = .ok (.iconst 0, 1) := by decide +kernel
theorem dL_sound_557 : decode cL_sound 557 = .ok (.invokevirtual 35, 3) := by decide +kernel
theorem dL_sound_560 : decode cL_sound 560 = .ok (.invokevirtual 29, 3) := by decide +kernel
theorem dL_sound_563 : decode cL_sound 563 = .ok (.iload 12, 2) := by decide +kernel
theorem dL_sound_565 : decode cL_sound 565 = .ok (.ishr, 1) := by decide +kernel
theorem dL_sound_566 : decode cL_sound 566 = .ok (.iconst 1, 1) := by decide +kernel
theorem dL_sound_567 : decode cL_sound 567 = .ok (.iand, 1) := by decide +kernel
theorem dL_sound_568 : decode cL_sound 568 = .ok (.ifCond .eq 66, 3) := by decide +kernel
theorem dL_sound_571 : decode cL_sound 571 = .ok (.iload 13, 2) := by decide +kernel
theorem dL_sound_573 : decode cL_sound 573 = .ok (.ifCond .eq 21, 3) := by decide +kernel
theorem dL_sound_576 : decode cL_sound 576 = .ok (.aload_n 0, 1) := by decide +kernel
theorem dL_sound_577 : decode cL_sound 577 = .ok (.iload 12, 2) := by decide +kernel
theorem dL_sound_579 : decode cL_sound 579 = .ok (.iconst 3, 1) := by decide +kernel
theorem dL_sound_580 : decode cL_sound 580 = .ok (.invokevirtual 35, 3) := by decide +kernel
theorem dL_sound_583 : decode cL_sound 583 = .ok (.aload_n 0, 1) := by decide +kernel
theorem dL_sound_584 : decode cL_sound 584 = .ok (.iload 12, 2) := by decide +kernel
theorem dL_sound_586 : decode cL_sound 586 = .ok (.iconst 2, 1) := by decide +kernel
theorem dL_sound_587 : decode cL_sound 587 = .ok (.invokevirtual 35, 3) := by decide +kernel
theorem dL_sound_590 : decode cL_sound 590 = .ok (.ineg, 1) := by decide +kernel
theorem dL_sound_591 : decode cL_sound 591 = .ok (.if_icmp .lt 43, 3) := by decide +kernel
theorem dL_sound_594 : decode cL_sound 594 = .ok (.aload_n 0, 1) := by decide +kernel
theorem dL_sound_595 : decode cL_sound 595 = .ok (.iload 12, 2) := by decide +kernel
theorem dL_sound_597 : decode cL_sound 597 = .ok (.iconst 4, 1) := by decide +kernel
theorem dL_sound_598 : decode cL_sound 598 = .ok (.invokevirtual 35, 3) := by decide +kernel
theorem dL_sound_601 : decode cL_sound 601 = .ok (.iconst 1, 1) := by decide +kernel
theorem dL_sound_602 : decode cL_sound 602 = .ok (.if_icmp .ne 21, 3) := by decide +kernel
theorem dL_sound_605 : decode cL_sound 605 = .ok (.aload_n 0, 1) := by decide +kernel
theorem dL_sound_606 : decode cL_sound 606 = .ok (.iload 12, 2) := by decide +kernel
theorem dL_sound_608 : decode cL_sound 608 = .ok (.iconst 3, 1) := by decide +kernel
theorem dL_sound_609 : decode cL_sound 609 = .ok (.invokevirtual 35, 3) := by decide +kernel
theorem dL_sound_612 : decode cL_sound 612 = .ok (.aload_n 0, 1) := by decide +kernel
theorem dL_sound_613 : decode cL_sound 613 = .ok (.iload 12, 2) := by decide +kernel
theorem dL_sound_615 : decode cL_sound 615 = .ok (.iconst 2, 1) := by decide +kernel
theorem dL_sound_616 : decode cL_sound 616 = .ok (.invokevirtual 35, 3) := by decide +kernel
theorem dL_sound_619 : decode cL_sound 619 = .ok (.ineg, 1) := by decide +kernel
theorem dL_sound_620 : decode cL_sound 620 = .ok (.if_icmp .ge 14, 3) := by decide +kernel
theorem dL_sound_623 : decode cL_sound 623 = .ok (.aload_n 0, 1) := by decide +kernel
theorem dL_sound_624 : decode cL_sound 624 = .ok (.iload 12, 2) := by decide +kernel
theorem dL_sound_626 : decode cL_sound 626 = .ok (.iconst 5, 1) := by decide +kernel
theorem dL_sound_627 : decode cL_sound 627 = .ok (.invokevirtual 35, 3) := by decide +kernel
theorem dL_sound_630 : decode cL_sound 630 = .ok (.iload_n 2, 1) := by decide +kernel
theorem dL_sound_631 : decode cL_sound 631 = .ok (.if_icmp .le 5, 3) := by decide +kernel
theorem dL_sound_634 : decode cL_sound 634 = .ok (.iconst 0, 1) := by decide +kernel
theorem dL_sound_635 : decode cL_sound 635 = .ok (.ireturn, 1) := by decide +kernel
theorem dL_sound_636 : decode cL_sound 636 = .ok (.iinc 12 1, 3) := by decide +kernel
theorem dL_sound_639 : decode cL_sound 639 = .ok (.goto (-187), 3) := by decide +kernel
theorem dL_sound_642 : decode cL_sound 642 = .ok (.aload_n 0, 1) := by decide +kernel
theorem dL_sound_643 : decode cL_sound 643 = .ok (.iconst 4, 1) := by decide +kernel
theorem dL_sound_644 : decode cL_sound 644 = .ok (.invokevirtual 38, 3) := by decide +kernel
theorem dL_sound_647 : decode cL_sound 647 = .ok (.lload_n 3, 1) := by decide +kernel
theorem dL_sound_648 : decode cL_sound 648 = .ok (.lcmp, 1) := by decide +kernel
theorem dL_sound_649 : decode cL_sound 649 = .ok (.ifCond .ne 139, 3) := by decide +kernel
theorem dL_sound_652 : decode cL_sound 652 = .ok (.aload_n 0, 1) := by decide +kernel
theorem dL_sound_653 : decode cL_sound 653 = .ok (.iconst 5, 1) := by decide +kernel
theorem dL_sound_654 : decode cL_sound 654 = .ok (.invokevirtual 38, 3) := by decide +kernel
theorem dL_sound_657 : decode cL_sound 657 = .ok (.lload 9, 2) := by decide +kernel
theorem dL_sound_659 : decode cL_sound 659 = .ok (.lcmp, 1) := by decide +kernel
theorem dL_sound_660 : decode cL_sound 660 = .ok (.ifCond .ne 128, 3) := by decide +kernel
theorem dL_sound_663 : decode cL_sound 663 = .ok (.lload_n 3, 1) := by decide +kernel
theorem dL_sound_664 : decode cL_sound 664 = .ok (.lload 9, 2) := by decide +kernel
theorem dL_sound_666 : decode cL_sound 666 = .ok (.lcmp, 1) := by decide +kernel
theorem dL_sound_667 : decode cL_sound 667 = .ok (.ifCond .ne 121, 3) := by decide +kernel
theorem dL_sound_670 : decode cL_sound 670 = .ok (.lload_n 3, 1) := by decide +kernel
theorem dL_sound_671 : decode cL_sound 671 = .ok (.aload_n 0, 1) := by decide +kernel
theorem dL_sound_672 : decode cL_sound 672 = .ok (.iconst 0, 1) := by decide +kernel
theorem dL_sound_673 : decode cL_sound 673 = .ok (.invokevirtual 38, 3) := by decide +kernel
theorem dL_sound_676 : decode cL_sound 676 = .ok (.aload_n 0, 1) := by decide +kernel
theorem dL_sound_677 : decode cL_sound 677 = .ok (.iconst 1, 1) := by decide +kernel
theorem dL_sound_678 : decode cL_sound 678 = .ok (.invokevirtual 38, 3) := by decide +kernel
theorem dL_sound_681 : decode cL_sound 681 = .ok (.ladd, 1) := by decide +kernel
theorem dL_sound_682 : decode cL_sound 682 = .ok (.aload_n 0, 1) := by decide +kernel
theorem dL_sound_683 : decode cL_sound 683 = .ok (.iconst 2, 1) := by decide +kernel
theorem dL_sound_684 : decode cL_sound 684 = .ok (.invokevirtual 38, 3) := by decide +kernel
theorem dL_sound_687 : decode cL_sound 687 = .ok (.lsub, 1) := by decide +kernel
theorem dL_sound_688 : decode cL_sound 688 = .ok (.aload_n 0, 1) := by decide +kernel
theorem dL_sound_689 : decode cL_sound 689 = .ok (.iconst 3, 1) := by decide +kernel
theorem dL_sound_690 : decode cL_sound 690 = .ok (.invokevirtual 38, 3) := by decide +kernel
theorem dL_sound_693 : decode cL_sound 693 = .ok (.lsub, 1) := by decide +kernel
theorem dL_sound_694 : decode cL_sound 694 = .ok (.lcmp, 1) := by decide +kernel
theorem dL_sound_695 : decode cL_sound 695 = .ok (.ifCond .ne 93, 3) := by decide +kernel
theorem dL_sound_698 : decode cL_sound 698 = .ok (.aload_n 0, 1) := by decide +kernel
theorem dL_sound_699 : decode cL_sound 699 = .ok (.iconst 3, 1) := by decide +kernel
theorem dL_sound_700 : decode cL_sound 700 = .ok (.invokevirtual 9, 3) := by decide +kernel
theorem dL_sound_703 : decode cL_sound 703 = .ok (.iload 11, 2) := by decide +kernel
theorem dL_sound_705 : decode cL_sound 705 = .ok (.if_icmp .ne 83, 3) := by decide +kernel
theorem dL_sound_708 : decode cL_sound 708 = .ok (.aload_n 0, 1) := by decide +kernel
theorem dL_sound_709 : decode cL_sound 709 = .ok (.iconst 4, 1) := by decide +kernel
theorem dL_sound_710 : decode cL_sound 710 = .ok (.invokevirtual 9, 3) := by decide +kernel
theorem dL_sound_713 : decode cL_sound 713 = .ok (.iload 5, 2) := by decide +kernel
theorem dL_sound_715 : decode cL_sound 715 = .ok (.if_icmp .ne 73, 3) := by decide +kernel
theorem dL_sound_718 : decode cL_sound 718 = .ok (.aload_n 0, 1) := by decide +kernel
theorem dL_sound_719 : decode cL_sound 719 = .ok (.iconst 5, 1) := by decide +kernel
theorem dL_sound_720 : decode cL_sound 720 = .ok (.invokevirtual 9, 3) := by decide +kernel
theorem dL_sound_723 : decode cL_sound 723 = .ok (.iload 8, 2) := by decide +kernel
theorem dL_sound_725 : decode cL_sound 725 = .ok (.if_icmp .ne 63, 3) := by decide +kernel
theorem dL_sound_728 : decode cL_sound 728 = .ok (.aload_n 0, 1) := by decide +kernel
theorem dL_sound_729 : decode cL_sound 729 = .ok (.invokevirtual 42, 3) := by decide +kernel
theorem dL_sound_732 : decode cL_sound 732 = .ok (.iload 7, 2) := by decide +kernel
theorem dL_sound_734 : decode cL_sound 734 = .ok (.if_icmp .ne 54, 3) := by decide +kernel
theorem dL_sound_737 : decode cL_sound 737 = .ok (.aload_n 0, 1) := by decide +kernel
theorem dL_sound_738 : decode cL_sound 738 = .ok (.iconst 0, 1) := by decide +kernel
theorem dL_sound_739 : decode cL_sound 739 = .ok (.invokevirtual 15, 3) := by decide +kernel
theorem dL_sound_742 : decode cL_sound 742 = .ok (.ifCond .lt 46, 3) := by decide +kernel
theorem dL_sound_745 : decode cL_sound 745 = .ok (.aload_n 0, 1) := by decide +kernel
theorem dL_sound_746 : decode cL_sound 746 = .ok (.iconst 1, 1) := by decide +kernel
theorem dL_sound_747 : decode cL_sound 747 = .ok (.invokevirtual 15, 3) := by decide +kernel
theorem dL_sound_750 : decode cL_sound 750 = .ok (.ifCond .lt 38, 3) := by decide +kernel
theorem dL_sound_753 : decode cL_sound 753 = .ok (.aload_n 0, 1) := by decide +kernel
theorem dL_sound_754 : decode cL_sound 754 = .ok (.iconst 3, 1) := by decide +kernel
theorem dL_sound_755 : decode cL_sound 755 = .ok (.invokevirtual 15, 3) := by decide +kernel
theorem dL_sound_758 : decode cL_sound 758 = .ok (.ldc 20, 2) := by decide +kernel
theorem dL_sound_760 : decode cL_sound 760 = .ok (.if_icmp .ne 7, 3) := by decide +kernel
theorem dL_sound_763 : decode cL_sound 763 = .ok (.iconst 1, 1) := by decide +kernel
theorem dL_sound_764 : decode cL_sound 764 = .ok (.goto 4, 3) := by decide +kernel
theorem dL_sound_767 : decode cL_sound 767 = .ok (.iconst 0, 1) := by decide +kernel
theorem dL_sound_768 : decode cL_sound 768 = .ok (.aload_n 0, 1) := by decide +kernel
theorem dL_sound_769 : decode cL_sound 769 = .ok (.iconst 2, 1) := by decide +kernel
theorem dL_sound_770 : decode cL_sound 770 = .ok (.invokevirtual 15, 3) := by decide +kernel
theorem dL_sound_773 : decode cL_sound 773 = .ok (.ifCond .ne 7, 3) := by decide +kernel
theorem dL_sound_776 : decode cL_sound 776 = .ok (.iconst 1, 1) := by decide +kernel
theorem dL_sound_777 : decode cL_sound 777 = .ok (.goto 4, 3) := by decide +kernel
theorem dL_sound_780 : decode cL_sound 780 = .ok (.iconst 0, 1) := by decide +kernel
theorem dL_sound_781 : decode cL_sound 781 = .ok (.if_icmp .ne 7, 3) := by decide +kernel
theorem dL_sound_784 : decode cL_sound 784 = .ok (.iconst 1, 1) := by decide +kernel
theorem dL_sound_785 : decode cL_sound 785 = .ok (.goto 4, 3) := by decide +kernel
theorem dL_sound_788 : decode cL_sound 788 = .ok (.iconst 0, 1) := by decide +kernel
theorem dL_sound_789 : decode cL_sound 789 = .ok (.ireturn, 1) := by decide +kernel
end
section
theorem dL_thoughts_0 : decode cL_thoughts 0 = .ok (.iconst 1, 1) := by decide +kernel
theorem dL_thoughts_1 : decode cL_thoughts 1 = .ok (.iload_n 1, 1) := by decide +kernel
theorem dL_thoughts_2 : decode cL_thoughts 2 = .ok (.bipush 40, 2) := by decide +kernel
theorem dL_thoughts_4 : decode cL_thoughts 4 = .ok (.invokestatic 51, 3) := by decide +kernel
theorem dL_thoughts_7 : decode cL_thoughts 7 = .ok (.iadd, 1) := by decide +kernel
theorem dL_thoughts_8 : decode cL_thoughts 8 = .ok (.istore_n 2, 1) := by decide +kernel
theorem dL_thoughts_9 : decode cL_thoughts 9 = .ok (.aload_n 0, 1) := by decide +kernel
theorem dL_thoughts_10 : decode cL_thoughts 10 = .ok (.iload_n 2, 1) := by decide +kernel
theorem dL_thoughts_11 : decode cL_thoughts 11 = .ok (.iconst 1, 1) := by decide +kernel
theorem dL_thoughts_12 : decode cL_thoughts 12 = .ok (.invokevirtual 54, 3) := by decide +kernel
theorem dL_thoughts_15 : decode cL_thoughts 15 = .ok (.istore_n 3, 1) := by decide +kernel
theorem dL_thoughts_16 : decode cL_thoughts 16 = .ok (.aload_n 0, 1) := by decide +kernel
theorem dL_thoughts_17 : decode cL_thoughts 17 = .ok (.iload_n 2, 1) := by decide +kernel
theorem dL_thoughts_18 : decode cL_thoughts 18 = .ok (.iconst 0, 1) := by decide +kernel
theorem dL_thoughts_19 : decode cL_thoughts 19 = .ok (.invokevirtual 54, 3) := by decide +kernel
theorem dL_thoughts_22 : decode cL_thoughts 22 = .ok (.istore 4, 2) := by decide +kernel
theorem dL_thoughts_24 : decode cL_thoughts 24 = .ok (.aload_n 0, 1) := by decide +kernel
theorem dL_thoughts_25 : decode cL_thoughts 25 = .ok (.iconst 0, 1) := by decide +kernel
theorem dL_thoughts_26 : decode cL_thoughts 26 = .ok (.invokevirtual 57, 3) := by decide +kernel
theorem dL_thoughts_29 : decode cL_thoughts 29 = .ok (.istore 5, 2) := by decide +kernel
theorem dL_thoughts_31 : decode cL_thoughts 31 = .ok (.aload_n 0, 1) := by decide +kernel
theorem dL_thoughts_32 : decode cL_thoughts 32 = .ok (.iconst 1, 1) := by decide +kernel
theorem dL_thoughts_33 : decode cL_thoughts 33 = .ok (.invokevirtual 9, 3) := by decide +kernel
theorem dL_thoughts_36 : decode cL_thoughts 36 = .ok (.istore 6, 2) := by decide +kernel
theorem dL_thoughts_38 : decode cL_thoughts 38 = .ok (.aload_n 0, 1) := by decide +kernel
theorem dL_thoughts_39 : decode cL_thoughts 39 = .ok (.iconst 4, 1) := by decide +kernel
theorem dL_thoughts_40 : decode cL_thoughts 40 = .ok (.invokevirtual 38, 3) := by decide +kernel
theorem dL_thoughts_43 : decode cL_thoughts 43 = .ok (.lstore 7, 2) := by decide +kernel
theorem dL_thoughts_45 : decode cL_thoughts 45 = .ok (.iload 6, 2) := by decide +kernel
theorem dL_thoughts_47 : decode cL_thoughts 47 = .ok (.iload_n 2, 1) := by decide +kernel
theorem dL_thoughts_48 : decode cL_thoughts 48 = .ok (.iadd, 1) := by decide +kernel
theorem dL_thoughts_49 : decode cL_thoughts 49 = .ok (.sipush 500, 3) := by decide +kernel
theorem dL_thoughts_52 : decode cL_thoughts 52 = .ok (.if_icmp .le 30, 3) := by decide +kernel
theorem dL_thoughts_55 : decode cL_thoughts 55 = .ok (.aload_n 0, 1) := by decide +kernel
theorem dL_thoughts_56 : decode cL_thoughts 56 = .ok (.iload_n 2, 1) := by decide +kernel
theorem dL_thoughts_57 : decode cL_thoughts 57 = .ok (.invokevirtual 46, 3) := by decide +kernel
theorem dL_thoughts_60 : decode cL_thoughts 60 = .ok (.ldc 60, 2) := by decide +kernel
theorem dL_thoughts_62 : decode cL_thoughts 62 = .ok (.if_icmp .ne 18, 3) := by decide +kernel
theorem dL_thoughts_65 : decode cL_thoughts 65 = .ok (.aload_n 0, 1) := by decide +kernel
theorem dL_thoughts_66 : decode cL_thoughts 66 = .ok (.iconst 4, 1) := by decide +kernel
theorem dL_thoughts_67 : decode cL_thoughts 67 = .ok (.invokevirtual 38, 3) := by decide +kernel
theorem dL_thoughts_70 : decode cL_thoughts 70 = .ok (.lload 7, 2) := by decide +kernel
theorem dL_thoughts_72 : decode cL_thoughts 72 = .ok (.lcmp, 1) := by decide +kernel
theorem dL_thoughts_73 : decode cL_thoughts 73 = .ok (.ifCond .ne 7, 3) := by decide +kernel
theorem dL_thoughts_76 : decode cL_thoughts 76 = .ok (.iconst 1, 1) := by decide +kernel
theorem dL_thoughts_77 : decode cL_thoughts 77 = .ok (.goto 4, 3) := by decide +kernel
theorem dL_thoughts_80 : decode cL_thoughts 80 = .ok (.iconst 0, 1) := by decide +kernel
theorem dL_thoughts_81 : decode cL_thoughts 81 = .ok (.ireturn, 1) := by decide +kernel
theorem dL_thoughts_82 : decode cL_thoughts 82 = .ok (.aload_n 0, 1) := by decide +kernel
theorem dL_thoughts_83 : decode cL_thoughts 83 = .ok (.iload_n 2, 1) := by decide +kernel
theorem dL_thoughts_84 : decode cL_thoughts 84 = .ok (.invokevirtual 46, 3) := by decide +kernel
theorem dL_thoughts_87 : decode cL_thoughts 87 = .ok (.istore 9, 2) := by decide +kernel
theorem dL_thoughts_89 : decode cL_thoughts 89 = .ok (.iload 9, 2) := by decide +kernel
theorem dL_thoughts_91 : decode cL_thoughts 91 = .ok (.iload_n 3, 1) := by decide +kernel
theorem dL_thoughts_92 : decode cL_thoughts 92 = .ok (.if_icmp .ne 73, 3) := by decide +kernel
theorem dL_thoughts_95 : decode cL_thoughts 95 = .ok (.aload_n 0, 1) := by decide +kernel
theorem dL_thoughts_96 : decode cL_thoughts 96 = .ok (.iconst 4, 1) := by decide +kernel
theorem dL_thoughts_97 : decode cL_thoughts 97 = .ok (.invokevirtual 38, 3) := by decide +kernel
theorem dL_thoughts_100 : decode cL_thoughts 100 = .ok (.iload 4, 2) := by decide +kernel
theorem dL_thoughts_102 : decode cL_thoughts 102 = .ok (.i2l, 1) := by decide +kernel
theorem dL_thoughts_103 : decode cL_thoughts 103 = .ok (.lcmp, 1) := by decide +kernel
theorem dL_thoughts_104 : decode cL_thoughts 104 = .ok (.ifCond .ne 61, 3) := by decide +kernel
theorem dL_thoughts_107 : decode cL_thoughts 107 = .ok (.iload 5, 2) := by decide +kernel
theorem dL_thoughts_109 : decode cL_thoughts 109 = .ok (.ldc 20, 2) := by decide +kernel
theorem dL_thoughts_111 : decode cL_thoughts 111 = .ok (.if_icmp .eq 13, 3) := by decide +kernel
theorem dL_thoughts_114 : decode cL_thoughts 114 = .ok (.iload 5, 2) := by decide +kernel
theorem dL_thoughts_116 : decode cL_thoughts 116 = .ok (.iload_n 2, 1) := by decide +kernel
theorem dL_thoughts_117 : decode cL_thoughts 117 = .ok (.if_icmp .gt 7, 3) := by decide +kernel
theorem dL_thoughts_120 : decode cL_thoughts 120 = .ok (.iconst 1, 1) := by decide +kernel
theorem dL_thoughts_121 : decode cL_thoughts 121 = .ok (.goto 4, 3) := by decide +kernel
theorem dL_thoughts_124 : decode cL_thoughts 124 = .ok (.iconst 0, 1) := by decide +kernel
theorem dL_thoughts_125 : decode cL_thoughts 125 = .ok (.iload_n 3, 1) := by decide +kernel
theorem dL_thoughts_126 : decode cL_thoughts 126 = .ok (.ifCond .le 7, 3) := by decide +kernel
theorem dL_thoughts_129 : decode cL_thoughts 129 = .ok (.iconst 1, 1) := by decide +kernel
theorem dL_thoughts_130 : decode cL_thoughts 130 = .ok (.goto 4, 3) := by decide +kernel
theorem dL_thoughts_133 : decode cL_thoughts 133 = .ok (.iconst 0, 1) := by decide +kernel
theorem dL_thoughts_134 : decode cL_thoughts 134 = .ok (.if_icmp .ne 31, 3) := by decide +kernel
theorem dL_thoughts_137 : decode cL_thoughts 137 = .ok (.aload_n 0, 1) := by decide +kernel
theorem dL_thoughts_138 : decode cL_thoughts 138 = .ok (.invokevirtual 61, 3) := by decide +kernel
theorem dL_thoughts_141 : decode cL_thoughts 141 = .ok (.ifCond .lt 24, 3) := by decide +kernel
theorem dL_thoughts_144 : decode cL_thoughts 144 = .ok (.aload_n 0, 1) := by decide +kernel
theorem dL_thoughts_145 : decode cL_thoughts 145 = .ok (.iconst 1, 1) := by decide +kernel
theorem dL_thoughts_146 : decode cL_thoughts 146 = .ok (.invokevirtual 9, 3) := by decide +kernel
theorem dL_thoughts_149 : decode cL_thoughts 149 = .ok (.iload 6, 2) := by decide +kernel
theorem dL_thoughts_151 : decode cL_thoughts 151 = .ok (.if_icmp .ne 14, 3) := by decide +kernel
theorem dL_thoughts_154 : decode cL_thoughts 154 = .ok (.aload_n 0, 1) := by decide +kernel
theorem dL_thoughts_155 : decode cL_thoughts 155 = .ok (.iconst 4, 1) := by decide +kernel
theorem dL_thoughts_156 : decode cL_thoughts 156 = .ok (.invokevirtual 38, 3) := by decide +kernel
theorem dL_thoughts_159 : decode cL_thoughts 159 = .ok (.lload 7, 2) := by decide +kernel
theorem dL_thoughts_161 : decode cL_thoughts 161 = .ok (.lcmp, 1) := by decide +kernel
theorem dL_thoughts_162 : decode cL_thoughts 162 = .ok (.ifCond .eq 5, 3) := by decide +kernel
theorem dL_thoughts_165 : decode cL_thoughts 165 = .ok (.iconst 0, 1) := by decide +kernel
theorem dL_thoughts_166 : decode cL_thoughts 166 = .ok (.ireturn, 1) := by decide +kernel
theorem dL_thoughts_167 : decode cL_thoughts 167 = .ok (.aload_n 0, 1) := by decide +kernel
theorem dL_thoughts_168 : decode cL_thoughts 168 = .ok (.invokevirtual 64, 3) := by decide +kernel
theorem dL_thoughts_171 : decode cL_thoughts 171 = .ok (.istore 10, 2) := by decide +kernel
theorem dL_thoughts_173 : decode cL_thoughts 173 = .ok (.aload_n 0, 1) := by decide +kernel
theorem dL_thoughts_174 : decode cL_thoughts 174 = .ok (.bipush 8, 2) := by decide +kernel
theorem dL_thoughts_176 : decode cL_thoughts 176 = .ok (.invokevirtual 9, 3) := by decide +kernel
theorem dL_thoughts_179 : decode cL_thoughts 179 = .ok (.istore 11, 2) := by decide +kernel
theorem dL_thoughts_181 : decode cL_thoughts 181 = .ok (.iload 10, 2) := by decide +kernel
theorem dL_thoughts_183 : decode cL_thoughts 183 = .ok (.ldc 20, 2) := by decide +kernel
theorem dL_thoughts_185 : decode cL_thoughts 185 = .ok (.if_icmp .ne 14, 3) := by decide +kernel
theorem dL_thoughts_188 : decode cL_thoughts 188 = .ok (.iload 11, 2) := by decide +kernel
theorem dL_thoughts_190 : decode cL_thoughts 190 = .ok (.ifCond .lt 7, 3) := by decide +kernel
theorem dL_thoughts_193 : decode cL_thoughts 193 = .ok (.iconst 1, 1) := by decide +kernel
theorem dL_thoughts_194 : decode cL_thoughts 194 = .ok (.goto 4, 3) := by decide +kernel
theorem dL_thoughts_197 : decode cL_thoughts 197 = .ok (.iconst 0, 1) := by decide +kernel
theorem dL_thoughts_198 : decode cL_thoughts 198 = .ok (.ireturn, 1) := by decide +kernel
theorem dL_thoughts_199 : decode cL_thoughts 199 = .ok (.lconst 0, 1) := by decide +kernel
theorem dL_thoughts_200 : decode cL_thoughts 200 = .ok (.lstore 12, 2) := by decide +kernel
theorem dL_thoughts_202 : decode cL_thoughts 202 = .ok (.aload_n 0, 1) := by decide +kernel
theorem dL_thoughts_203 : decode cL_thoughts 203 = .ok (.iconst 2, 1) := by decide +kernel
theorem dL_thoughts_204 : decode cL_thoughts 204 = .ok (.iload 10, 2) := by decide +kernel
theorem dL_thoughts_206 : decode cL_thoughts 206 = .ok (.invokevirtual 67, 3) := by decide +kernel
theorem dL_thoughts_209 : decode cL_thoughts 209 = .ok (.iload 11, 2) := by decide +kernel
theorem dL_thoughts_211 : decode cL_thoughts 211 = .ok (.if_icmp .eq 5, 3) := by decide +kernel
theorem dL_thoughts_214 : decode cL_thoughts 214 = .ok (.iconst 0, 1) := by decide +kernel
theorem dL_thoughts_215 : decode cL_thoughts 215 = .ok (.ireturn, 1) := by decide +kernel
theorem dL_thoughts_216 : decode cL_thoughts 216 = .ok (.iconst 0, 1) := by decide +kernel
theorem dL_thoughts_217 : decode cL_thoughts 217 = .ok (.istore 14, 2) := by decide +kernel
theorem dL_thoughts_219 : decode cL_thoughts 219 = .ok (.iload 14, 2) := by decide +kernel
theorem dL_thoughts_221 : decode cL_thoughts 221 = .ok (.aload_n 0, 1) := by decide +kernel
theorem dL_thoughts_222 : decode cL_thoughts 222 = .ok (.iconst 0, 1) := by decide +kernel
theorem dL_thoughts_223 : decode cL_thoughts 223 = .ok (.invokevirtual 9, 3) := by decide +kernel
theorem dL_thoughts_226 : decode cL_thoughts 226 = .ok (.if_icmp .ge 32, 3) := by decide +kernel
theorem dL_thoughts_229 : decode cL_thoughts 229 = .ok (.lload 12, 2) := by decide +kernel
theorem dL_thoughts_231 : decode cL_thoughts 231 = .ok (.aload_n 0, 1) := by decide +kernel
theorem dL_thoughts_232 : decode cL_thoughts 232 = .ok (.iload 14, 2) := by decide +kernel
theorem dL_thoughts_234 : decode cL_thoughts 234 = .ok (.bipush 7, 2) := by decide +kernel
theorem dL_thoughts_236 : decode cL_thoughts 236 = .ok (.invokevirtual 21, 3) := by decide +kernel
theorem dL_thoughts_239 : decode cL_thoughts 239 = .ok (.aload_n 0, 1) := by decide +kernel
theorem dL_thoughts_240 : decode cL_thoughts 240 = .ok (.iload 14, 2) := by decide +kernel
theorem dL_thoughts_242 : decode cL_thoughts 242 = .ok (.bipush 8, 2) := by decide +kernel
theorem dL_thoughts_244 : decode cL_thoughts 244 = .ok (.invokevirtual 21, 3) := by decide +kernel
theorem dL_thoughts_247 : decode cL_thoughts 247 = .ok (.isub, 1) := by decide +kernel
theorem dL_thoughts_248 : decode cL_thoughts 248 = .ok (.i2l, 1) := by decide +kernel
theorem dL_thoughts_249 : decode cL_thoughts 249 = .ok (.ladd, 1) := by decide +kernel
theorem dL_thoughts_250 : decode cL_thoughts 250 = .ok (.lstore 12, 2) := by decide +kernel
theorem dL_thoughts_252 : decode cL_thoughts 252 = .ok (.iinc 14 1, 3) := by decide +kernel
theorem dL_thoughts_255 : decode cL_thoughts 255 = .ok (.goto (-36), 3) := by decide +kernel
theorem dL_thoughts_258 : decode cL_thoughts 258 = .ok (.lload 12, 2) := by decide +kernel
theorem dL_thoughts_260 : decode cL_thoughts 260 = .ok (.lconst 0, 1) := by decide +kernel
theorem dL_thoughts_261 : decode cL_thoughts 261 = .ok (.lcmp, 1) := by decide +kernel
theorem dL_thoughts_262 : decode cL_thoughts 262 = .ok (.ifCond .lt 34, 3) := by decide +kernel
theorem dL_thoughts_265 : decode cL_thoughts 265 = .ok (.aload_n 0, 1) := by decide +kernel
theorem dL_thoughts_266 : decode cL_thoughts 266 = .ok (.invokevirtual 64, 3) := by decide +kernel
theorem dL_thoughts_269 : decode cL_thoughts 269 = .ok (.iload 10, 2) := by decide +kernel
theorem dL_thoughts_271 : decode cL_thoughts 271 = .ok (.if_icmp .ne 25, 3) := by decide +kernel
theorem dL_thoughts_274 : decode cL_thoughts 274 = .ok (.aload_n 0, 1) := by decide +kernel
theorem dL_thoughts_275 : decode cL_thoughts 275 = .ok (.invokevirtual 61, 3) := by decide +kernel
theorem dL_thoughts_278 : decode cL_thoughts 278 = .ok (.ifCond .lt 18, 3) := by decide +kernel
theorem dL_thoughts_281 : decode cL_thoughts 281 = .ok (.aload_n 0, 1) := by decide +kernel
theorem dL_thoughts_282 : decode cL_thoughts 282 = .ok (.bipush 8, 2) := by decide +kernel
theorem dL_thoughts_284 : decode cL_thoughts 284 = .ok (.invokevirtual 9, 3) := by decide +kernel
theorem dL_thoughts_287 : decode cL_thoughts 287 = .ok (.iload 11, 2) := by decide +kernel
theorem dL_thoughts_289 : decode cL_thoughts 289 = .ok (.if_icmp .ne 7, 3) := by decide +kernel
theorem dL_thoughts_292 : decode cL_thoughts 292 = .ok (.iconst 1, 1) := by decide +kernel
theorem dL_thoughts_293 : decode cL_thoughts 293 = .ok (.goto 4, 3) := by decide +kernel
theorem dL_thoughts_296 : decode cL_thoughts 296 = .ok (.iconst 0, 1) := by decide +kernel
theorem dL_thoughts_297 : decode cL_thoughts 297 = .ok (.ireturn, 1) := by decide +kernel
theorem dL_refuses_0 : decode cL_refuses 0 = .ok (.aload_n 0, 1) := by decide +kernel
theorem dL_refuses_1 : decode cL_refuses 1 = .ok (.bipush 13, 2) := by decide +kernel
theorem dL_refuses_3 : decode cL_refuses 3 = .ok (.invokevirtual 9, 3) := by decide +kernel
theorem dL_refuses_6 : decode cL_refuses 6 = .ok (.istore_n 1, 1) := by decide +kernel
theorem dL_refuses_7 : decode cL_refuses 7 = .ok (.aload_n 0, 1) := by decide +kernel
theorem dL_refuses_8 : decode cL_refuses 8 = .ok (.iconst 0, 1) := by decide +kernel
theorem dL_refuses_9 : decode cL_refuses 9 = .ok (.invokevirtual 9, 3) := by decide +kernel
theorem dL_refuses_12 : decode cL_refuses 12 = .ok (.istore_n 2, 1) := by decide +kernel
theorem dL_refuses_13 : decode cL_refuses 13 = .ok (.aload_n 0, 1) := by decide +kernel
theorem dL_refuses_14 : decode cL_refuses 14 = .ok (.iconst 2, 1) := by decide +kernel
theorem dL_refuses_15 : decode cL_refuses 15 = .ok (.invokevirtual 9, 3) := by decide +kernel
theorem dL_refuses_18 : decode cL_refuses 18 = .ok (.istore_n 3, 1) := by decide +kernel
theorem dL_refuses_19 : decode cL_refuses 19 = .ok (.aload_n 0, 1) := by decide +kernel
theorem dL_refuses_20 : decode cL_refuses 20 = .ok (.bipush 7, 2) := by decide +kernel
theorem dL_refuses_22 : decode cL_refuses 22 = .ok (.iconst 0, 1) := by decide +kernel
theorem dL_refuses_23 : decode cL_refuses 23 = .ok (.invokevirtual 67, 3) := by decide +kernel
theorem dL_refuses_26 : decode cL_refuses 26 = .ok (.ldc 70, 2) := by decide +kernel
theorem dL_refuses_28 : decode cL_refuses 28 = .ok (.if_icmp .ne 210, 3) := by decide +kernel
theorem dL_refuses_31 : decode cL_refuses 31 = .ok (.aload_n 0, 1) := by decide +kernel
theorem dL_refuses_32 : decode cL_refuses 32 = .ok (.iconst 0, 1) := by decide +kernel
theorem dL_refuses_33 : decode cL_refuses 33 = .ok (.sipush 5001, 3) := by decide +kernel
theorem dL_refuses_36 : decode cL_refuses 36 = .ok (.invokevirtual 67, 3) := by decide +kernel
theorem dL_refuses_39 : decode cL_refuses 39 = .ok (.ldc 70, 2) := by decide +kernel
theorem dL_refuses_41 : decode cL_refuses 41 = .ok (.if_icmp .ne 197, 3) := by decide +kernel
theorem dL_refuses_44 : decode cL_refuses 44 = .ok (.aload_n 0, 1) := by decide +kernel
theorem dL_refuses_45 : decode cL_refuses 45 = .ok (.iconst 1, 1) := by decide +kernel
theorem dL_refuses_46 : decode cL_refuses 46 = .ok (.sipush 501, 3) := by decide +kernel
theorem dL_refuses_49 : decode cL_refuses 49 = .ok (.invokevirtual 67, 3) := by decide +kernel
theorem dL_refuses_52 : decode cL_refuses 52 = .ok (.ldc 70, 2) := by decide +kernel
theorem dL_refuses_54 : decode cL_refuses 54 = .ok (.if_icmp .ne 184, 3) := by decide +kernel
theorem dL_refuses_57 : decode cL_refuses 57 = .ok (.aload_n 0, 1) := by decide +kernel
theorem dL_refuses_58 : decode cL_refuses 58 = .ok (.iconst 2, 1) := by decide +kernel
theorem dL_refuses_59 : decode cL_refuses 59 = .ok (.sipush 9001, 3) := by decide +kernel
theorem dL_refuses_62 : decode cL_refuses 62 = .ok (.invokevirtual 67, 3) := by decide +kernel
theorem dL_refuses_65 : decode cL_refuses 65 = .ok (.ldc 70, 2) := by decide +kernel
theorem dL_refuses_67 : decode cL_refuses 67 = .ok (.if_icmp .ne 171, 3) := by decide +kernel
theorem dL_refuses_70 : decode cL_refuses 70 = .ok (.aload_n 0, 1) := by decide +kernel
theorem dL_refuses_71 : decode cL_refuses 71 = .ok (.iconst 5, 1) := by decide +kernel
theorem dL_refuses_72 : decode cL_refuses 72 = .ok (.iconst 0, 1) := by decide +kernel
theorem dL_refuses_73 : decode cL_refuses 73 = .ok (.invokevirtual 67, 3) := by decide +kernel
theorem dL_refuses_76 : decode cL_refuses 76 = .ok (.ldc 70, 2) := by decide +kernel
theorem dL_refuses_78 : decode cL_refuses 78 = .ok (.if_icmp .ne 160, 3) := by decide +kernel
theorem dL_refuses_81 : decode cL_refuses 81 = .ok (.aload_n 0, 1) := by decide +kernel
theorem dL_refuses_82 : decode cL_refuses 82 = .ok (.bipush 6, 2) := by decide +kernel
theorem dL_refuses_84 : decode cL_refuses 84 = .ok (.iconst (-1), 1) := by decide +kernel
theorem dL_refuses_85 : decode cL_refuses 85 = .ok (.invokevirtual 67, 3) := by decide +kernel
theorem dL_refuses_88 : decode cL_refuses 88 = .ok (.ldc 70, 2) := by decide +kernel
theorem dL_refuses_90 : decode cL_refuses 90 = .ok (.if_icmp .ne 148, 3) := by decide +kernel
theorem dL_refuses_93 : decode cL_refuses 93 = .ok (.aload_n 0, 1) := by decide +kernel
theorem dL_refuses_94 : decode cL_refuses 94 = .ok (.sipush 5001, 3) := by decide +kernel
theorem dL_refuses_97 : decode cL_refuses 97 = .ok (.bipush 100, 2) := by decide +kernel
theorem dL_refuses_99 : decode cL_refuses 99 = .ok (.iconst 0, 1) := by decide +kernel
theorem dL_refuses_100 : decode cL_refuses 100 = .ok (.iconst 0, 1) := by decide +kernel
theorem dL_refuses_101 : decode cL_refuses 101 = .ok (.invokevirtual 71, 3) := by decide +kernel
theorem dL_refuses_104 : decode cL_refuses 104 = .ok (.ldc 70, 2) := by decide +kernel
theorem dL_refuses_106 : decode cL_refuses 106 = .ok (.if_icmp .ne 132, 3) := by decide +kernel
theorem dL_refuses_109 : decode cL_refuses 109 = .ok (.aload_n 0, 1) := by decide +kernel
theorem dL_refuses_110 : decode cL_refuses 110 = .ok (.iconst 0, 1) := by decide +kernel
theorem dL_refuses_111 : decode cL_refuses 111 = .ok (.bipush 99, 2) := by decide +kernel
theorem dL_refuses_113 : decode cL_refuses 113 = .ok (.iconst 0, 1) := by decide +kernel
theorem dL_refuses_114 : decode cL_refuses 114 = .ok (.iconst 0, 1) := by decide +kernel
theorem dL_refuses_115 : decode cL_refuses 115 = .ok (.invokevirtual 71, 3) := by decide +kernel
theorem dL_refuses_118 : decode cL_refuses 118 = .ok (.ldc 70, 2) := by decide +kernel
theorem dL_refuses_120 : decode cL_refuses 120 = .ok (.if_icmp .ne 118, 3) := by decide +kernel
theorem dL_refuses_123 : decode cL_refuses 123 = .ok (.aload_n 0, 1) := by decide +kernel
theorem dL_refuses_124 : decode cL_refuses 124 = .ok (.iconst 0, 1) := by decide +kernel
theorem dL_refuses_125 : decode cL_refuses 125 = .ok (.bipush 100, 2) := by decide +kernel
theorem dL_refuses_127 : decode cL_refuses 127 = .ok (.sipush 501, 3) := by decide +kernel
theorem dL_refuses_130 : decode cL_refuses 130 = .ok (.iconst 0, 1) := by decide +kernel
theorem dL_refuses_131 : decode cL_refuses 131 = .ok (.invokevirtual 71, 3) := by decide +kernel
theorem dL_refuses_134 : decode cL_refuses 134 = .ok (.ldc 70, 2) := by decide +kernel
theorem dL_refuses_136 : decode cL_refuses 136 = .ok (.if_icmp .ne 102, 3) := by decide +kernel
theorem dL_refuses_139 : decode cL_refuses 139 = .ok (.aload_n 0, 1) := by decide +kernel
theorem dL_refuses_140 : decode cL_refuses 140 = .ok (.iconst 0, 1) := by decide +kernel
theorem dL_refuses_141 : decode cL_refuses 141 = .ok (.bipush 100, 2) := by decide +kernel
theorem dL_refuses_143 : decode cL_refuses 143 = .ok (.iconst 0, 1) := by decide +kernel
theorem dL_refuses_144 : decode cL_refuses 144 = .ok (.ldc 75, 2) := by decide +kernel
theorem dL_refuses_146 : decode cL_refuses 146 = .ok (.invokevirtual 71, 3) := by decide +kernel
theorem dL_refuses_149 : decode cL_refuses 149 = .ok (.ldc 70, 2) := by decide +kernel
theorem dL_refuses_151 : decode cL_refuses 151 = .ok (.if_icmp .ne 87, 3) := by decide +kernel
theorem dL_refuses_154 : decode cL_refuses 154 = .ok (.aload_n 0, 1) := by decide +kernel
theorem dL_refuses_155 : decode cL_refuses 155 = .ok (.iload_n 2, 1) := by decide +kernel
theorem dL_refuses_156 : decode cL_refuses 156 = .ok (.iconst 0, 1) := by decide +kernel
theorem dL_refuses_157 : decode cL_refuses 157 = .ok (.invokevirtual 76, 3) := by decide +kernel
theorem dL_refuses_160 : decode cL_refuses 160 = .ok (.ldc 70, 2) := by decide +kernel
theorem dL_refuses_162 : decode cL_refuses 162 = .ok (.if_icmp .ne 76, 3) := by decide +kernel
theorem dL_refuses_165 : decode cL_refuses 165 = .ok (.aload_n 0, 1) := by decide +kernel
theorem dL_refuses_166 : decode cL_refuses 166 = .ok (.iload_n 2, 1) := by decide +kernel
theorem dL_refuses_167 : decode cL_refuses 167 = .ok (.iconst 0, 1) := by decide +kernel
theorem dL_refuses_168 : decode cL_refuses 168 = .ok (.invokevirtual 21, 3) := by decide +kernel
theorem dL_refuses_171 : decode cL_refuses 171 = .ok (.ldc 70, 2) := by decide +kernel
theorem dL_refuses_173 : decode cL_refuses 173 = .ok (.if_icmp .ne 65, 3) := by decide +kernel
theorem dL_refuses_176 : decode cL_refuses 176 = .ok (.aload_n 0, 1) := by decide +kernel
theorem dL_refuses_177 : decode cL_refuses 177 = .ok (.iload_n 2, 1) := by decide +kernel
theorem dL_refuses_178 : decode cL_refuses 178 = .ok (.iconst 0, 1) := by decide +kernel
theorem dL_refuses_179 : decode cL_refuses 179 = .ok (.iconst 0, 1) := by decide +kernel
theorem dL_refuses_180 : decode cL_refuses 180 = .ok (.invokevirtual 25, 3) := by decide +kernel
theorem dL_refuses_183 : decode cL_refuses 183 = .ok (.ldc 70, 2) := by decide +kernel
theorem dL_refuses_185 : decode cL_refuses 185 = .ok (.if_icmp .ne 53, 3) := by decide +kernel
theorem dL_refuses_188 : decode cL_refuses 188 = .ok (.aload_n 0, 1) := by decide +kernel
theorem dL_refuses_189 : decode cL_refuses 189 = .ok (.sipush 501, 3) := by decide +kernel
theorem dL_refuses_192 : decode cL_refuses 192 = .ok (.invokevirtual 32, 3) := by decide +kernel
theorem dL_refuses_195 : decode cL_refuses 195 = .ok (.ldc 70, 2) := by decide +kernel
theorem dL_refuses_197 : decode cL_refuses 197 = .ok (.if_icmp .ne 41, 3) := by decide +kernel
theorem dL_refuses_200 : decode cL_refuses 200 = .ok (.aload_n 0, 1) := by decide +kernel
theorem dL_refuses_201 : decode cL_refuses 201 = .ok (.iconst 4, 1) := by decide +kernel
theorem dL_refuses_202 : decode cL_refuses 202 = .ok (.invokevirtual 15, 3) := by decide +kernel
theorem dL_refuses_205 : decode cL_refuses 205 = .ok (.ldc 70, 2) := by decide +kernel
theorem dL_refuses_207 : decode cL_refuses 207 = .ok (.if_icmp .ne 31, 3) := by decide +kernel
theorem dL_refuses_210 : decode cL_refuses 210 = .ok (.aload_n 0, 1) := by decide +kernel
theorem dL_refuses_211 : decode cL_refuses 211 = .ok (.bipush 6, 2) := by decide +kernel
theorem dL_refuses_213 : decode cL_refuses 213 = .ok (.invokevirtual 38, 3) := by decide +kernel
theorem dL_refuses_216 : decode cL_refuses 216 = .ok (.ldc2_w 79, 3) := by decide +kernel
theorem dL_refuses_219 : decode cL_refuses 219 = .ok (.lcmp, 1) := by decide +kernel
theorem dL_refuses_220 : decode cL_refuses 220 = .ok (.ifCond .ne 18, 3) := by decide +kernel
theorem dL_refuses_223 : decode cL_refuses 223 = .ok (.aload_n 0, 1) := by decide +kernel
theorem dL_refuses_224 : decode cL_refuses 224 = .ok (.bipush 15, 2) := by decide +kernel
theorem dL_refuses_226 : decode cL_refuses 226 = .ok (.invokevirtual 9, 3) := by decide +kernel
theorem dL_refuses_229 : decode cL_refuses 229 = .ok (.ldc 70, 2) := by decide +kernel
theorem dL_refuses_231 : decode cL_refuses 231 = .ok (.if_icmp .ne 7, 3) := by decide +kernel
theorem dL_refuses_234 : decode cL_refuses 234 = .ok (.iconst 1, 1) := by decide +kernel
theorem dL_refuses_235 : decode cL_refuses 235 = .ok (.goto 4, 3) := by decide +kernel
theorem dL_refuses_238 : decode cL_refuses 238 = .ok (.iconst 0, 1) := by decide +kernel
theorem dL_refuses_239 : decode cL_refuses 239 = .ok (.istore 4, 2) := by decide +kernel
theorem dL_refuses_241 : decode cL_refuses 241 = .ok (.iload 4, 2) := by decide +kernel
theorem dL_refuses_243 : decode cL_refuses 243 = .ok (.ifCond .eq 124, 3) := by decide +kernel
theorem dL_refuses_246 : decode cL_refuses 246 = .ok (.aload_n 0, 1) := by decide +kernel
theorem dL_refuses_247 : decode cL_refuses 247 = .ok (.iload_n 2, 1) := by decide +kernel
theorem dL_refuses_248 : decode cL_refuses 248 = .ok (.iconst 0, 1) := by decide +kernel
theorem dL_refuses_249 : decode cL_refuses 249 = .ok (.iconst 1, 1) := by decide +kernel
theorem dL_refuses_250 : decode cL_refuses 250 = .ok (.invokevirtual 81, 3) := by decide +kernel
theorem dL_refuses_253 : decode cL_refuses 253 = .ok (.ldc 70, 2) := by decide +kernel
theorem dL_refuses_255 : decode cL_refuses 255 = .ok (.if_icmp .ne 112, 3) := by decide +kernel
theorem dL_refuses_258 : decode cL_refuses 258 = .ok (.aload_n 0, 1) := by decide +kernel
theorem dL_refuses_259 : decode cL_refuses 259 = .ok (.iload_n 3, 1) := by decide +kernel
theorem dL_refuses_260 : decode cL_refuses 260 = .ok (.invokevirtual 84, 3) := by decide +kernel
theorem dL_refuses_263 : decode cL_refuses 263 = .ok (.ldc 70, 2) := by decide +kernel
theorem dL_refuses_265 : decode cL_refuses 265 = .ok (.if_icmp .ne 102, 3) := by decide +kernel
theorem dL_refuses_268 : decode cL_refuses 268 = .ok (.aload_n 0, 1) := by decide +kernel
theorem dL_refuses_269 : decode cL_refuses 269 = .ok (.iload_n 3, 1) := by decide +kernel
theorem dL_refuses_270 : decode cL_refuses 270 = .ok (.iconst 0, 1) := by decide +kernel
theorem dL_refuses_271 : decode cL_refuses 271 = .ok (.invokevirtual 35, 3) := by decide +kernel
theorem dL_refuses_274 : decode cL_refuses 274 = .ok (.ldc 70, 2) := by decide +kernel
theorem dL_refuses_276 : decode cL_refuses 276 = .ok (.if_icmp .ne 91, 3) := by decide +kernel
theorem dL_refuses_279 : decode cL_refuses 279 = .ok (.aload_n 0, 1) := by decide +kernel
theorem dL_refuses_280 : decode cL_refuses 280 = .ok (.iconst (-1), 1) := by decide +kernel
theorem dL_refuses_281 : decode cL_refuses 281 = .ok (.invokevirtual 29, 3) := by decide +kernel
theorem dL_refuses_284 : decode cL_refuses 284 = .ok (.ldc 70, 2) := by decide +kernel
theorem dL_refuses_286 : decode cL_refuses 286 = .ok (.if_icmp .ne 81, 3) := by decide +kernel
theorem dL_refuses_289 : decode cL_refuses 289 = .ok (.aload_n 0, 1) := by decide +kernel
theorem dL_refuses_290 : decode cL_refuses 290 = .ok (.iconst 0, 1) := by decide +kernel
theorem dL_refuses_291 : decode cL_refuses 291 = .ok (.invokevirtual 46, 3) := by decide +kernel
theorem dL_refuses_294 : decode cL_refuses 294 = .ok (.ldc 70, 2) := by decide +kernel
theorem dL_refuses_296 : decode cL_refuses 296 = .ok (.if_icmp .ne 71, 3) := by decide +kernel
theorem dL_refuses_299 : decode cL_refuses 299 = .ok (.aload_n 0, 1) := by decide +kernel
theorem dL_refuses_300 : decode cL_refuses 300 = .ok (.bipush 101, 2) := by decide +kernel
theorem dL_refuses_302 : decode cL_refuses 302 = .ok (.invokevirtual 46, 3) := by decide +kernel
theorem dL_refuses_305 : decode cL_refuses 305 = .ok (.ldc 70, 2) := by decide +kernel
theorem dL_refuses_307 : decode cL_refuses 307 = .ok (.if_icmp .ne 60, 3) := by decide +kernel
theorem dL_refuses_310 : decode cL_refuses 310 = .ok (.aload_n 0, 1) := by decide +kernel
theorem dL_refuses_311 : decode cL_refuses 311 = .ok (.iconst 0, 1) := by decide +kernel
theorem dL_refuses_312 : decode cL_refuses 312 = .ok (.iconst 0, 1) := by decide +kernel
theorem dL_refuses_313 : decode cL_refuses 313 = .ok (.invokevirtual 54, 3) := by decide +kernel
theorem dL_refuses_316 : decode cL_refuses 316 = .ok (.ldc 70, 2) := by decide +kernel
theorem dL_refuses_318 : decode cL_refuses 318 = .ok (.if_icmp .ne 49, 3) := by decide +kernel
theorem dL_refuses_321 : decode cL_refuses 321 = .ok (.aload_n 0, 1) := by decide +kernel
theorem dL_refuses_322 : decode cL_refuses 322 = .ok (.iconst 1, 1) := by decide +kernel
theorem dL_refuses_323 : decode cL_refuses 323 = .ok (.iconst 5, 1) := by decide +kernel
theorem dL_refuses_324 : decode cL_refuses 324 = .ok (.invokevirtual 54, 3) := by decide +kernel
theorem dL_refuses_327 : decode cL_refuses 327 = .ok (.ldc 70, 2) := by decide +kernel
theorem dL_refuses_329 : decode cL_refuses 329 = .ok (.if_icmp .ne 38, 3) := by decide +kernel
theorem dL_refuses_332 : decode cL_refuses 332 = .ok (.aload_n 0, 1) := by decide +kernel
theorem dL_refuses_333 : decode cL_refuses 333 = .ok (.iconst 3, 1) := by decide +kernel
theorem dL_refuses_334 : decode cL_refuses 334 = .ok (.invokevirtual 57, 3) := by decide +kernel
theorem dL_refuses_337 : decode cL_refuses 337 = .ok (.ldc 70, 2) := by decide +kernel
theorem dL_refuses_339 : decode cL_refuses 339 = .ok (.if_icmp .ne 28, 3) := by decide +kernel
theorem dL_refuses_342 : decode cL_refuses 342 = .ok (.aload_n 0, 1) := by decide +kernel
theorem dL_refuses_343 : decode cL_refuses 343 = .ok (.bipush 31, 2) := by decide +kernel
theorem dL_refuses_345 : decode cL_refuses 345 = .ok (.invokevirtual 87, 3) := by decide +kernel
theorem dL_refuses_348 : decode cL_refuses 348 = .ok (.ldc 70, 2) := by decide +kernel
theorem dL_refuses_350 : decode cL_refuses 350 = .ok (.if_icmp .ne 17, 3) := by decide +kernel
theorem dL_refuses_353 : decode cL_refuses 353 = .ok (.aload_n 0, 1) := by decide +kernel
theorem dL_refuses_354 : decode cL_refuses 354 = .ok (.iconst 2, 1) := by decide +kernel
theorem dL_refuses_355 : decode cL_refuses 355 = .ok (.invokevirtual 90, 3) := by decide +kernel
theorem dL_refuses_358 : decode cL_refuses 358 = .ok (.ldc 70, 2) := by decide +kernel
theorem dL_refuses_360 : decode cL_refuses 360 = .ok (.if_icmp .ne 7, 3) := by decide +kernel
theorem dL_refuses_363 : decode cL_refuses 363 = .ok (.iconst 1, 1) := by decide +kernel
theorem dL_refuses_364 : decode cL_refuses 364 = .ok (.goto 4, 3) := by decide +kernel
theorem dL_refuses_367 : decode cL_refuses 367 = .ok (.iconst 0, 1) := by decide +kernel
theorem dL_refuses_368 : decode cL_refuses 368 = .ok (.istore 4, 2) := by decide +kernel
theorem dL_refuses_370 : decode cL_refuses 370 = .ok (.iload 4, 2) := by decide +kernel
theorem dL_refuses_372 : decode cL_refuses 372 = .ok (.ifCond .eq 35, 3) := by decide +kernel
theorem dL_refuses_375 : decode cL_refuses 375 = .ok (.aload_n 0, 1) := by decide +kernel
theorem dL_refuses_376 : decode cL_refuses 376 = .ok (.bipush 13, 2) := by decide +kernel
theorem dL_refuses_378 : decode cL_refuses 378 = .ok (.invokevirtual 9, 3) := by decide +kernel
theorem dL_refuses_381 : decode cL_refuses 381 = .ok (.iload_n 1, 1) := by decide +kernel
theorem dL_refuses_382 : decode cL_refuses 382 = .ok (.if_icmp .ne 25, 3) := by decide +kernel
theorem dL_refuses_385 : decode cL_refuses 385 = .ok (.aload_n 0, 1) := by decide +kernel
theorem dL_refuses_386 : decode cL_refuses 386 = .ok (.iconst 0, 1) := by decide +kernel
theorem dL_refuses_387 : decode cL_refuses 387 = .ok (.invokevirtual 9, 3) := by decide +kernel
theorem dL_refuses_390 : decode cL_refuses 390 = .ok (.iload_n 2, 1) := by decide +kernel
theorem dL_refuses_391 : decode cL_refuses 391 = .ok (.if_icmp .ne 16, 3) := by decide +kernel
theorem dL_refuses_394 : decode cL_refuses 394 = .ok (.aload_n 0, 1) := by decide +kernel
theorem dL_refuses_395 : decode cL_refuses 395 = .ok (.iconst 2, 1) := by decide +kernel
theorem dL_refuses_396 : decode cL_refuses 396 = .ok (.invokevirtual 9, 3) := by decide +kernel
theorem dL_refuses_399 : decode cL_refuses 399 = .ok (.iload_n 3, 1) := by decide +kernel
theorem dL_refuses_400 : decode cL_refuses 400 = .ok (.if_icmp .ne 7, 3) := by decide +kernel
theorem dL_refuses_403 : decode cL_refuses 403 = .ok (.iconst 1, 1) := by decide +kernel
theorem dL_refuses_404 : decode cL_refuses 404 = .ok (.goto 4, 3) := by decide +kernel
theorem dL_refuses_407 : decode cL_refuses 407 = .ok (.iconst 0, 1) := by decide +kernel
theorem dL_refuses_408 : decode cL_refuses 408 = .ok (.ireturn, 1) := by decide +kernel
end
section
theorem dL_law_0 : decode cL_law 0 = .ok (.new 10, 3) := by decide +kernel
theorem dL_law_3 : decode cL_law 3 = .ok (.dup, 1) := by decide +kernel
theorem dL_law_4 : decode cL_law 4 = .ok (.invokespecial 93, 3) := by decide +kernel
theorem dL_law_7 : decode cL_law 7 = .ok (.astore_n 1, 1) := by decide +kernel
theorem dL_law_8 : decode cL_law 8 = .ok (.aload_n 1, 1) := by decide +kernel
theorem dL_law_9 : decode cL_law 9 = .ok (.invokestatic 94, 3) := by decide +kernel
theorem dL_law_12 : decode cL_law 12 = .ok (.ifCond .eq 58, 3) := by decide +kernel
theorem dL_law_15 : decode cL_law 15 = .ok (.aload_n 1, 1) := by decide +kernel
theorem dL_law_16 : decode cL_law 16 = .ok (.invokevirtual 61, 3) := by decide +kernel
theorem dL_law_19 : decode cL_law 19 = .ok (.ldc 98, 2) := by decide +kernel
theorem dL_law_21 : decode cL_law 21 = .ok (.if_icmp .ne 49, 3) := by decide +kernel
theorem dL_law_24 : decode cL_law 24 = .ok (.aload_n 1, 1) := by decide +kernel
theorem dL_law_25 : decode cL_law 25 = .ok (.invokestatic 99, 3) := by decide +kernel
theorem dL_law_28 : decode cL_law 28 = .ok (.ifCond .eq 42, 3) := by decide +kernel
theorem dL_law_31 : decode cL_law 31 = .ok (.aload_n 1, 1) := by decide +kernel
theorem dL_law_32 : decode cL_law 32 = .ok (.iconst 1, 1) := by decide +kernel
theorem dL_law_33 : decode cL_law 33 = .ok (.invokevirtual 46, 3) := by decide +kernel
theorem dL_law_36 : decode cL_law 36 = .ok (.ldc 98, 2) := by decide +kernel
theorem dL_law_38 : decode cL_law 38 = .ok (.if_icmp .ne 32, 3) := by decide +kernel
theorem dL_law_41 : decode cL_law 41 = .ok (.aload_n 1, 1) := by decide +kernel
theorem dL_law_42 : decode cL_law 42 = .ok (.iconst 0, 1) := by decide +kernel
theorem dL_law_43 : decode cL_law 43 = .ok (.invokevirtual 57, 3) := by decide +kernel
theorem dL_law_46 : decode cL_law 46 = .ok (.ldc 98, 2) := by decide +kernel
theorem dL_law_48 : decode cL_law 48 = .ok (.if_icmp .ne 22, 3) := by decide +kernel
theorem dL_law_51 : decode cL_law 51 = .ok (.aload_n 1, 1) := by decide +kernel
theorem dL_law_52 : decode cL_law 52 = .ok (.invokevirtual 64, 3) := by decide +kernel
theorem dL_law_55 : decode cL_law 55 = .ok (.ldc 98, 2) := by decide +kernel
theorem dL_law_57 : decode cL_law 57 = .ok (.if_icmp .ne 13, 3) := by decide +kernel
theorem dL_law_60 : decode cL_law 60 = .ok (.aload_n 1, 1) := by decide +kernel
theorem dL_law_61 : decode cL_law 61 = .ok (.iconst 0, 1) := by decide +kernel
theorem dL_law_62 : decode cL_law 62 = .ok (.invokevirtual 90, 3) := by decide +kernel
theorem dL_law_65 : decode cL_law 65 = .ok (.ldc 20, 2) := by decide +kernel
theorem dL_law_67 : decode cL_law 67 = .ok (.if_icmp .eq 5, 3) := by decide +kernel
theorem dL_law_70 : decode cL_law 70 = .ok (.iconst 0, 1) := by decide +kernel
theorem dL_law_71 : decode cL_law 71 = .ok (.ireturn, 1) := by decide +kernel
theorem dL_law_72 : decode cL_law 72 = .ok (.sipush 5000, 3) := by decide +kernel
theorem dL_law_75 : decode cL_law 75 = .ok (.istore_n 2, 1) := by decide +kernel
theorem dL_law_76 : decode cL_law 76 = .ok (.iconst 0, 1) := by decide +kernel
theorem dL_law_77 : decode cL_law 77 = .ok (.istore_n 3, 1) := by decide +kernel
theorem dL_law_78 : decode cL_law 78 = .ok (.iload_n 3, 1) := by decide +kernel
theorem dL_law_79 : decode cL_law 79 = .ok (.bipush 50, 2) := by decide +kernel
theorem dL_law_81 : decode cL_law 81 = .ok (.if_icmp .ge 985, 3) := by decide +kernel
theorem dL_law_84 : decode cL_law 84 = .ok (.aload_n 0, 1) := by decide +kernel
theorem dL_law_85 : decode cL_law 85 = .ok (.iconst 2, 1) := by decide +kernel
theorem dL_law_86 : decode cL_law 86 = .ok (.iload_n 3, 1) := by decide +kernel
theorem dL_law_87 : decode cL_law 87 = .ok (.imul, 1) := by decide +kernel
theorem dL_law_88 : decode cL_law 88 = .ok (.invokestatic 102, 3) := by decide +kernel
theorem dL_law_91 : decode cL_law 91 = .ok (.istore 4, 2) := by decide +kernel
theorem dL_law_93 : decode cL_law 93 = .ok (.aload_n 0, 1) := by decide +kernel
theorem dL_law_94 : decode cL_law 94 = .ok (.iconst 2, 1) := by decide +kernel
theorem dL_law_95 : decode cL_law 95 = .ok (.iload_n 3, 1) := by decide +kernel
theorem dL_law_96 : decode cL_law 96 = .ok (.imul, 1) := by decide +kernel
theorem dL_law_97 : decode cL_law 97 = .ok (.iconst 1, 1) := by decide +kernel
theorem dL_law_98 : decode cL_law 98 = .ok (.iadd, 1) := by decide +kernel
theorem dL_law_99 : decode cL_law 99 = .ok (.invokestatic 102, 3) := by decide +kernel
theorem dL_law_102 : decode cL_law 102 = .ok (.istore 5, 2) := by decide +kernel
theorem dL_law_104 : decode cL_law 104 = .ok (.aload_n 1, 1) := by decide +kernel
theorem dL_law_105 : decode cL_law 105 = .ok (.iconst 0, 1) := by decide +kernel
theorem dL_law_106 : decode cL_law 106 = .ok (.invokevirtual 9, 3) := by decide +kernel
theorem dL_law_109 : decode cL_law 109 = .ok (.istore 6, 2) := by decide +kernel
theorem dL_law_111 : decode cL_law 111 = .ok (.iload_n 3, 1) := by decide +kernel
theorem dL_law_112 : decode cL_law 112 = .ok (.iconst 3, 1) := by decide +kernel
theorem dL_law_113 : decode cL_law 113 = .ok (.if_icmp .ge 7, 3) := by decide +kernel
theorem dL_law_116 : decode cL_law 116 = .ok (.iconst 0, 1) := by decide +kernel
theorem dL_law_117 : decode cL_law 117 = .ok (.goto 19, 3) := by decide +kernel
theorem dL_law_120 : decode cL_law 120 = .ok (.iload_n 3, 1) := by decide +kernel
theorem dL_law_121 : decode cL_law 121 = .ok (.iconst 5, 1) := by decide +kernel
theorem dL_law_122 : decode cL_law 122 = .ok (.if_icmp .ge 7, 3) := by decide +kernel
theorem dL_law_125 : decode cL_law 125 = .ok (.iconst 3, 1) := by decide +kernel
theorem dL_law_126 : decode cL_law 126 = .ok (.goto 10, 3) := by decide +kernel
theorem dL_law_129 : decode cL_law 129 = .ok (.iload 4, 2) := by decide +kernel
theorem dL_law_131 : decode cL_law 131 = .ok (.bipush 14, 2) := by decide +kernel
theorem dL_law_133 : decode cL_law 133 = .ok (.invokestatic 51, 3) := by decide +kernel
theorem dL_law_136 : decode cL_law 136 = .ok (.istore 7, 2) := by decide +kernel
theorem dL_law_138 : decode cL_law 138 = .ok (.iload 6, 2) := by decide +kernel
theorem dL_law_140 : decode cL_law 140 = .ok (.ifCond .ne 7, 3) := by decide +kernel
theorem dL_law_143 : decode cL_law 143 = .ok (.iconst 0, 1) := by decide +kernel
theorem dL_law_144 : decode cL_law 144 = .ok (.goto 12, 3) := by decide +kernel
theorem dL_law_147 : decode cL_law 147 = .ok (.iload 4, 2) := by decide +kernel
theorem dL_law_149 : decode cL_law 149 = .ok (.iconst 5, 1) := by decide +kernel
theorem dL_law_150 : decode cL_law 150 = .ok (.ishr, 1) := by decide +kernel
theorem dL_law_151 : decode cL_law 151 = .ok (.iload 6, 2) := by decide +kernel
theorem dL_law_153 : decode cL_law 153 = .ok (.invokestatic 51, 3) := by decide +kernel
theorem dL_law_156 : decode cL_law 156 = .ok (.istore 8, 2) := by decide +kernel
theorem dL_law_158 : decode cL_law 158 = .ok (.iload 7, 2) := by decide +kernel
theorem dL_law_160 : decode cL_law 160 = .ok (.ifCond .ne 236, 3) := by decide +kernel
theorem dL_law_163 : decode cL_law 163 = .ok (.iload 5, 2) := by decide +kernel
theorem dL_law_165 : decode cL_law 165 = .ok (.bipush 20, 2) := by decide +kernel
theorem dL_law_167 : decode cL_law 167 = .ok (.ishr, 1) := by decide +kernel
theorem dL_law_168 : decode cL_law 168 = .ok (.iconst 4, 1) := by decide +kernel
theorem dL_law_169 : decode cL_law 169 = .ok (.invokestatic 51, 3) := by decide +kernel
theorem dL_law_172 : decode cL_law 172 = .ok (.ifCond .ne 7, 3) := by decide +kernel
theorem dL_law_175 : decode cL_law 175 = .ok (.iload_n 2, 1) := by decide +kernel
theorem dL_law_176 : decode cL_law 176 = .ok (.goto 15, 3) := by decide +kernel
theorem dL_law_179 : decode cL_law 179 = .ok (.iload_n 2, 1) := by decide +kernel
theorem dL_law_180 : decode cL_law 180 = .ok (.iconst 1, 1) := by decide +kernel
theorem dL_law_181 : decode cL_law 181 = .ok (.isub, 1) := by decide +kernel
theorem dL_law_182 : decode cL_law 182 = .ok (.iload 5, 2) := by decide +kernel
theorem dL_law_184 : decode cL_law 184 = .ok (.sipush 600, 3) := by decide +kernel
theorem dL_law_187 : decode cL_law 187 = .ok (.invokestatic 51, 3) := by decide +kernel
theorem dL_law_190 : decode cL_law 190 = .ok (.isub, 1) := by decide +kernel
theorem dL_law_191 : decode cL_law 191 = .ok (.istore 9, 2) := by decide +kernel
theorem dL_law_193 : decode cL_law 193 = .ok (.iload 9, 2) := by decide +kernel
theorem dL_law_195 : decode cL_law 195 = .ok (.ifCond .ge 7, 3) := by decide +kernel
theorem dL_law_198 : decode cL_law 198 = .ok (.iconst 0, 1) := by decide +kernel
theorem dL_law_199 : decode cL_law 199 = .ok (.goto 5, 3) := by decide +kernel
theorem dL_law_202 : decode cL_law 202 = .ok (.iload 9, 2) := by decide +kernel
theorem dL_law_204 : decode cL_law 204 = .ok (.istore 9, 2) := by decide +kernel
theorem dL_law_206 : decode cL_law 206 = .ok (.iload 6, 2) := by decide +kernel
theorem dL_law_208 : decode cL_law 208 = .ok (.ifCond .eq 17, 3) := by decide +kernel
theorem dL_law_211 : decode cL_law 211 = .ok (.iload 9, 2) := by decide +kernel
theorem dL_law_213 : decode cL_law 213 = .ok (.aload_n 1, 1) := by decide +kernel
theorem dL_law_214 : decode cL_law 214 = .ok (.iload 6, 2) := by decide +kernel
theorem dL_law_216 : decode cL_law 216 = .ok (.iconst 1, 1) := by decide +kernel
theorem dL_law_217 : decode cL_law 217 = .ok (.isub, 1) := by decide +kernel
theorem dL_law_218 : decode cL_law 218 = .ok (.iconst 0, 1) := by decide +kernel
theorem dL_law_219 : decode cL_law 219 = .ok (.invokevirtual 21, 3) := by decide +kernel
theorem dL_law_222 : decode cL_law 222 = .ok (.if_icmp .ge 7, 3) := by decide +kernel
theorem dL_law_225 : decode cL_law 225 = .ok (.iconst 1, 1) := by decide +kernel
theorem dL_law_226 : decode cL_law 226 = .ok (.goto 4, 3) := by decide +kernel
theorem dL_law_229 : decode cL_law 229 = .ok (.iconst 0, 1) := by decide +kernel
theorem dL_law_230 : decode cL_law 230 = .ok (.istore 10, 2) := by decide +kernel
theorem dL_law_232 : decode cL_law 232 = .ok (.iload 5, 2) := by decide +kernel
theorem dL_law_234 : decode cL_law 234 = .ok (.iconst 4, 1) := by decide +kernel
theorem dL_law_235 : decode cL_law 235 = .ok (.ishr, 1) := by decide +kernel
theorem dL_law_236 : decode cL_law 236 = .ok (.sipush 20000, 3) := by decide +kernel
theorem dL_law_239 : decode cL_law 239 = .ok (.invokestatic 51, 3) := by decide +kernel
theorem dL_law_242 : decode cL_law 242 = .ok (.istore 11, 2) := by decide +kernel
theorem dL_law_244 : decode cL_law 244 = .ok (.aload_n 1, 1) := by decide +kernel
theorem dL_law_245 : decode cL_law 245 = .ok (.iconst 0, 1) := by decide +kernel
theorem dL_law_246 : decode cL_law 246 = .ok (.invokevirtual 38, 3) := by decide +kernel
theorem dL_law_249 : decode cL_law 249 = .ok (.lstore 12, 2) := by decide +kernel
theorem dL_law_251 : decode cL_law 251 = .ok (.aload_n 1, 1) := by decide +kernel
theorem dL_law_252 : decode cL_law 252 = .ok (.iload 9, 2) := by decide +kernel
theorem dL_law_254 : decode cL_law 254 = .ok (.bipush 100, 2) := by decide +kernel
theorem dL_law_256 : decode cL_law 256 = .ok (.iload 5, 2) := by decide +kernel
theorem dL_law_258 : decode cL_law 258 = .ok (.bipush 7, 2) := by decide +kernel
theorem dL_law_260 : decode cL_law 260 = .ok (.ishr, 1) := by decide +kernel
theorem dL_law_261 : decode cL_law 261 = .ok (.sipush 900, 3) := by decide +kernel
theorem dL_law_264 : decode cL_law 264 = .ok (.invokestatic 51, 3) := by decide +kernel
theorem dL_law_267 : decode cL_law 267 = .ok (.iadd, 1) := by decide +kernel
theorem dL_law_268 : decode cL_law 268 = .ok (.iload 5, 2) := by decide +kernel
theorem dL_law_270 : decode cL_law 270 = .ok (.bipush 11, 2) := by decide +kernel
theorem dL_law_272 : decode cL_law 272 = .ok (.ishr, 1) := by decide +kernel
theorem dL_law_273 : decode cL_law 273 = .ok (.sipush 501, 3) := by decide +kernel
theorem dL_law_276 : decode cL_law 276 = .ok (.invokestatic 51, 3) := by decide +kernel
theorem dL_law_279 : decode cL_law 279 = .ok (.iload 11, 2) := by decide +kernel
theorem dL_law_281 : decode cL_law 281 = .ok (.invokevirtual 71, 3) := by decide +kernel
theorem dL_law_284 : decode cL_law 284 = .ok (.istore 14, 2) := by decide +kernel
theorem dL_law_286 : decode cL_law 286 = .ok (.iload 14, 2) := by decide +kernel
theorem dL_law_288 : decode cL_law 288 = .ok (.iload 10, 2) := by decide +kernel
theorem dL_law_290 : decode cL_law 290 = .ok (.ifCond .ne 8, 3) := by decide +kernel
theorem dL_law_293 : decode cL_law 293 = .ok (.ldc 98, 2) := by decide +kernel
theorem dL_law_295 : decode cL_law 295 = .ok (.goto 17, 3) := by decide +kernel
theorem dL_law_298 : decode cL_law 298 = .ok (.iload 6, 2) := by decide +kernel
theorem dL_law_300 : decode cL_law 300 = .ok (.bipush 10, 2) := by decide +kernel
theorem dL_law_302 : decode cL_law 302 = .ok (.if_icmp .ne 8, 3) := by decide +kernel
theorem dL_law_305 : decode cL_law 305 = .ok (.ldc 60, 2) := by decide +kernel
theorem dL_law_307 : decode cL_law 307 = .ok (.goto 5, 3) := by decide +kernel
theorem dL_law_310 : decode cL_law 310 = .ok (.iload 6, 2) := by decide +kernel
theorem dL_law_312 : decode cL_law 312 = .ok (.if_icmp .ne 67, 3) := by decide +kernel
theorem dL_law_315 : decode cL_law 315 = .ok (.iload 14, 2) := by decide +kernel
theorem dL_law_317 : decode cL_law 317 = .ok (.ifCond .lt 64, 3) := by decide +kernel
theorem dL_law_320 : decode cL_law 320 = .ok (.aload_n 1, 1) := by decide +kernel
theorem dL_law_321 : decode cL_law 321 = .ok (.iload 14, 2) := by decide +kernel
theorem dL_law_323 : decode cL_law 323 = .ok (.iconst 3, 1) := by decide +kernel
theorem dL_law_324 : decode cL_law 324 = .ok (.invokevirtual 21, 3) := by decide +kernel
theorem dL_law_327 : decode cL_law 327 = .ok (.iload 11, 2) := by decide +kernel
theorem dL_law_329 : decode cL_law 329 = .ok (.if_icmp .ne 50, 3) := by decide +kernel
theorem dL_law_332 : decode cL_law 332 = .ok (.aload_n 1, 1) := by decide +kernel
theorem dL_law_333 : decode cL_law 333 = .ok (.iconst 0, 1) := by decide +kernel
theorem dL_law_334 : decode cL_law 334 = .ok (.invokevirtual 38, 3) := by decide +kernel
theorem dL_law_337 : decode cL_law 337 = .ok (.lload 12, 2) := by decide +kernel
theorem dL_law_339 : decode cL_law 339 = .ok (.iload 11, 2) := by decide +kernel
theorem dL_law_341 : decode cL_law 341 = .ok (.i2l, 1) := by decide +kernel
theorem dL_law_342 : decode cL_law 342 = .ok (.ladd, 1) := by decide +kernel
theorem dL_law_343 : decode cL_law 343 = .ok (.lcmp, 1) := by decide +kernel
theorem dL_law_344 : decode cL_law 344 = .ok (.ifCond .ne 35, 3) := by decide +kernel
theorem dL_law_347 : decode cL_law 347 = .ok (.aload_n 1, 1) := by decide +kernel
theorem dL_law_348 : decode cL_law 348 = .ok (.iload 14, 2) := by decide +kernel
theorem dL_law_350 : decode cL_law 350 = .ok (.bipush 10, 2) := by decide +kernel
theorem dL_law_352 : decode cL_law 352 = .ok (.invokevirtual 21, 3) := by decide +kernel
theorem dL_law_355 : decode cL_law 355 = .ok (.ifCond .ne 24, 3) := by decide +kernel
theorem dL_law_358 : decode cL_law 358 = .ok (.iload 11, 2) := by decide +kernel
theorem dL_law_360 : decode cL_law 360 = .ok (.ifCond .le 21, 3) := by decide +kernel
theorem dL_law_363 : decode cL_law 363 = .ok (.aload_n 1, 1) := by decide +kernel
theorem dL_law_364 : decode cL_law 364 = .ok (.iload 14, 2) := by decide +kernel
theorem dL_law_366 : decode cL_law 366 = .ok (.iconst 0, 1) := by decide +kernel
theorem dL_law_367 : decode cL_law 367 = .ok (.iconst 0, 1) := by decide +kernel
theorem dL_law_368 : decode cL_law 368 = .ok (.invokevirtual 25, 3) := by decide +kernel
theorem dL_law_371 : decode cL_law 371 = .ok (.aload_n 1, 1) := by decide +kernel
theorem dL_law_372 : decode cL_law 372 = .ok (.iconst 1, 1) := by decide +kernel
theorem dL_law_373 : decode cL_law 373 = .ok (.invokevirtual 9, 3) := by decide +kernel
theorem dL_law_376 : decode cL_law 376 = .ok (.if_icmp .eq 5, 3) := by decide +kernel
theorem dL_law_379 : decode cL_law 379 = .ok (.iconst 0, 1) := by decide +kernel
theorem dL_law_380 : decode cL_law 380 = .ok (.ireturn, 1) := by decide +kernel
theorem dL_law_381 : decode cL_law 381 = .ok (.iload 14, 2) := by decide +kernel
theorem dL_law_383 : decode cL_law 383 = .ok (.ifCond .lt 8, 3) := by decide +kernel
theorem dL_law_386 : decode cL_law 386 = .ok (.iload 9, 2) := by decide +kernel
theorem dL_law_388 : decode cL_law 388 = .ok (.goto 4, 3) := by decide +kernel
theorem dL_law_391 : decode cL_law 391 = .ok (.iload_n 2, 1) := by decide +kernel
theorem dL_law_392 : decode cL_law 392 = .ok (.istore_n 2, 1) := by decide +kernel
theorem dL_law_393 : decode cL_law 393 = .ok (.goto 658, 3) := by decide +kernel
theorem dL_law_396 : decode cL_law 396 = .ok (.iload 7, 2) := by decide +kernel
theorem dL_law_398 : decode cL_law 398 = .ok (.iconst 3, 1) := by decide +kernel
theorem dL_law_399 : decode cL_law 399 = .ok (.if_icmp .ge 161, 3) := by decide +kernel
theorem dL_law_402 : decode cL_law 402 = .ok (.iload 5, 2) := by decide +kernel
theorem dL_law_404 : decode cL_law 404 = .ok (.bipush 7, 2) := by decide +kernel
theorem dL_law_406 : decode cL_law 406 = .ok (.invokestatic 51, 3) := by decide +kernel
theorem dL_law_409 : decode cL_law 409 = .ok (.istore 9, 2) := by decide +kernel
theorem dL_law_411 : decode cL_law 411 = .ok (.iload 5, 2) := by decide +kernel
theorem dL_law_413 : decode cL_law 413 = .ok (.iconst 3, 1) := by decide +kernel
theorem dL_law_414 : decode cL_law 414 = .ok (.ishr, 1) := by decide +kernel
theorem dL_law_415 : decode cL_law 415 = .ok (.istore 10, 2) := by decide +kernel
theorem dL_law_417 : decode cL_law 417 = .ok (.iload 9, 2) := by decide +kernel
theorem dL_law_419 : decode cL_law 419 = .ok (.ifCond .ne 14, 3) := by decide +kernel
theorem dL_law_422 : decode cL_law 422 = .ok (.iload 10, 2) := by decide +kernel
theorem dL_law_424 : decode cL_law 424 = .ok (.sipush 2500, 3) := by decide +kernel
theorem dL_law_427 : decode cL_law 427 = .ok (.invokestatic 51, 3) := by decide +kernel
theorem dL_law_430 : decode cL_law 430 = .ok (.goto 85, 3) := by decide +kernel
theorem dL_law_433 : decode cL_law 433 = .ok (.iload 9, 2) := by decide +kernel
theorem dL_law_435 : decode cL_law 435 = .ok (.iconst 1, 1) := by decide +kernel
theorem dL_law_436 : decode cL_law 436 = .ok (.if_icmp .eq 9, 3) := by decide +kernel
theorem dL_law_439 : decode cL_law 439 = .ok (.iload 9, 2) := by decide +kernel
theorem dL_law_441 : decode cL_law 441 = .ok (.iconst 3, 1) := by decide +kernel
theorem dL_law_442 : decode cL_law 442 = .ok (.if_icmp .ne 13, 3) := by decide +kernel
theorem dL_law_445 : decode cL_law 445 = .ok (.iload 10, 2) := by decide +kernel
theorem dL_law_447 : decode cL_law 447 = .ok (.bipush 120, 2) := by decide +kernel
theorem dL_law_449 : decode cL_law 449 = .ok (.invokestatic 51, 3) := by decide +kernel
theorem dL_law_452 : decode cL_law 452 = .ok (.goto 63, 3) := by decide +kernel
theorem dL_law_455 : decode cL_law 455 = .ok (.iload 9, 2) := by decide +kernel
theorem dL_law_457 : decode cL_law 457 = .ok (.iconst 2, 1) := by decide +kernel
theorem dL_law_458 : decode cL_law 458 = .ok (.if_icmp .ne 14, 3) := by decide +kernel
theorem dL_law_461 : decode cL_law 461 = .ok (.iload 10, 2) := by decide +kernel
theorem dL_law_463 : decode cL_law 463 = .ok (.sipush 3000, 3) := by decide +kernel
theorem dL_law_466 : decode cL_law 466 = .ok (.invokestatic 51, 3) := by decide +kernel
theorem dL_law_469 : decode cL_law 469 = .ok (.goto 46, 3) := by decide +kernel
theorem dL_law_472 : decode cL_law 472 = .ok (.iload 9, 2) := by decide +kernel
theorem dL_law_474 : decode cL_law 474 = .ok (.iconst 4, 1) := by decide +kernel
theorem dL_law_475 : decode cL_law 475 = .ok (.if_icmp .ne 14, 3) := by decide +kernel
theorem dL_law_478 : decode cL_law 478 = .ok (.iload 10, 2) := by decide +kernel
theorem dL_law_480 : decode cL_law 480 = .ok (.sipush 5001, 3) := by decide +kernel
theorem dL_law_483 : decode cL_law 483 = .ok (.invokestatic 51, 3) := by decide +kernel
theorem dL_law_486 : decode cL_law 486 = .ok (.goto 29, 3) := by decide +kernel
theorem dL_law_489 : decode cL_law 489 = .ok (.iload 9, 2) := by decide +kernel
theorem dL_law_491 : decode cL_law 491 = .ok (.iconst 5, 1) := by decide +kernel
theorem dL_law_492 : decode cL_law 492 = .ok (.if_icmp .ne 16, 3) := by decide +kernel
theorem dL_law_495 : decode cL_law 495 = .ok (.iconst 1, 1) := by decide +kernel
theorem dL_law_496 : decode cL_law 496 = .ok (.iload 10, 2) := by decide +kernel
theorem dL_law_498 : decode cL_law 498 = .ok (.sipush 5000, 3) := by decide +kernel
theorem dL_law_501 : decode cL_law 501 = .ok (.invokestatic 51, 3) := by decide +kernel
theorem dL_law_504 : decode cL_law 504 = .ok (.iadd, 1) := by decide +kernel
theorem dL_law_505 : decode cL_law 505 = .ok (.goto 10, 3) := by decide +kernel
theorem dL_law_508 : decode cL_law 508 = .ok (.iload 10, 2) := by decide +kernel
theorem dL_law_510 : decode cL_law 510 = .ok (.bipush 6, 2) := by decide +kernel
theorem dL_law_512 : decode cL_law 512 = .ok (.invokestatic 51, 3) := by decide +kernel
theorem dL_law_515 : decode cL_law 515 = .ok (.istore 11, 2) := by decide +kernel
theorem dL_law_517 : decode cL_law 517 = .ok (.aload_n 1, 1) := by decide +kernel
theorem dL_law_518 : decode cL_law 518 = .ok (.bipush 6, 2) := by decide +kernel
theorem dL_law_520 : decode cL_law 520 = .ok (.iload 9, 2) := by decide +kernel
theorem dL_law_522 : decode cL_law 522 = .ok (.iadd, 1) := by decide +kernel
theorem dL_law_523 : decode cL_law 523 = .ok (.invokevirtual 9, 3) := by decide +kernel
theorem dL_law_526 : decode cL_law 526 = .ok (.istore 12, 2) := by decide +kernel
theorem dL_law_528 : decode cL_law 528 = .ok (.aload_n 1, 1) := by decide +kernel
theorem dL_law_529 : decode cL_law 529 = .ok (.iload 9, 2) := by decide +kernel
theorem dL_law_531 : decode cL_law 531 = .ok (.iload 11, 2) := by decide +kernel
theorem dL_law_533 : decode cL_law 533 = .ok (.invokevirtual 67, 3) := by decide +kernel
theorem dL_law_536 : decode cL_law 536 = .ok (.iload 12, 2) := by decide +kernel
theorem dL_law_538 : decode cL_law 538 = .ok (.if_icmp .ne 17, 3) := by decide +kernel
theorem dL_law_541 : decode cL_law 541 = .ok (.aload_n 1, 1) := by decide +kernel
theorem dL_law_542 : decode cL_law 542 = .ok (.bipush 6, 2) := by decide +kernel
theorem dL_law_544 : decode cL_law 544 = .ok (.iload 9, 2) := by decide +kernel
theorem dL_law_546 : decode cL_law 546 = .ok (.iadd, 1) := by decide +kernel
theorem dL_law_547 : decode cL_law 547 = .ok (.invokevirtual 9, 3) := by decide +kernel
theorem dL_law_550 : decode cL_law 550 = .ok (.iload 11, 2) := by decide +kernel
theorem dL_law_552 : decode cL_law 552 = .ok (.if_icmp .eq 5, 3) := by decide +kernel
theorem dL_law_555 : decode cL_law 555 = .ok (.iconst 0, 1) := by decide +kernel
theorem dL_law_556 : decode cL_law 556 = .ok (.ireturn, 1) := by decide +kernel
theorem dL_law_557 : decode cL_law 557 = .ok (.goto 494, 3) := by decide +kernel
theorem dL_law_560 : decode cL_law 560 = .ok (.iload 7, 2) := by decide +kernel
theorem dL_law_562 : decode cL_law 562 = .ok (.iconst 3, 1) := by decide +kernel
theorem dL_law_563 : decode cL_law 563 = .ok (.if_icmp .ne 159, 3) := by decide +kernel
theorem dL_law_566 : decode cL_law 566 = .ok (.iload 6, 2) := by decide +kernel
theorem dL_law_568 : decode cL_law 568 = .ok (.ifCond .le 154, 3) := by decide +kernel
theorem dL_law_571 : decode cL_law 571 = .ok (.iload 5, 2) := by decide +kernel
theorem dL_law_573 : decode cL_law 573 = .ok (.aload_n 1, 1) := by decide +kernel
theorem dL_law_574 : decode cL_law 574 = .ok (.iload 8, 2) := by decide +kernel
theorem dL_law_576 : decode cL_law 576 = .ok (.iconst 1, 1) := by decide +kernel
theorem dL_law_577 : decode cL_law 577 = .ok (.invokevirtual 21, 3) := by decide +kernel
theorem dL_law_580 : decode cL_law 580 = .ok (.invokestatic 51, 3) := by decide +kernel
theorem dL_law_583 : decode cL_law 583 = .ok (.istore 9, 2) := by decide +kernel
theorem dL_law_585 : decode cL_law 585 = .ok (.iconst 1, 1) := by decide +kernel
theorem dL_law_586 : decode cL_law 586 = .ok (.iload 5, 2) := by decide +kernel
theorem dL_law_588 : decode cL_law 588 = .ok (.bipush 6, 2) := by decide +kernel
theorem dL_law_590 : decode cL_law 590 = .ok (.ishr, 1) := by decide +kernel
theorem dL_law_591 : decode cL_law 591 = .ok (.sipush 4000, 3) := by decide +kernel
theorem dL_law_594 : decode cL_law 594 = .ok (.invokestatic 51, 3) := by decide +kernel
theorem dL_law_597 : decode cL_law 597 = .ok (.iadd, 1) := by decide +kernel
theorem dL_law_598 : decode cL_law 598 = .ok (.istore 10, 2) := by decide +kernel
theorem dL_law_600 : decode cL_law 600 = .ok (.aload_n 1, 1) := by decide +kernel
theorem dL_law_601 : decode cL_law 601 = .ok (.iconst 2, 1) := by decide +kernel
theorem dL_law_602 : decode cL_law 602 = .ok (.invokevirtual 9, 3) := by decide +kernel
theorem dL_law_605 : decode cL_law 605 = .ok (.istore 11, 2) := by decide +kernel
theorem dL_law_607 : decode cL_law 607 = .ok (.aload_n 1, 1) := by decide +kernel
theorem dL_law_608 : decode cL_law 608 = .ok (.iload 8, 2) := by decide +kernel
theorem dL_law_610 : decode cL_law 610 = .ok (.iload 9, 2) := by decide +kernel
theorem dL_law_612 : decode cL_law 612 = .ok (.iload 10, 2) := by decide +kernel
theorem dL_law_614 : decode cL_law 614 = .ok (.invokevirtual 81, 3) := by decide +kernel
theorem dL_law_617 : decode cL_law 617 = .ok (.istore 12, 2) := by decide +kernel
theorem dL_law_619 : decode cL_law 619 = .ok (.iload 12, 2) := by decide +kernel
theorem dL_law_621 : decode cL_law 621 = .ok (.iload 11, 2) := by decide +kernel
theorem dL_law_623 : decode cL_law 623 = .ok (.if_icmp .eq 17, 3) := by decide +kernel
theorem dL_law_626 : decode cL_law 626 = .ok (.iload 12, 2) := by decide +kernel
theorem dL_law_628 : decode cL_law 628 = .ok (.ldc 98, 2) := by decide +kernel
theorem dL_law_630 : decode cL_law 630 = .ok (.if_icmp .eq 10, 3) := by decide +kernel
theorem dL_law_633 : decode cL_law 633 = .ok (.iload 12, 2) := by decide +kernel
theorem dL_law_635 : decode cL_law 635 = .ok (.ldc 60, 2) := by decide +kernel
theorem dL_law_637 : decode cL_law 637 = .ok (.if_icmp .ne 80, 3) := by decide +kernel
theorem dL_law_640 : decode cL_law 640 = .ok (.iload 12, 2) := by decide +kernel
theorem dL_law_642 : decode cL_law 642 = .ok (.ifCond .lt 61, 3) := by decide +kernel
theorem dL_law_645 : decode cL_law 645 = .ok (.aload_n 1, 1) := by decide +kernel
theorem dL_law_646 : decode cL_law 646 = .ok (.iload 12, 2) := by decide +kernel
theorem dL_law_648 : decode cL_law 648 = .ok (.iconst 0, 1) := by decide +kernel
theorem dL_law_649 : decode cL_law 649 = .ok (.invokevirtual 35, 3) := by decide +kernel
theorem dL_law_652 : decode cL_law 652 = .ok (.iload 8, 2) := by decide +kernel
theorem dL_law_654 : decode cL_law 654 = .ok (.if_icmp .ne 63, 3) := by decide +kernel
theorem dL_law_657 : decode cL_law 657 = .ok (.aload_n 1, 1) := by decide +kernel
theorem dL_law_658 : decode cL_law 658 = .ok (.iload 12, 2) := by decide +kernel
theorem dL_law_660 : decode cL_law 660 = .ok (.iconst 1, 1) := by decide +kernel
theorem dL_law_661 : decode cL_law 661 = .ok (.invokevirtual 35, 3) := by decide +kernel
theorem dL_law_664 : decode cL_law 664 = .ok (.iload 9, 2) := by decide +kernel
theorem dL_law_666 : decode cL_law 666 = .ok (.if_icmp .ne 51, 3) := by decide +kernel
theorem dL_law_669 : decode cL_law 669 = .ok (.aload_n 1, 1) := by decide +kernel
theorem dL_law_670 : decode cL_law 670 = .ok (.iload 12, 2) := by decide +kernel
theorem dL_law_672 : decode cL_law 672 = .ok (.iconst 3, 1) := by decide +kernel
theorem dL_law_673 : decode cL_law 673 = .ok (.invokevirtual 35, 3) := by decide +kernel
theorem dL_law_676 : decode cL_law 676 = .ok (.ifCond .ne 41, 3) := by decide +kernel
theorem dL_law_679 : decode cL_law 679 = .ok (.aload_n 1, 1) := by decide +kernel
theorem dL_law_680 : decode cL_law 680 = .ok (.iload 12, 2) := by decide +kernel
theorem dL_law_682 : decode cL_law 682 = .ok (.iconst 5, 1) := by decide +kernel
theorem dL_law_683 : decode cL_law 683 = .ok (.invokevirtual 35, 3) := by decide +kernel
theorem dL_law_686 : decode cL_law 686 = .ok (.ifCond .ne 31, 3) := by decide +kernel
theorem dL_law_689 : decode cL_law 689 = .ok (.aload_n 1, 1) := by decide +kernel
theorem dL_law_690 : decode cL_law 690 = .ok (.iload 8, 2) := by decide +kernel
theorem dL_law_692 : decode cL_law 692 = .ok (.iload 9, 2) := by decide +kernel
theorem dL_law_694 : decode cL_law 694 = .ok (.iconst 1, 1) := by decide +kernel
theorem dL_law_695 : decode cL_law 695 = .ok (.invokevirtual 81, 3) := by decide +kernel
theorem dL_law_698 : decode cL_law 698 = .ok (.ldc 98, 2) := by decide +kernel
theorem dL_law_700 : decode cL_law 700 = .ok (.if_icmp .ne 17, 3) := by decide +kernel
theorem dL_law_703 : decode cL_law 703 = .ok (.iload 12, 2) := by decide +kernel
theorem dL_law_705 : decode cL_law 705 = .ok (.ldc 60, 2) := by decide +kernel
theorem dL_law_707 : decode cL_law 707 = .ok (.if_icmp .ne 12, 3) := by decide +kernel
theorem dL_law_710 : decode cL_law 710 = .ok (.iload 11, 2) := by decide +kernel
theorem dL_law_712 : decode cL_law 712 = .ok (.bipush 6, 2) := by decide +kernel
theorem dL_law_714 : decode cL_law 714 = .ok (.if_icmp .eq 5, 3) := by decide +kernel
theorem dL_law_717 : decode cL_law 717 = .ok (.iconst 0, 1) := by decide +kernel
theorem dL_law_718 : decode cL_law 718 = .ok (.ireturn, 1) := by decide +kernel
theorem dL_law_719 : decode cL_law 719 = .ok (.goto 332, 3) := by decide +kernel
theorem dL_law_722 : decode cL_law 722 = .ok (.iload 7, 2) := by decide +kernel
theorem dL_law_724 : decode cL_law 724 = .ok (.iconst 4, 1) := by decide +kernel
theorem dL_law_725 : decode cL_law 725 = .ok (.if_icmp .ne 90, 3) := by decide +kernel
theorem dL_law_728 : decode cL_law 728 = .ok (.iload 6, 2) := by decide +kernel
theorem dL_law_730 : decode cL_law 730 = .ok (.ifCond .le 85, 3) := by decide +kernel
theorem dL_law_733 : decode cL_law 733 = .ok (.aload_n 1, 1) := by decide +kernel
theorem dL_law_734 : decode cL_law 734 = .ok (.iload 8, 2) := by decide +kernel
theorem dL_law_736 : decode cL_law 736 = .ok (.iconst 2, 1) := by decide +kernel
theorem dL_law_737 : decode cL_law 737 = .ok (.invokevirtual 21, 3) := by decide +kernel
theorem dL_law_740 : decode cL_law 740 = .ok (.istore 9, 2) := by decide +kernel
theorem dL_law_742 : decode cL_law 742 = .ok (.aload_n 1, 1) := by decide +kernel
theorem dL_law_743 : decode cL_law 743 = .ok (.iload 8, 2) := by decide +kernel
theorem dL_law_745 : decode cL_law 745 = .ok (.iload 5, 2) := by decide +kernel
theorem dL_law_747 : decode cL_law 747 = .ok (.sipush 501, 3) := by decide +kernel
theorem dL_law_750 : decode cL_law 750 = .ok (.invokestatic 51, 3) := by decide +kernel
theorem dL_law_753 : decode cL_law 753 = .ok (.invokevirtual 76, 3) := by decide +kernel
theorem dL_law_756 : decode cL_law 756 = .ok (.iload 9, 2) := by decide +kernel
theorem dL_law_758 : decode cL_law 758 = .ok (.if_icmp .ne 52, 3) := by decide +kernel
theorem dL_law_761 : decode cL_law 761 = .ok (.aload_n 1, 1) := by decide +kernel
theorem dL_law_762 : decode cL_law 762 = .ok (.iload 8, 2) := by decide +kernel
theorem dL_law_764 : decode cL_law 764 = .ok (.iconst 2, 1) := by decide +kernel
theorem dL_law_765 : decode cL_law 765 = .ok (.invokevirtual 21, 3) := by decide +kernel
theorem dL_law_768 : decode cL_law 768 = .ok (.iload 5, 2) := by decide +kernel
theorem dL_law_770 : decode cL_law 770 = .ok (.sipush 501, 3) := by decide +kernel
theorem dL_law_773 : decode cL_law 773 = .ok (.invokestatic 51, 3) := by decide +kernel
theorem dL_law_776 : decode cL_law 776 = .ok (.if_icmp .ne 34, 3) := by decide +kernel
theorem dL_law_779 : decode cL_law 779 = .ok (.iload 5, 2) := by decide +kernel
theorem dL_law_781 : decode cL_law 781 = .ok (.bipush 9, 2) := by decide +kernel
theorem dL_law_783 : decode cL_law 783 = .ok (.ishr, 1) := by decide +kernel
theorem dL_law_784 : decode cL_law 784 = .ok (.iconst 2, 1) := by decide +kernel
theorem dL_law_785 : decode cL_law 785 = .ok (.invokestatic 51, 3) := by decide +kernel
theorem dL_law_788 : decode cL_law 788 = .ok (.ifCond .ne 24, 3) := by decide +kernel
theorem dL_law_791 : decode cL_law 791 = .ok (.aload_n 1, 1) := by decide +kernel
theorem dL_law_792 : decode cL_law 792 = .ok (.invokevirtual 61, 3) := by decide +kernel
theorem dL_law_795 : decode cL_law 795 = .ok (.ifCond .lt 15, 3) := by decide +kernel
theorem dL_law_798 : decode cL_law 798 = .ok (.aload_n 1, 1) := by decide +kernel
theorem dL_law_799 : decode cL_law 799 = .ok (.iload 8, 2) := by decide +kernel
theorem dL_law_801 : decode cL_law 801 = .ok (.iconst 2, 1) := by decide +kernel
theorem dL_law_802 : decode cL_law 802 = .ok (.invokevirtual 21, 3) := by decide +kernel
theorem dL_law_805 : decode cL_law 805 = .ok (.iload 9, 2) := by decide +kernel
theorem dL_law_807 : decode cL_law 807 = .ok (.if_icmp .eq 5, 3) := by decide +kernel
theorem dL_law_810 : decode cL_law 810 = .ok (.iconst 0, 1) := by decide +kernel
theorem dL_law_811 : decode cL_law 811 = .ok (.ireturn, 1) := by decide +kernel
theorem dL_law_812 : decode cL_law 812 = .ok (.goto 239, 3) := by decide +kernel
theorem dL_law_815 : decode cL_law 815 = .ok (.iload 7, 2) := by decide +kernel
theorem dL_law_817 : decode cL_law 817 = .ok (.iconst 5, 1) := by decide +kernel
theorem dL_law_818 : decode cL_law 818 = .ok (.if_icmp .ne 120, 3) := by decide +kernel
theorem dL_law_821 : decode cL_law 821 = .ok (.aload_n 1, 1) := by decide +kernel
theorem dL_law_822 : decode cL_law 822 = .ok (.iconst 2, 1) := by decide +kernel
theorem dL_law_823 : decode cL_law 823 = .ok (.invokevirtual 9, 3) := by decide +kernel
theorem dL_law_826 : decode cL_law 826 = .ok (.ifCond .le 112, 3) := by decide +kernel
theorem dL_law_829 : decode cL_law 829 = .ok (.iload 5, 2) := by decide +kernel
theorem dL_law_831 : decode cL_law 831 = .ok (.iconst 3, 1) := by decide +kernel
theorem dL_law_832 : decode cL_law 832 = .ok (.invokestatic 51, 3) := by decide +kernel
theorem dL_law_835 : decode cL_law 835 = .ok (.ifCond .ne 103, 3) := by decide +kernel
theorem dL_law_838 : decode cL_law 838 = .ok (.aload_n 1, 1) := by decide +kernel
theorem dL_law_839 : decode cL_law 839 = .ok (.iconst 2, 1) := by decide +kernel
theorem dL_law_840 : decode cL_law 840 = .ok (.invokevirtual 9, 3) := by decide +kernel
theorem dL_law_843 : decode cL_law 843 = .ok (.istore 9, 2) := by decide +kernel
theorem dL_law_845 : decode cL_law 845 = .ok (.iload 5, 2) := by decide +kernel
theorem dL_law_847 : decode cL_law 847 = .ok (.iconst 2, 1) := by decide +kernel
theorem dL_law_848 : decode cL_law 848 = .ok (.ishr, 1) := by decide +kernel
theorem dL_law_849 : decode cL_law 849 = .ok (.iload 9, 2) := by decide +kernel
theorem dL_law_851 : decode cL_law 851 = .ok (.invokestatic 51, 3) := by decide +kernel
theorem dL_law_854 : decode cL_law 854 = .ok (.istore 10, 2) := by decide +kernel
theorem dL_law_856 : decode cL_law 856 = .ok (.aload_n 1, 1) := by decide +kernel
theorem dL_law_857 : decode cL_law 857 = .ok (.iload 10, 2) := by decide +kernel
theorem dL_law_859 : decode cL_law 859 = .ok (.iconst 3, 1) := by decide +kernel
theorem dL_law_860 : decode cL_law 860 = .ok (.invokevirtual 35, 3) := by decide +kernel
theorem dL_law_863 : decode cL_law 863 = .ok (.istore 11, 2) := by decide +kernel
theorem dL_law_865 : decode cL_law 865 = .ok (.iload 10, 2) := by decide +kernel
theorem dL_law_867 : decode cL_law 867 = .ok (.iconst 1, 1) := by decide +kernel
theorem dL_law_868 : decode cL_law 868 = .ok (.iadd, 1) := by decide +kernel
theorem dL_law_869 : decode cL_law 869 = .ok (.iload 9, 2) := by decide +kernel
theorem dL_law_871 : decode cL_law 871 = .ok (.if_icmp .ge 15, 3) := by decide +kernel
theorem dL_law_874 : decode cL_law 874 = .ok (.aload_n 1, 1) := by decide +kernel
theorem dL_law_875 : decode cL_law 875 = .ok (.iload 10, 2) := by decide +kernel
theorem dL_law_877 : decode cL_law 877 = .ok (.iconst 1, 1) := by decide +kernel
theorem dL_law_878 : decode cL_law 878 = .ok (.iadd, 1) := by decide +kernel
theorem dL_law_879 : decode cL_law 879 = .ok (.iconst 2, 1) := by decide +kernel
theorem dL_law_880 : decode cL_law 880 = .ok (.invokevirtual 35, 3) := by decide +kernel
theorem dL_law_883 : decode cL_law 883 = .ok (.goto 4, 3) := by decide +kernel
theorem dL_law_886 : decode cL_law 886 = .ok (.iconst 0, 1) := by decide +kernel
theorem dL_law_887 : decode cL_law 887 = .ok (.istore 12, 2) := by decide +kernel
theorem dL_law_889 : decode cL_law 889 = .ok (.aload_n 1, 1) := by decide +kernel
theorem dL_law_890 : decode cL_law 890 = .ok (.iload 10, 2) := by decide +kernel
theorem dL_law_892 : decode cL_law 892 = .ok (.invokevirtual 84, 3) := by decide +kernel
theorem dL_law_895 : decode cL_law 895 = .ok (.iload 11, 2) := by decide +kernel
theorem dL_law_897 : decode cL_law 897 = .ok (.if_icmp .ne 36, 3) := by decide +kernel
theorem dL_law_900 : decode cL_law 900 = .ok (.aload_n 1, 1) := by decide +kernel
theorem dL_law_901 : decode cL_law 901 = .ok (.iconst 2, 1) := by decide +kernel
theorem dL_law_902 : decode cL_law 902 = .ok (.invokevirtual 9, 3) := by decide +kernel
theorem dL_law_905 : decode cL_law 905 = .ok (.iload 9, 2) := by decide +kernel
theorem dL_law_907 : decode cL_law 907 = .ok (.iconst 1, 1) := by decide +kernel
theorem dL_law_908 : decode cL_law 908 = .ok (.isub, 1) := by decide +kernel
theorem dL_law_909 : decode cL_law 909 = .ok (.if_icmp .ne 24, 3) := by decide +kernel
theorem dL_law_912 : decode cL_law 912 = .ok (.iload 10, 2) := by decide +kernel
theorem dL_law_914 : decode cL_law 914 = .ok (.iconst 1, 1) := by decide +kernel
theorem dL_law_915 : decode cL_law 915 = .ok (.iadd, 1) := by decide +kernel
theorem dL_law_916 : decode cL_law 916 = .ok (.iload 9, 2) := by decide +kernel
theorem dL_law_918 : decode cL_law 918 = .ok (.if_icmp .ge 17, 3) := by decide +kernel
theorem dL_law_921 : decode cL_law 921 = .ok (.aload_n 1, 1) := by decide +kernel
theorem dL_law_922 : decode cL_law 922 = .ok (.iload 10, 2) := by decide +kernel
theorem dL_law_924 : decode cL_law 924 = .ok (.iconst 2, 1) := by decide +kernel
theorem dL_law_925 : decode cL_law 925 = .ok (.invokevirtual 35, 3) := by decide +kernel
theorem dL_law_928 : decode cL_law 928 = .ok (.iload 12, 2) := by decide +kernel
theorem dL_law_930 : decode cL_law 930 = .ok (.if_icmp .eq 5, 3) := by decide +kernel
theorem dL_law_933 : decode cL_law 933 = .ok (.iconst 0, 1) := by decide +kernel
theorem dL_law_934 : decode cL_law 934 = .ok (.ireturn, 1) := by decide +kernel
theorem dL_law_935 : decode cL_law 935 = .ok (.goto 116, 3) := by decide +kernel
theorem dL_law_938 : decode cL_law 938 = .ok (.iload 7, 2) := by decide +kernel
theorem dL_law_940 : decode cL_law 940 = .ok (.bipush 12, 2) := by decide +kernel
theorem dL_law_942 : decode cL_law 942 = .ok (.if_icmp .ge 53, 3) := by decide +kernel
theorem dL_law_945 : decode cL_law 945 = .ok (.iload 6, 2) := by decide +kernel
theorem dL_law_947 : decode cL_law 947 = .ok (.ifCond .le 48, 3) := by decide +kernel
theorem dL_law_950 : decode cL_law 950 = .ok (.iconst 0, 1) := by decide +kernel
theorem dL_law_951 : decode cL_law 951 = .ok (.istore 9, 2) := by decide +kernel
theorem dL_law_953 : decode cL_law 953 = .ok (.iload 9, 2) := by decide +kernel
theorem dL_law_955 : decode cL_law 955 = .ok (.iconst 1, 1) := by decide +kernel
theorem dL_law_956 : decode cL_law 956 = .ok (.iload 5, 2) := by decide +kernel
theorem dL_law_958 : decode cL_law 958 = .ok (.iconst 3, 1) := by decide +kernel
theorem dL_law_959 : decode cL_law 959 = .ok (.invokestatic 51, 3) := by decide +kernel
theorem dL_law_962 : decode cL_law 962 = .ok (.iadd, 1) := by decide +kernel
theorem dL_law_963 : decode cL_law 963 = .ok (.if_icmp .ge 29, 3) := by decide +kernel
theorem dL_law_966 : decode cL_law 966 = .ok (.aload_n 1, 1) := by decide +kernel
theorem dL_law_967 : decode cL_law 967 = .ok (.iconst 1, 1) := by decide +kernel
theorem dL_law_968 : decode cL_law 968 = .ok (.invokevirtual 9, 3) := by decide +kernel
theorem dL_law_971 : decode cL_law 971 = .ok (.sipush 500, 3) := by decide +kernel
theorem dL_law_974 : decode cL_law 974 = .ok (.if_icmp .ge 18, 3) := by decide +kernel
theorem dL_law_977 : decode cL_law 977 = .ok (.aload_n 1, 1) := by decide +kernel
theorem dL_law_978 : decode cL_law 978 = .ok (.invokestatic 106, 3) := by decide +kernel
theorem dL_law_981 : decode cL_law 981 = .ok (.ifCond .ne 5, 3) := by decide +kernel
theorem dL_law_984 : decode cL_law 984 = .ok (.iconst 0, 1) := by decide +kernel
theorem dL_law_985 : decode cL_law 985 = .ok (.ireturn, 1) := by decide +kernel
theorem dL_law_986 : decode cL_law 986 = .ok (.iinc 9 1, 3) := by decide +kernel
theorem dL_law_989 : decode cL_law 989 = .ok (.goto (-36), 3) := by decide +kernel
theorem dL_law_992 : decode cL_law 992 = .ok (.goto 59, 3) := by decide +kernel
theorem dL_law_995 : decode cL_law 995 = .ok (.iload 7, 2) := by decide +kernel
theorem dL_law_997 : decode cL_law 997 = .ok (.bipush 12, 2) := by decide +kernel
theorem dL_law_999 : decode cL_law 999 = .ok (.if_icmp .ne 19, 3) := by decide +kernel
theorem dL_law_1002 : decode cL_law 1002 = .ok (.iload 6, 2) := by decide +kernel
theorem dL_law_1004 : decode cL_law 1004 = .ok (.ifCond .le 14, 3) := by decide +kernel
theorem dL_law_1007 : decode cL_law 1007 = .ok (.aload_n 1, 1) := by decide +kernel
theorem dL_law_1008 : decode cL_law 1008 = .ok (.iload 5, 2) := by decide +kernel
theorem dL_law_1010 : decode cL_law 1010 = .ok (.invokestatic 109, 3) := by decide +kernel
theorem dL_law_1013 : decode cL_law 1013 = .ok (.ifCond .ne 38, 3) := by decide +kernel
theorem dL_law_1016 : decode cL_law 1016 = .ok (.iconst 0, 1) := by decide +kernel
theorem dL_law_1017 : decode cL_law 1017 = .ok (.ireturn, 1) := by decide +kernel
theorem dL_law_1018 : decode cL_law 1018 = .ok (.iload 6, 2) := by decide +kernel
theorem dL_law_1020 : decode cL_law 1020 = .ok (.ifCond .le 31, 3) := by decide +kernel
theorem dL_law_1023 : decode cL_law 1023 = .ok (.aload_n 1, 1) := by decide +kernel
theorem dL_law_1024 : decode cL_law 1024 = .ok (.iconst 1, 1) := by decide +kernel
theorem dL_law_1025 : decode cL_law 1025 = .ok (.invokevirtual 9, 3) := by decide +kernel
theorem dL_law_1028 : decode cL_law 1028 = .ok (.bipush 60, 2) := by decide +kernel
theorem dL_law_1030 : decode cL_law 1030 = .ok (.if_icmp .ge 21, 3) := by decide +kernel
theorem dL_law_1033 : decode cL_law 1033 = .ok (.aload_n 1, 1) := by decide +kernel
theorem dL_law_1034 : decode cL_law 1034 = .ok (.iconst 1, 1) := by decide +kernel
theorem dL_law_1035 : decode cL_law 1035 = .ok (.iload 5, 2) := by decide +kernel
theorem dL_law_1037 : decode cL_law 1037 = .ok (.bipush 20, 2) := by decide +kernel
theorem dL_law_1039 : decode cL_law 1039 = .ok (.invokestatic 51, 3) := by decide +kernel
theorem dL_law_1042 : decode cL_law 1042 = .ok (.iadd, 1) := by decide +kernel
theorem dL_law_1043 : decode cL_law 1043 = .ok (.invokevirtual 46, 3) := by decide +kernel
theorem dL_law_1046 : decode cL_law 1046 = .ok (.ifCond .ge 5, 3) := by decide +kernel
theorem dL_law_1049 : decode cL_law 1049 = .ok (.iconst 0, 1) := by decide +kernel
theorem dL_law_1050 : decode cL_law 1050 = .ok (.ireturn, 1) := by decide +kernel
theorem dL_law_1051 : decode cL_law 1051 = .ok (.aload_n 1, 1) := by decide +kernel
theorem dL_law_1052 : decode cL_law 1052 = .ok (.invokestatic 99, 3) := by decide +kernel
theorem dL_law_1055 : decode cL_law 1055 = .ok (.ifCond .ne 5, 3) := by decide +kernel
theorem dL_law_1058 : decode cL_law 1058 = .ok (.iconst 0, 1) := by decide +kernel
theorem dL_law_1059 : decode cL_law 1059 = .ok (.ireturn, 1) := by decide +kernel
theorem dL_law_1060 : decode cL_law 1060 = .ok (.iinc 3 1, 3) := by decide +kernel
theorem dL_law_1063 : decode cL_law 1063 = .ok (.goto (-985), 3) := by decide +kernel
theorem dL_law_1066 : decode cL_law 1066 = .ok (.aload_n 1, 1) := by decide +kernel
theorem dL_law_1067 : decode cL_law 1067 = .ok (.invokestatic 94, 3) := by decide +kernel
theorem dL_law_1070 : decode cL_law 1070 = .ok (.ifCond .eq 20, 3) := by decide +kernel
theorem dL_law_1073 : decode cL_law 1073 = .ok (.aload_n 1, 1) := by decide +kernel
theorem dL_law_1074 : decode cL_law 1074 = .ok (.aload_n 0, 1) := by decide +kernel
theorem dL_law_1075 : decode cL_law 1075 = .ok (.bipush 101, 2) := by decide +kernel
theorem dL_law_1077 : decode cL_law 1077 = .ok (.invokestatic 102, 3) := by decide +kernel
theorem dL_law_1080 : decode cL_law 1080 = .ok (.invokestatic 109, 3) := by decide +kernel
theorem dL_law_1083 : decode cL_law 1083 = .ok (.ifCond .eq 7, 3) := by decide +kernel
theorem dL_law_1086 : decode cL_law 1086 = .ok (.iconst 1, 1) := by decide +kernel
theorem dL_law_1087 : decode cL_law 1087 = .ok (.goto 4, 3) := by decide +kernel
theorem dL_law_1090 : decode cL_law 1090 = .ok (.iconst 0, 1) := by decide +kernel
theorem dL_law_1091 : decode cL_law 1091 = .ok (.ireturn, 1) := by decide +kernel
end
section
def GW : List Cond := lw_tbl.filter goodWord
theorem gw_of {w : Cond} (i : Nat) (h : lw_tbl[i]? = some w) (hg : goodWord w = true) : w ∈ GW := List.mem_filter.mpr ⟨List.mem_of_getElem? h, hg⟩
theorem gw_sub {ws : List Cond} (ps : List Nat) (hp : ws = ps.filterMap (fun i => lw_tbl[i]?)) (hg : ws.all goodWord = true) : ∀ w ∈ ws, w ∈ GW := by
  intro w hw
  have h1 := List.all_eq_true.mp hg w hw
  rw [hp] at hw
  obtain ⟨i, -, hi⟩ := List.mem_filterMap.mp hw
  exact gw_of i hi h1
theorem gw_tbl : ∀ w ∈ GW, w ∈ lw_tbl := fun w h => (List.mem_filter.mp h).1
theorem wl_0 : Cond.classLink RL 10 RX6 ∈ GW := gw_of 26 (by decide +kernel) rfl
theorem wl_1 : Cond.instantiable RX6 5 ∈ GW := gw_of 27 (by decide +kernel) rfl
theorem wl_2 : Cond.initialized RX6 ∈ GW := gw_of 16 (by decide +kernel) rfl
theorem wl_3 : Cond.constant RL 98 (-2000000002) ∈ GW := gw_of 637 (by decide +kernel) rfl
theorem wl_4 : Cond.constant RL 20 (-2000000004) ∈ GW := gw_of 592 (by decide +kernel) rfl
theorem wl_5 : Cond.constant RL 60 (-2000000003) ∈ GW := gw_of 622 (by decide +kernel) rfl
theorem wl_6 : Cond.methodLink RL 93 yX6_init ∈ GW := gw_of 28 (by decide +kernel) rfl
theorem wl_7 : Cond.instanceMethod yX6_init ∈ GW := gw_of 29 (by decide +kernel) rfl
theorem wl_8 : Cond.code yX6_init cX6_init 2 none ∈ GW := gw_of 30 (by decide +kernel) rfl
theorem wl_9 : Cond.methodLink RX6 3 objectInit ∈ GW := gw_of 31 (by decide +kernel) rfl
theorem wl_10 : Cond.instanceMethod objectInit ∈ GW := gw_of 32 (by decide +kernel) rfl
theorem wl_11 : Cond.code objectInit ⟨#[0xb1]⟩ 1 none ∈ GW := gw_of 33 (by decide +kernel) rfl
theorem wl_12 : Cond.classLink RX6 9 RX5 ∈ GW := gw_of 34 (by decide +kernel) rfl
theorem wl_13 : Cond.instantiable RX5 11 ∈ GW := gw_of 35 (by decide +kernel) rfl
theorem wl_14 : Cond.initialized RX5 ∈ GW := gw_of 17 (by decide +kernel) rfl
theorem wl_15 : Cond.fieldLink RX6 12 "IceTongue" "trial" "LIceTongue$Tongue;" ∈ GW := gw_of 240 (by decide +kernel) rfl
theorem wl_16 : Cond.fieldLink RX6 16 "IceTongue" "history" "[LIceTongue$Tongue;" ∈ GW := gw_of 241 (by decide +kernel) rfl
theorem wl_17 : Cond.classLink RX6 20 RX4 ∈ GW := gw_of 225 (by decide +kernel) rfl
theorem wl_18 : Cond.instantiable RX4 2 ∈ GW := gw_of 226 (by decide +kernel) rfl
theorem wl_19 : Cond.initialized RX4 ∈ GW := gw_of 22 (by decide +kernel) rfl
theorem wl_20 : Cond.fieldLink RX6 23 "IceTongue" "text" "LIceTongue$Text;" ∈ GW := gw_of 242 (by decide +kernel) rfl
theorem wl_21 : Cond.fieldLink RX6 27 "IceTongue" "now" "LIceTongue$Tongue;" ∈ GW := gw_of 243 (by decide +kernel) rfl
theorem wl_22 : Cond.fieldLink RX6 30 "IceTongue" "states" "I" ∈ GW := gw_of 244 (by decide +kernel) rfl
theorem wl_23 : Cond.methodLink RX6 11 yX5_init ∈ GW := gw_of 36 (by decide +kernel) rfl
theorem wl_24 : Cond.instanceMethod yX5_init ∈ GW := gw_of 37 (by decide +kernel) rfl
theorem wl_25 : Cond.code yX5_init cX5_init 2 none ∈ GW := gw_of 38 (by decide +kernel) rfl
theorem wl_26 : Cond.methodLink RX5 3 objectInit ∈ GW := gw_of 39 (by decide +kernel) rfl
theorem wl_27 : Cond.methodLink RX5 13 ⟨"[I", "clone", "()Ljava/lang/Object;"⟩ ∈ GW := gw_of 42 (by decide +kernel) rfl
theorem wl_28 : Cond.sameMethod "[I" "java/lang/Object" "clone" "()Ljava/lang/Object;" ∈ GW := gw_of 43 (by decide +kernel) rfl
theorem wl_29 : Cond.native ⟨"java/lang/Object", "clone", "()Ljava/lang/Object;"⟩ ∈ GW := gw_of 44 (by decide +kernel) rfl
theorem wl_30 : Cond.instanceMethod ⟨"java/lang/Object", "clone", "()Ljava/lang/Object;"⟩ ∈ GW := gw_of 45 (by decide +kernel) rfl
theorem wl_31 : Cond.selects "[I" ⟨"[I", "clone", "()Ljava/lang/Object;"⟩ ⟨"java/lang/Object", "clone", "()Ljava/lang/Object;"⟩ ∈ GW := gw_of 46 (by decide +kernel) rfl
theorem wl_32 : Cond.classLink RX5 14 "[I" ∈ GW := gw_of 48 (by decide +kernel) rfl
theorem wl_33 : Cond.fieldLink RX5 18 "IceTongue$Tongue" "settings" "[I" ∈ GW := gw_of 179 (by decide +kernel) rfl
theorem wl_34 : Cond.classLink RX5 23 RX0 ∈ GW := gw_of 49 (by decide +kernel) rfl
theorem wl_35 : Cond.fieldLink RX5 25 "IceTongue$Tongue" "bands" "[LIceTongue$Band;" ∈ GW := gw_of 181 (by decide +kernel) rfl
theorem wl_36 : Cond.classLink RX5 29 RX3 ∈ GW := gw_of 51 (by decide +kernel) rfl
theorem wl_37 : Cond.fieldLink RX5 31 "IceTongue$Tongue" "stakes" "[LIceTongue$Stake;" ∈ GW := gw_of 183 (by decide +kernel) rfl
theorem wl_38 : Cond.classLink RX5 35 RX1 ∈ GW := gw_of 53 (by decide +kernel) rfl
theorem wl_39 : Cond.instantiable RX1 4 ∈ GW := gw_of 54 (by decide +kernel) rfl
theorem wl_40 : Cond.initialized RX1 ∈ GW := gw_of 18 (by decide +kernel) rfl
theorem wl_41 : Cond.fieldLink RX5 38 "IceTongue$Tongue" "front" "LIceTongue$Front;" ∈ GW := gw_of 185 (by decide +kernel) rfl
theorem wl_42 : Cond.fieldLink RX5 42 "IceTongue$Tongue" "bandCount" "I" ∈ GW := gw_of 187 (by decide +kernel) rfl
theorem wl_43 : Cond.fieldLink RX5 46 "IceTongue$Tongue" "stakeCount" "I" ∈ GW := gw_of 189 (by decide +kernel) rfl
theorem wl_44 : Cond.fieldLink RX5 49 "IceTongue$Tongue" "year" "I" ∈ GW := gw_of 191 (by decide +kernel) rfl
theorem wl_45 : Cond.fieldLink RX5 52 "IceTongue$Tongue" "added" "J" ∈ GW := gw_of 193 (by decide +kernel) rfl
theorem wl_46 : Cond.fieldLink RX5 56 "IceTongue$Tongue" "snowed" "J" ∈ GW := gw_of 195 (by decide +kernel) rfl
theorem wl_47 : Cond.fieldLink RX5 59 "IceTongue$Tongue" "melted" "J" ∈ GW := gw_of 197 (by decide +kernel) rfl
theorem wl_48 : Cond.fieldLink RX5 62 "IceTongue$Tongue" "calved" "J" ∈ GW := gw_of 199 (by decide +kernel) rfl
theorem wl_49 : Cond.instantiable RX0 7 ∈ GW := gw_of 78 (by decide +kernel) rfl
theorem wl_50 : Cond.initialized RX0 ∈ GW := gw_of 19 (by decide +kernel) rfl
theorem wl_51 : Cond.instantiable RX3 6 ∈ GW := gw_of 143 (by decide +kernel) rfl
theorem wl_52 : Cond.initialized RX3 ∈ GW := gw_of 21 (by decide +kernel) rfl
theorem wl_53 : Cond.instanceMethod yX1_init ∈ GW := gw_of 56 (by decide +kernel) rfl
theorem wl_54 : Cond.code yX1_init cX1_init 1 none ∈ GW := gw_of 57 (by decide +kernel) rfl
theorem wl_55 : Cond.methodLink RX1 1 objectInit ∈ GW := gw_of 58 (by decide +kernel) rfl
theorem wl_56 : Cond.fieldLink RX1 7 "IceTongue$Front" "ice" "I" ∈ GW := gw_of 59 (by decide +kernel) rfl
theorem wl_57 : Cond.fieldLink RX1 13 "IceTongue$Front" "rest" "I" ∈ GW := gw_of 62 (by decide +kernel) rfl
theorem wl_58 : Cond.fieldLink RX1 16 "IceTongue$Front" "pieces" "I" ∈ GW := gw_of 64 (by decide +kernel) rfl
theorem wl_59 : Cond.fieldLink RX1 19 "IceTongue$Front" "latestCalving" "I" ∈ GW := gw_of 66 (by decide +kernel) rfl
theorem wl_60 : Cond.instanceMethod yX0_init ∈ GW := gw_of 80 (by decide +kernel) rfl
theorem wl_61 : Cond.code yX0_init cX0_init 1 none ∈ GW := gw_of 81 (by decide +kernel) rfl
theorem wl_62 : Cond.methodLink RX0 1 objectInit ∈ GW := gw_of 82 (by decide +kernel) rfl
theorem wl_63 : Cond.classLink RX0 7 RX2 ∈ GW := gw_of 83 (by decide +kernel) rfl
theorem wl_64 : Cond.instantiable RX2 4 ∈ GW := gw_of 84 (by decide +kernel) rfl
theorem wl_65 : Cond.initialized RX2 ∈ GW := gw_of 20 (by decide +kernel) rfl
theorem wl_66 : Cond.fieldLink RX0 10 "IceTongue$Band" "layers" "LIceTongue$Layers;" ∈ GW := gw_of 108 (by decide +kernel) rfl
theorem wl_67 : Cond.fieldLink RX0 16 "IceTongue$Band" "height" "I" ∈ GW := gw_of 111 (by decide +kernel) rfl
theorem wl_68 : Cond.fieldLink RX0 20 "IceTongue$Band" "length" "I" ∈ GW := gw_of 114 (by decide +kernel) rfl
theorem wl_69 : Cond.fieldLink RX0 23 "IceTongue$Band" "creep" "I" ∈ GW := gw_of 117 (by decide +kernel) rfl
theorem wl_70 : Cond.fieldLink RX0 26 "IceTongue$Band" "melted" "I" ∈ GW := gw_of 119 (by decide +kernel) rfl
theorem wl_71 : Cond.fieldLink RX0 29 "IceTongue$Band" "gave" "I" ∈ GW := gw_of 122 (by decide +kernel) rfl
theorem wl_72 : Cond.fieldLink RX0 32 "IceTongue$Band" "got" "I" ∈ GW := gw_of 125 (by decide +kernel) rfl
theorem wl_73 : Cond.instanceMethod yX2_init ∈ GW := gw_of 86 (by decide +kernel) rfl
theorem wl_74 : Cond.code yX2_init cX2_init 1 none ∈ GW := gw_of 87 (by decide +kernel) rfl
theorem wl_75 : Cond.methodLink RX2 3 objectInit ∈ GW := gw_of 88 (by decide +kernel) rfl
theorem wl_76 : Cond.arrayClass .int ∈ GW := gw_of 77 (by decide +kernel) rfl
theorem wl_77 : Cond.fieldLink RX2 9 "IceTongue$Layers" "left" "[I" ∈ GW := gw_of 89 (by decide +kernel) rfl
theorem wl_78 : Cond.fieldLink RX2 15 "IceTongue$Layers" "ice" "I" ∈ GW := gw_of 90 (by decide +kernel) rfl
theorem wl_79 : Cond.fieldLink RX2 19 "IceTongue$Layers" "oldest" "I" ∈ GW := gw_of 94 (by decide +kernel) rfl
theorem wl_80 : Cond.fieldLink RX2 22 "IceTongue$Layers" "latest" "I" ∈ GW := gw_of 97 (by decide +kernel) rfl
theorem wl_81 : Cond.instanceMethod yX3_init ∈ GW := gw_of 145 (by decide +kernel) rfl
theorem wl_82 : Cond.code yX3_init cX3_init 1 none ∈ GW := gw_of 146 (by decide +kernel) rfl
theorem wl_83 : Cond.methodLink RX3 3 objectInit ∈ GW := gw_of 147 (by decide +kernel) rfl
theorem wl_84 : Cond.fieldLink RX3 9 "IceTongue$Stake" "band" "I" ∈ GW := gw_of 148 (by decide +kernel) rfl
theorem wl_85 : Cond.fieldLink RX3 15 "IceTongue$Stake" "place" "I" ∈ GW := gw_of 151 (by decide +kernel) rfl
theorem wl_86 : Cond.fieldLink RX3 18 "IceTongue$Stake" "depth" "I" ∈ GW := gw_of 154 (by decide +kernel) rfl
theorem wl_87 : Cond.fieldLink RX3 21 "IceTongue$Stake" "change" "I" ∈ GW := gw_of 157 (by decide +kernel) rfl
theorem wl_88 : Cond.fieldLink RX3 24 "IceTongue$Stake" "fate" "I" ∈ GW := gw_of 160 (by decide +kernel) rfl
theorem wl_89 : Cond.fieldLink RX3 27 "IceTongue$Stake" "years" "I" ∈ GW := gw_of 163 (by decide +kernel) rfl
theorem wl_90 : Cond.instanceMethod yX4_init ∈ GW := gw_of 228 (by decide +kernel) rfl
theorem wl_91 : Cond.code yX4_init cX4_init 1 none ∈ GW := gw_of 229 (by decide +kernel) rfl
theorem wl_92 : Cond.methodLink RX4 3 objectInit ∈ GW := gw_of 230 (by decide +kernel) rfl
theorem wl_93 : Cond.arrayClass .char ∈ GW := gw_of 239 (by decide +kernel) rfl
theorem wl_94 : Cond.fieldLink RX4 9 "IceTongue$Text" "signs" "[C" ∈ GW := gw_of 231 (by decide +kernel) rfl
theorem wl_95 : Cond.fieldLink RX4 15 "IceTongue$Text" "length" "I" ∈ GW := gw_of 232 (by decide +kernel) rfl
theorem wl_96 : Cond.methodLink RL 94 yL_refuses ∈ GW := gw_of 623 (by decide +kernel) rfl
theorem wl_97 : Cond.static yL_refuses ∈ GW := gw_of 624 (by decide +kernel) rfl
theorem wl_98 : Cond.initialized RL ∈ GW := gw_of 15 (by decide +kernel) rfl
theorem wl_99 : Cond.code yL_refuses cL_refuses 5 (some .boolean) ∈ GW := gw_of 625 (by decide +kernel) rfl
theorem wl_100 : Cond.constant RL 70 (-2000000001) ∈ GW := gw_of 626 (by decide +kernel) rfl
theorem wl_101 : Cond.constant RL 75 (1000001) ∈ GW := gw_of 627 (by decide +kernel) rfl
theorem wl_102 : Cond.constantLong RL 79 (-2000000001) ∈ GW := gw_of 628 (by decide +kernel) rfl
theorem wl_103 : Cond.methodLink RL 9 yX6_count ∈ GW := gw_of 404 (by decide +kernel) rfl
theorem wl_104 : Cond.instanceMethod yX6_count ∈ GW := gw_of 405 (by decide +kernel) rfl
theorem wl_105 : Cond.selects RX6 yX6_count yX6_count ∈ GW := gw_of 406 (by decide +kernel) rfl
theorem wl_106 : Cond.code yX6_count cX6_count 2 (some .int) ∈ GW := gw_of 407 (by decide +kernel) rfl
theorem wl_107 : Cond.constant RX6 38 (-2000000001) ∈ GW := gw_of 263 (by decide +kernel) rfl
theorem wl_108 : Cond.fieldLink RX6 49 "IceTongue$Tongue" "settings" "[I" ∈ GW := gw_of 180 (by decide +kernel) rfl
theorem wl_109 : Cond.fieldLink RX6 58 "IceTongue$Tongue" "bandCount" "I" ∈ GW := gw_of 188 (by decide +kernel) rfl
theorem wl_110 : Cond.fieldLink RX6 165 "IceTongue$Tongue" "year" "I" ∈ GW := gw_of 192 (by decide +kernel) rfl
theorem wl_111 : Cond.fieldLink RX6 168 "IceTongue$Tongue" "stakeCount" "I" ∈ GW := gw_of 190 (by decide +kernel) rfl
theorem wl_112 : Cond.fieldLink RX6 180 "IceTongue$Text" "length" "I" ∈ GW := gw_of 233 (by decide +kernel) rfl
theorem wl_113 : Cond.methodLink RX6 34 yX6_isWithin ∈ GW := gw_of 260 (by decide +kernel) rfl
theorem wl_114 : Cond.static yX6_isWithin ∈ GW := gw_of 261 (by decide +kernel) rfl
theorem wl_115 : Cond.code yX6_isWithin cX6_isWithin 3 (some .boolean) ∈ GW := gw_of 262 (by decide +kernel) rfl
theorem wl_116 : Cond.methodLink RX6 171 yX5_standingStakes ∈ GW := gw_of 408 (by decide +kernel) rfl
theorem wl_117 : Cond.instanceMethod yX5_standingStakes ∈ GW := gw_of 409 (by decide +kernel) rfl
theorem wl_118 : Cond.selects RX5 yX5_standingStakes yX5_standingStakes ∈ GW := gw_of 410 (by decide +kernel) rfl
theorem wl_119 : Cond.code yX5_standingStakes cX5_standingStakes 3 (some .int) ∈ GW := gw_of 411 (by decide +kernel) rfl
theorem wl_120 : Cond.fieldLink RX5 100 "IceTongue$Stake" "fate" "I" ∈ GW := gw_of 161 (by decide +kernel) rfl
theorem wl_121 : Cond.methodLink RX6 174 yX5_layersOfAllBands ∈ GW := gw_of 412 (by decide +kernel) rfl
theorem wl_122 : Cond.instanceMethod yX5_layersOfAllBands ∈ GW := gw_of 413 (by decide +kernel) rfl
theorem wl_123 : Cond.selects RX5 yX5_layersOfAllBands yX5_layersOfAllBands ∈ GW := gw_of 414 (by decide +kernel) rfl
theorem wl_124 : Cond.code yX5_layersOfAllBands cX5_layersOfAllBands 3 (some .int) ∈ GW := gw_of 415 (by decide +kernel) rfl
theorem wl_125 : Cond.fieldLink RX5 90 "IceTongue$Band" "layers" "LIceTongue$Layers;" ∈ GW := gw_of 110 (by decide +kernel) rfl
theorem wl_126 : Cond.methodLink RX5 141 yX2_number ∈ GW := gw_of 416 (by decide +kernel) rfl
theorem wl_127 : Cond.instanceMethod yX2_number ∈ GW := gw_of 357 (by decide +kernel) rfl
theorem wl_128 : Cond.selects RX2 yX2_number yX2_number ∈ GW := gw_of 358 (by decide +kernel) rfl
theorem wl_129 : Cond.code yX2_number cX2_number 3 (some .int) ∈ GW := gw_of 359 (by decide +kernel) rfl
theorem wl_130 : Cond.methodLink RX2 56 yX2_leftOf ∈ GW := gw_of 330 (by decide +kernel) rfl
theorem wl_131 : Cond.instanceMethod yX2_leftOf ∈ GW := gw_of 331 (by decide +kernel) rfl
theorem wl_132 : Cond.selects RX2 yX2_leftOf yX2_leftOf ∈ GW := gw_of 332 (by decide +kernel) rfl
theorem wl_133 : Cond.code yX2_leftOf cX2_leftOf 2 (some .int) ∈ GW := gw_of 333 (by decide +kernel) rfl
theorem wl_134 : Cond.methodLink RX6 177 yX5_differentYears ∈ GW := gw_of 417 (by decide +kernel) rfl
theorem wl_135 : Cond.instanceMethod yX5_differentYears ∈ GW := gw_of 418 (by decide +kernel) rfl
theorem wl_136 : Cond.selects RX5 yX5_differentYears yX5_differentYears ∈ GW := gw_of 419 (by decide +kernel) rfl
theorem wl_137 : Cond.code yX5_differentYears cX5_differentYears 3 (some .int) ∈ GW := gw_of 420 (by decide +kernel) rfl
theorem wl_138 : Cond.methodLink RX5 140 yX5_leftOf ∈ GW := gw_of 399 (by decide +kernel) rfl
theorem wl_139 : Cond.instanceMethod yX5_leftOf ∈ GW := gw_of 400 (by decide +kernel) rfl
theorem wl_140 : Cond.selects RX5 yX5_leftOf yX5_leftOf ∈ GW := gw_of 401 (by decide +kernel) rfl
theorem wl_141 : Cond.code yX5_leftOf cX5_leftOf 4 (some .int) ∈ GW := gw_of 402 (by decide +kernel) rfl
theorem wl_142 : Cond.methodLink RX5 129 yX2_leftOf ∈ GW := gw_of 403 (by decide +kernel) rfl
theorem wl_143 : Cond.methodLink RL 67 yX6_set ∈ GW := gw_of 256 (by decide +kernel) rfl
theorem wl_144 : Cond.instanceMethod yX6_set ∈ GW := gw_of 257 (by decide +kernel) rfl
theorem wl_145 : Cond.selects RX6 yX6_set yX6_set ∈ GW := gw_of 258 (by decide +kernel) rfl
theorem wl_146 : Cond.code yX6_set cX6_set 4 (some .int) ∈ GW := gw_of 259 (by decide +kernel) rfl
theorem wl_147 : Cond.fieldLink RX6 39 "IceTongue" "LEAST_SETTING" "[I" ∈ GW := gw_of 264 (by decide +kernel) rfl
theorem wl_148 : Cond.fieldLink RX6 43 "IceTongue" "MOST_SETTING" "[I" ∈ GW := gw_of 266 (by decide +kernel) rfl
theorem wl_149 : Cond.methodLink RX6 46 yX6_recordState ∈ GW := gw_of 268 (by decide +kernel) rfl
theorem wl_150 : Cond.instanceMethod yX6_recordState ∈ GW := gw_of 270 (by decide +kernel) rfl
theorem wl_151 : Cond.selects RX6 yX6_recordState yX6_recordState ∈ GW := gw_of 0 (by decide +kernel) rfl
theorem wl_152 : Cond.code yX6_recordState cX6_recordState 1 none ∈ GW := gw_of 271 (by decide +kernel) rfl
theorem wl_153 : Cond.methodLink RX6 242 yX6_dropOldestState ∈ GW := gw_of 272 (by decide +kernel) rfl
theorem wl_154 : Cond.instanceMethod yX6_dropOldestState ∈ GW := gw_of 274 (by decide +kernel) rfl
theorem wl_155 : Cond.selects RX6 yX6_dropOldestState yX6_dropOldestState ∈ GW := gw_of 1 (by decide +kernel) rfl
theorem wl_156 : Cond.code yX6_dropOldestState cX6_dropOldestState 3 none ∈ GW := gw_of 275 (by decide +kernel) rfl
theorem wl_157 : Cond.methodLink RX6 223 yX5_copyFrom ∈ GW := gw_of 276 (by decide +kernel) rfl
theorem wl_158 : Cond.instanceMethod yX5_copyFrom ∈ GW := gw_of 277 (by decide +kernel) rfl
theorem wl_159 : Cond.selects RX5 yX5_copyFrom yX5_copyFrom ∈ GW := gw_of 278 (by decide +kernel) rfl
theorem wl_160 : Cond.code yX5_copyFrom cX5_copyFrom 3 none ∈ GW := gw_of 279 (by decide +kernel) rfl
theorem wl_161 : Cond.methodLink RX5 67 arraycopyName ∈ GW := gw_of 280 (by decide +kernel) rfl
theorem wl_162 : Cond.native arraycopyName ∈ GW := gw_of 282 (by decide +kernel) rfl
theorem wl_163 : Cond.static arraycopyName ∈ GW := gw_of 281 (by decide +kernel) rfl
theorem wl_164 : Cond.initialized "java/lang/System" ∈ GW := gw_of 23 (by decide +kernel) rfl
theorem wl_165 : Cond.methodLink RX5 73 yX0_copyFrom ∈ GW := gw_of 283 (by decide +kernel) rfl
theorem wl_166 : Cond.instanceMethod yX0_copyFrom ∈ GW := gw_of 284 (by decide +kernel) rfl
theorem wl_167 : Cond.selects RX0 yX0_copyFrom yX0_copyFrom ∈ GW := gw_of 285 (by decide +kernel) rfl
theorem wl_168 : Cond.code yX0_copyFrom cX0_copyFrom 2 none ∈ GW := gw_of 286 (by decide +kernel) rfl
theorem wl_169 : Cond.methodLink RX0 38 yX2_copyFrom ∈ GW := gw_of 287 (by decide +kernel) rfl
theorem wl_170 : Cond.instanceMethod yX2_copyFrom ∈ GW := gw_of 288 (by decide +kernel) rfl
theorem wl_171 : Cond.selects RX2 yX2_copyFrom yX2_copyFrom ∈ GW := gw_of 289 (by decide +kernel) rfl
theorem wl_172 : Cond.code yX2_copyFrom cX2_copyFrom 2 none ∈ GW := gw_of 290 (by decide +kernel) rfl
theorem wl_173 : Cond.methodLink RX2 25 arraycopyName ∈ GW := gw_of 291 (by decide +kernel) rfl
theorem wl_174 : Cond.methodLink RX5 77 yX3_copyFrom ∈ GW := gw_of 292 (by decide +kernel) rfl
theorem wl_175 : Cond.instanceMethod yX3_copyFrom ∈ GW := gw_of 293 (by decide +kernel) rfl
theorem wl_176 : Cond.selects RX3 yX3_copyFrom yX3_copyFrom ∈ GW := gw_of 294 (by decide +kernel) rfl
theorem wl_177 : Cond.code yX3_copyFrom cX3_copyFrom 2 none ∈ GW := gw_of 295 (by decide +kernel) rfl
theorem wl_178 : Cond.methodLink RX5 80 yX1_copyFrom ∈ GW := gw_of 296 (by decide +kernel) rfl
theorem wl_179 : Cond.instanceMethod yX1_copyFrom ∈ GW := gw_of 297 (by decide +kernel) rfl
theorem wl_180 : Cond.selects RX1 yX1_copyFrom yX1_copyFrom ∈ GW := gw_of 298 (by decide +kernel) rfl
theorem wl_181 : Cond.code yX1_copyFrom cX1_copyFrom 2 none ∈ GW := gw_of 299 (by decide +kernel) rfl
theorem wl_182 : Cond.methodLink RL 71 yX6_band ∈ GW := gw_of 300 (by decide +kernel) rfl
theorem wl_183 : Cond.instanceMethod yX6_band ∈ GW := gw_of 301 (by decide +kernel) rfl
theorem wl_184 : Cond.selects RX6 yX6_band yX6_band ∈ GW := gw_of 302 (by decide +kernel) rfl
theorem wl_185 : Cond.code yX6_band cX6_band 5 (some .int) ∈ GW := gw_of 303 (by decide +kernel) rfl
theorem wl_186 : Cond.constant RX6 52 (1000000) ∈ GW := gw_of 304 (by decide +kernel) rfl
theorem wl_187 : Cond.constant RX6 57 (-2000000002) ∈ GW := gw_of 309 (by decide +kernel) rfl
theorem wl_188 : Cond.constant RX6 61 (-2000000003) ∈ GW := gw_of 310 (by decide +kernel) rfl
theorem wl_189 : Cond.methodLink RX6 53 yX5_isBelowAll ∈ GW := gw_of 305 (by decide +kernel) rfl
theorem wl_190 : Cond.instanceMethod yX5_isBelowAll ∈ GW := gw_of 306 (by decide +kernel) rfl
theorem wl_191 : Cond.selects RX5 yX5_isBelowAll yX5_isBelowAll ∈ GW := gw_of 307 (by decide +kernel) rfl
theorem wl_192 : Cond.code yX5_isBelowAll cX5_isBelowAll 2 (some .boolean) ∈ GW := gw_of 308 (by decide +kernel) rfl
theorem wl_193 : Cond.fieldLink RX5 83 "IceTongue$Band" "height" "I" ∈ GW := gw_of 112 (by decide +kernel) rfl
theorem wl_194 : Cond.methodLink RX6 62 yX5_addBand ∈ GW := gw_of 311 (by decide +kernel) rfl
theorem wl_195 : Cond.instanceMethod yX5_addBand ∈ GW := gw_of 312 (by decide +kernel) rfl
theorem wl_196 : Cond.selects RX5 yX5_addBand yX5_addBand ∈ GW := gw_of 313 (by decide +kernel) rfl
theorem wl_197 : Cond.code yX5_addBand cX5_addBand 6 (some .int) ∈ GW := gw_of 314 (by decide +kernel) rfl
theorem wl_198 : Cond.methodLink RX5 86 yX0_begin ∈ GW := gw_of 315 (by decide +kernel) rfl
theorem wl_199 : Cond.instanceMethod yX0_begin ∈ GW := gw_of 316 (by decide +kernel) rfl
theorem wl_200 : Cond.selects RX0 yX0_begin yX0_begin ∈ GW := gw_of 317 (by decide +kernel) rfl
theorem wl_201 : Cond.code yX0_begin cX0_begin 4 none ∈ GW := gw_of 318 (by decide +kernel) rfl
theorem wl_202 : Cond.methodLink RX0 35 yX2_empty ∈ GW := gw_of 319 (by decide +kernel) rfl
theorem wl_203 : Cond.instanceMethod yX2_empty ∈ GW := gw_of 320 (by decide +kernel) rfl
theorem wl_204 : Cond.selects RX2 yX2_empty yX2_empty ∈ GW := gw_of 321 (by decide +kernel) rfl
theorem wl_205 : Cond.code yX2_empty cX2_empty 1 none ∈ GW := gw_of 322 (by decide +kernel) rfl
theorem wl_206 : Cond.methodLink RX2 31 yJ7_fill_53178 ∈ GW := gw_of 323 (by decide +kernel) rfl
theorem wl_207 : Cond.static yJ7_fill_53178 ∈ GW := gw_of 324 (by decide +kernel) rfl
theorem wl_208 : Cond.initialized RJ7 ∈ GW := gw_of 24 (by decide +kernel) rfl
theorem wl_209 : Cond.code yJ7_fill_53178 cJ7_fill_53178 4 none ∈ GW := gw_of 325 (by decide +kernel) rfl
theorem wl_210 : Cond.methodLink RX2 37 yX2_narrow ∈ GW := gw_of 326 (by decide +kernel) rfl
theorem wl_211 : Cond.instanceMethod yX2_narrow ∈ GW := gw_of 328 (by decide +kernel) rfl
theorem wl_212 : Cond.selects RX2 yX2_narrow yX2_narrow ∈ GW := gw_of 2 (by decide +kernel) rfl
theorem wl_213 : Cond.code yX2_narrow cX2_narrow 1 none ∈ GW := gw_of 329 (by decide +kernel) rfl
theorem wl_214 : Cond.methodLink RX5 94 yX2_add ∈ GW := gw_of 334 (by decide +kernel) rfl
theorem wl_215 : Cond.instanceMethod yX2_add ∈ GW := gw_of 335 (by decide +kernel) rfl
theorem wl_216 : Cond.selects RX2 yX2_add yX2_add ∈ GW := gw_of 336 (by decide +kernel) rfl
theorem wl_217 : Cond.code yX2_add cX2_add 3 none ∈ GW := gw_of 337 (by decide +kernel) rfl
theorem wl_218 : Cond.methodLink RX2 40 Lib.Math.min.name ∈ GW := gw_of 338 (by decide +kernel) rfl
theorem wl_219 : Cond.static Lib.Math.min.name ∈ GW := gw_of 339 (by decide +kernel) rfl
theorem wl_220 : Cond.initialized "java/lang/Math" ∈ GW := gw_of 25 (by decide +kernel) rfl
theorem wl_221 : Cond.code Lib.Math.min.name Lib.Math.min.code 2 (some .int) ∈ GW := gw_of 340 (by decide +kernel) rfl
theorem wl_222 : Cond.methodLink RX2 46 Lib.Math.max.name ∈ GW := gw_of 341 (by decide +kernel) rfl
theorem wl_223 : Cond.static Lib.Math.max.name ∈ GW := gw_of 342 (by decide +kernel) rfl
theorem wl_224 : Cond.code Lib.Math.max.name Lib.Math.max.code 2 (some .int) ∈ GW := gw_of 343 (by decide +kernel) rfl
theorem wl_225 : Cond.methodLink RL 76 yX6_creep ∈ GW := gw_of 344 (by decide +kernel) rfl
theorem wl_226 : Cond.instanceMethod yX6_creep ∈ GW := gw_of 345 (by decide +kernel) rfl
theorem wl_227 : Cond.selects RX6 yX6_creep yX6_creep ∈ GW := gw_of 346 (by decide +kernel) rfl
theorem wl_228 : Cond.code yX6_creep cX6_creep 4 (some .int) ∈ GW := gw_of 347 (by decide +kernel) rfl
theorem wl_229 : Cond.fieldLink RX6 69 "IceTongue$Tongue" "bands" "[LIceTongue$Band;" ∈ GW := gw_of 182 (by decide +kernel) rfl
theorem wl_230 : Cond.fieldLink RX6 73 "IceTongue$Band" "creep" "I" ∈ GW := gw_of 118 (by decide +kernel) rfl
theorem wl_231 : Cond.methodLink RX6 66 yX5_hasBand ∈ GW := gw_of 348 (by decide +kernel) rfl
theorem wl_232 : Cond.instanceMethod yX5_hasBand ∈ GW := gw_of 349 (by decide +kernel) rfl
theorem wl_233 : Cond.selects RX5 yX5_hasBand yX5_hasBand ∈ GW := gw_of 350 (by decide +kernel) rfl
theorem wl_234 : Cond.code yX5_hasBand cX5_hasBand 2 (some .boolean) ∈ GW := gw_of 351 (by decide +kernel) rfl
theorem wl_235 : Cond.methodLink RL 21 yX6_bandInfo ∈ GW := gw_of 352 (by decide +kernel) rfl
theorem wl_236 : Cond.instanceMethod yX6_bandInfo ∈ GW := gw_of 353 (by decide +kernel) rfl
theorem wl_237 : Cond.selects RX6 yX6_bandInfo yX6_bandInfo ∈ GW := gw_of 354 (by decide +kernel) rfl
theorem wl_238 : Cond.code yX6_bandInfo cX6_bandInfo 4 (some .int) ∈ GW := gw_of 355 (by decide +kernel) rfl
theorem wl_239 : Cond.fieldLink RX6 78 "IceTongue$Band" "height" "I" ∈ GW := gw_of 113 (by decide +kernel) rfl
theorem wl_240 : Cond.fieldLink RX6 81 "IceTongue$Band" "length" "I" ∈ GW := gw_of 115 (by decide +kernel) rfl
theorem wl_241 : Cond.fieldLink RX6 84 "IceTongue$Band" "layers" "LIceTongue$Layers;" ∈ GW := gw_of 109 (by decide +kernel) rfl
theorem wl_242 : Cond.fieldLink RX6 88 "IceTongue$Layers" "ice" "I" ∈ GW := gw_of 92 (by decide +kernel) rfl
theorem wl_243 : Cond.constant RX6 97 (-2000000004) ∈ GW := gw_of 360 (by decide +kernel) rfl
theorem wl_244 : Cond.fieldLink RX6 98 "IceTongue$Layers" "oldest" "I" ∈ GW := gw_of 95 (by decide +kernel) rfl
theorem wl_245 : Cond.fieldLink RX6 101 "IceTongue$Layers" "latest" "I" ∈ GW := gw_of 98 (by decide +kernel) rfl
theorem wl_246 : Cond.fieldLink RX6 112 "IceTongue$Band" "melted" "I" ∈ GW := gw_of 120 (by decide +kernel) rfl
theorem wl_247 : Cond.fieldLink RX6 115 "IceTongue$Band" "gave" "I" ∈ GW := gw_of 123 (by decide +kernel) rfl
theorem wl_248 : Cond.fieldLink RX6 118 "IceTongue$Band" "got" "I" ∈ GW := gw_of 126 (by decide +kernel) rfl
theorem wl_249 : Cond.methodLink RX6 93 yX2_number ∈ GW := gw_of 356 (by decide +kernel) rfl
theorem wl_250 : Cond.methodLink RX6 104 yX5_snowAt ∈ GW := gw_of 361 (by decide +kernel) rfl
theorem wl_251 : Cond.instanceMethod yX5_snowAt ∈ GW := gw_of 362 (by decide +kernel) rfl
theorem wl_252 : Cond.selects RX5 yX5_snowAt yX5_snowAt ∈ GW := gw_of 363 (by decide +kernel) rfl
theorem wl_253 : Cond.code yX5_snowAt cX5_snowAt 3 (some .int) ∈ GW := gw_of 364 (by decide +kernel) rfl
theorem wl_254 : Cond.methodLink RX5 119 Lib.Math.max.name ∈ GW := gw_of 368 (by decide +kernel) rfl
theorem wl_255 : Cond.methodLink RX5 113 yJ9_floorDiv_7cf53 ∈ GW := gw_of 365 (by decide +kernel) rfl
theorem wl_256 : Cond.static yJ9_floorDiv_7cf53 ∈ GW := gw_of 366 (by decide +kernel) rfl
theorem wl_257 : Cond.initialized RJ9 ∈ GW := gw_of 25 (by decide +kernel) rfl
theorem wl_258 : Cond.code yJ9_floorDiv_7cf53 cJ9_floorDiv_7cf53 3 (some .int) ∈ GW := gw_of 367 (by decide +kernel) rfl
theorem wl_259 : Cond.methodLink RX6 108 yX5_meltAt ∈ GW := gw_of 369 (by decide +kernel) rfl
theorem wl_260 : Cond.instanceMethod yX5_meltAt ∈ GW := gw_of 370 (by decide +kernel) rfl
theorem wl_261 : Cond.selects RX5 yX5_meltAt yX5_meltAt ∈ GW := gw_of 371 (by decide +kernel) rfl
theorem wl_262 : Cond.code yX5_meltAt cX5_meltAt 4 (some .int) ∈ GW := gw_of 372 (by decide +kernel) rfl
theorem wl_263 : Cond.methodLink RL 25 yX6_layer ∈ GW := gw_of 373 (by decide +kernel) rfl
theorem wl_264 : Cond.instanceMethod yX6_layer ∈ GW := gw_of 374 (by decide +kernel) rfl
theorem wl_265 : Cond.selects RX6 yX6_layer yX6_layer ∈ GW := gw_of 375 (by decide +kernel) rfl
theorem wl_266 : Cond.code yX6_layer cX6_layer 6 (some .int) ∈ GW := gw_of 376 (by decide +kernel) rfl
theorem wl_267 : Cond.methodLink RX6 121 yX2_yearOfLayer ∈ GW := gw_of 377 (by decide +kernel) rfl
theorem wl_268 : Cond.instanceMethod yX2_yearOfLayer ∈ GW := gw_of 378 (by decide +kernel) rfl
theorem wl_269 : Cond.selects RX2 yX2_yearOfLayer yX2_yearOfLayer ∈ GW := gw_of 379 (by decide +kernel) rfl
theorem wl_270 : Cond.code yX2_yearOfLayer cX2_yearOfLayer 4 (some .int) ∈ GW := gw_of 380 (by decide +kernel) rfl
theorem wl_271 : Cond.methodLink RX6 124 yX2_leftOf ∈ GW := gw_of 381 (by decide +kernel) rfl
theorem wl_272 : Cond.methodLink RL 32 yX6_ofYear ∈ GW := gw_of 597 (by decide +kernel) rfl
theorem wl_273 : Cond.instanceMethod yX6_ofYear ∈ GW := gw_of 598 (by decide +kernel) rfl
theorem wl_274 : Cond.selects RX6 yX6_ofYear yX6_ofYear ∈ GW := gw_of 599 (by decide +kernel) rfl
theorem wl_275 : Cond.code yX6_ofYear cX6_ofYear 2 (some .int) ∈ GW := gw_of 600 (by decide +kernel) rfl
theorem wl_276 : Cond.methodLink RX6 127 yX5_leftOf ∈ GW := gw_of 601 (by decide +kernel) rfl
theorem wl_277 : Cond.methodLink RL 15 yX6_front ∈ GW := gw_of 588 (by decide +kernel) rfl
theorem wl_278 : Cond.instanceMethod yX6_front ∈ GW := gw_of 589 (by decide +kernel) rfl
theorem wl_279 : Cond.selects RX6 yX6_front yX6_front ∈ GW := gw_of 590 (by decide +kernel) rfl
theorem wl_280 : Cond.code yX6_front cX6_front 2 (some .int) ∈ GW := gw_of 591 (by decide +kernel) rfl
theorem wl_281 : Cond.fieldLink RX6 128 "IceTongue$Tongue" "front" "LIceTongue$Front;" ∈ GW := gw_of 186 (by decide +kernel) rfl
theorem wl_282 : Cond.fieldLink RX6 132 "IceTongue$Front" "ice" "I" ∈ GW := gw_of 60 (by decide +kernel) rfl
theorem wl_283 : Cond.fieldLink RX6 135 "IceTongue$Front" "rest" "I" ∈ GW := gw_of 63 (by decide +kernel) rfl
theorem wl_284 : Cond.fieldLink RX6 138 "IceTongue$Front" "pieces" "I" ∈ GW := gw_of 65 (by decide +kernel) rfl
theorem wl_285 : Cond.fieldLink RX6 141 "IceTongue$Front" "latestCalving" "I" ∈ GW := gw_of 67 (by decide +kernel) rfl
theorem wl_286 : Cond.methodLink RL 38 yX6_account ∈ GW := gw_of 382 (by decide +kernel) rfl
theorem wl_287 : Cond.instanceMethod yX6_account ∈ GW := gw_of 383 (by decide +kernel) rfl
theorem wl_288 : Cond.selects RX6 yX6_account yX6_account ∈ GW := gw_of 384 (by decide +kernel) rfl
theorem wl_289 : Cond.code yX6_account cX6_account 2 (some .long) ∈ GW := gw_of 385 (by decide +kernel) rfl
theorem wl_290 : Cond.constantLong RX6 144 (-2000000001) ∈ GW := gw_of 386 (by decide +kernel) rfl
theorem wl_291 : Cond.fieldLink RX6 146 "IceTongue$Tongue" "added" "J" ∈ GW := gw_of 194 (by decide +kernel) rfl
theorem wl_292 : Cond.fieldLink RX6 150 "IceTongue$Tongue" "snowed" "J" ∈ GW := gw_of 196 (by decide +kernel) rfl
theorem wl_293 : Cond.fieldLink RX6 153 "IceTongue$Tongue" "melted" "J" ∈ GW := gw_of 198 (by decide +kernel) rfl
theorem wl_294 : Cond.fieldLink RX6 155 "IceTongue$Tongue" "calved" "J" ∈ GW := gw_of 200 (by decide +kernel) rfl
theorem wl_295 : Cond.methodLink RX6 158 yX5_allIce ∈ GW := gw_of 387 (by decide +kernel) rfl
theorem wl_296 : Cond.instanceMethod yX5_allIce ∈ GW := gw_of 388 (by decide +kernel) rfl
theorem wl_297 : Cond.selects RX5 yX5_allIce yX5_allIce ∈ GW := gw_of 389 (by decide +kernel) rfl
theorem wl_298 : Cond.code yX5_allIce cX5_allIce 1 (some .long) ∈ GW := gw_of 390 (by decide +kernel) rfl
theorem wl_299 : Cond.fieldLink RX5 139 "IceTongue$Front" "ice" "I" ∈ GW := gw_of 61 (by decide +kernel) rfl
theorem wl_300 : Cond.methodLink RX5 135 yX5_bandIce ∈ GW := gw_of 391 (by decide +kernel) rfl
theorem wl_301 : Cond.instanceMethod yX5_bandIce ∈ GW := gw_of 392 (by decide +kernel) rfl
theorem wl_302 : Cond.selects RX5 yX5_bandIce yX5_bandIce ∈ GW := gw_of 393 (by decide +kernel) rfl
theorem wl_303 : Cond.code yX5_bandIce cX5_bandIce 3 (some .int) ∈ GW := gw_of 394 (by decide +kernel) rfl
theorem wl_304 : Cond.fieldLink RX5 132 "IceTongue$Layers" "ice" "I" ∈ GW := gw_of 93 (by decide +kernel) rfl
theorem wl_305 : Cond.methodLink RX6 162 yX5_allIceByYears ∈ GW := gw_of 395 (by decide +kernel) rfl
theorem wl_306 : Cond.instanceMethod yX5_allIceByYears ∈ GW := gw_of 396 (by decide +kernel) rfl
theorem wl_307 : Cond.selects RX5 yX5_allIceByYears yX5_allIceByYears ∈ GW := gw_of 397 (by decide +kernel) rfl
theorem wl_308 : Cond.code yX5_allIceByYears cX5_allIceByYears 4 (some .long) ∈ GW := gw_of 398 (by decide +kernel) rfl
theorem wl_309 : Cond.methodLink RL 81 yX6_stake ∈ GW := gw_of 421 (by decide +kernel) rfl
theorem wl_310 : Cond.instanceMethod yX6_stake ∈ GW := gw_of 422 (by decide +kernel) rfl
theorem wl_311 : Cond.selects RX6 yX6_stake yX6_stake ∈ GW := gw_of 423 (by decide +kernel) rfl
theorem wl_312 : Cond.code yX6_stake cX6_stake 4 (some .int) ∈ GW := gw_of 424 (by decide +kernel) rfl
theorem wl_313 : Cond.methodLink RX6 181 yX5_isStakeAt ∈ GW := gw_of 425 (by decide +kernel) rfl
theorem wl_314 : Cond.instanceMethod yX5_isStakeAt ∈ GW := gw_of 426 (by decide +kernel) rfl
theorem wl_315 : Cond.selects RX5 yX5_isStakeAt yX5_isStakeAt ∈ GW := gw_of 427 (by decide +kernel) rfl
theorem wl_316 : Cond.code yX5_isStakeAt cX5_isStakeAt 4 (some .boolean) ∈ GW := gw_of 428 (by decide +kernel) rfl
theorem wl_317 : Cond.fieldLink RX5 103 "IceTongue$Stake" "band" "I" ∈ GW := gw_of 149 (by decide +kernel) rfl
theorem wl_318 : Cond.fieldLink RX5 106 "IceTongue$Stake" "place" "I" ∈ GW := gw_of 152 (by decide +kernel) rfl
theorem wl_319 : Cond.methodLink RX6 185 yX5_addStake ∈ GW := gw_of 429 (by decide +kernel) rfl
theorem wl_320 : Cond.instanceMethod yX5_addStake ∈ GW := gw_of 430 (by decide +kernel) rfl
theorem wl_321 : Cond.selects RX5 yX5_addStake yX5_addStake ∈ GW := gw_of 431 (by decide +kernel) rfl
theorem wl_322 : Cond.code yX5_addStake cX5_addStake 5 (some .int) ∈ GW := gw_of 432 (by decide +kernel) rfl
theorem wl_323 : Cond.methodLink RX5 109 yX3_begin ∈ GW := gw_of 433 (by decide +kernel) rfl
theorem wl_324 : Cond.instanceMethod yX3_begin ∈ GW := gw_of 434 (by decide +kernel) rfl
theorem wl_325 : Cond.selects RX3 yX3_begin yX3_begin ∈ GW := gw_of 435 (by decide +kernel) rfl
theorem wl_326 : Cond.code yX3_begin cX3_begin 4 none ∈ GW := gw_of 436 (by decide +kernel) rfl
theorem wl_327 : Cond.methodLink RL 84 yX6_pull ∈ GW := gw_of 437 (by decide +kernel) rfl
theorem wl_328 : Cond.instanceMethod yX6_pull ∈ GW := gw_of 438 (by decide +kernel) rfl
theorem wl_329 : Cond.selects RX6 yX6_pull yX6_pull ∈ GW := gw_of 439 (by decide +kernel) rfl
theorem wl_330 : Cond.code yX6_pull cX6_pull 2 (some .int) ∈ GW := gw_of 440 (by decide +kernel) rfl
theorem wl_331 : Cond.methodLink RX6 189 yX5_hasStake ∈ GW := gw_of 441 (by decide +kernel) rfl
theorem wl_332 : Cond.instanceMethod yX5_hasStake ∈ GW := gw_of 442 (by decide +kernel) rfl
theorem wl_333 : Cond.selects RX5 yX5_hasStake yX5_hasStake ∈ GW := gw_of 443 (by decide +kernel) rfl
theorem wl_334 : Cond.code yX5_hasStake cX5_hasStake 2 (some .boolean) ∈ GW := gw_of 444 (by decide +kernel) rfl
theorem wl_335 : Cond.methodLink RX6 192 yX5_removeStake ∈ GW := gw_of 445 (by decide +kernel) rfl
theorem wl_336 : Cond.instanceMethod yX5_removeStake ∈ GW := gw_of 446 (by decide +kernel) rfl
theorem wl_337 : Cond.selects RX5 yX5_removeStake yX5_removeStake ∈ GW := gw_of 447 (by decide +kernel) rfl
theorem wl_338 : Cond.code yX5_removeStake cX5_removeStake 4 (some .int) ∈ GW := gw_of 448 (by decide +kernel) rfl
theorem wl_339 : Cond.fieldLink RX5 110 "IceTongue$Stake" "change" "I" ∈ GW := gw_of 158 (by decide +kernel) rfl
theorem wl_340 : Cond.methodLink RL 35 yX6_stakeInfo ∈ GW := gw_of 449 (by decide +kernel) rfl
theorem wl_341 : Cond.instanceMethod yX6_stakeInfo ∈ GW := gw_of 450 (by decide +kernel) rfl
theorem wl_342 : Cond.selects RX6 yX6_stakeInfo yX6_stakeInfo ∈ GW := gw_of 451 (by decide +kernel) rfl
theorem wl_343 : Cond.code yX6_stakeInfo cX6_stakeInfo 4 (some .int) ∈ GW := gw_of 452 (by decide +kernel) rfl
theorem wl_344 : Cond.fieldLink RX6 195 "IceTongue$Tongue" "stakes" "[LIceTongue$Stake;" ∈ GW := gw_of 184 (by decide +kernel) rfl
theorem wl_345 : Cond.fieldLink RX6 199 "IceTongue$Stake" "band" "I" ∈ GW := gw_of 150 (by decide +kernel) rfl
theorem wl_346 : Cond.fieldLink RX6 204 "IceTongue$Stake" "place" "I" ∈ GW := gw_of 153 (by decide +kernel) rfl
theorem wl_347 : Cond.fieldLink RX6 207 "IceTongue$Stake" "depth" "I" ∈ GW := gw_of 155 (by decide +kernel) rfl
theorem wl_348 : Cond.fieldLink RX6 210 "IceTongue$Stake" "change" "I" ∈ GW := gw_of 159 (by decide +kernel) rfl
theorem wl_349 : Cond.fieldLink RX6 213 "IceTongue$Stake" "fate" "I" ∈ GW := gw_of 162 (by decide +kernel) rfl
theorem wl_350 : Cond.fieldLink RX6 216 "IceTongue$Stake" "years" "I" ∈ GW := gw_of 164 (by decide +kernel) rfl
theorem wl_351 : Cond.methodLink RL 29 yX6_stakesIn ∈ GW := gw_of 593 (by decide +kernel) rfl
theorem wl_352 : Cond.instanceMethod yX6_stakesIn ∈ GW := gw_of 594 (by decide +kernel) rfl
theorem wl_353 : Cond.selects RX6 yX6_stakesIn yX6_stakesIn ∈ GW := gw_of 595 (by decide +kernel) rfl
theorem wl_354 : Cond.code yX6_stakesIn cX6_stakesIn 4 (some .int) ∈ GW := gw_of 596 (by decide +kernel) rfl
theorem wl_355 : Cond.methodLink RL 46 yX6_years ∈ GW := gw_of 453 (by decide +kernel) rfl
theorem wl_356 : Cond.instanceMethod yX6_years ∈ GW := gw_of 454 (by decide +kernel) rfl
theorem wl_357 : Cond.selects RX6 yX6_years yX6_years ∈ GW := gw_of 455 (by decide +kernel) rfl
theorem wl_358 : Cond.code yX6_years cX6_years 3 (some .int) ∈ GW := gw_of 456 (by decide +kernel) rfl
theorem wl_359 : Cond.methodLink RX6 219 yX5_letYearsGoBy ∈ GW := gw_of 457 (by decide +kernel) rfl
theorem wl_360 : Cond.instanceMethod yX5_letYearsGoBy ∈ GW := gw_of 458 (by decide +kernel) rfl
theorem wl_361 : Cond.selects RX5 yX5_letYearsGoBy yX5_letYearsGoBy ∈ GW := gw_of 459 (by decide +kernel) rfl
theorem wl_362 : Cond.code yX5_letYearsGoBy cX5_letYearsGoBy 3 none ∈ GW := gw_of 460 (by decide +kernel) rfl
theorem wl_363 : Cond.methodLink RX5 150 yX5_letYearGoBy ∈ GW := gw_of 461 (by decide +kernel) rfl
theorem wl_364 : Cond.instanceMethod yX5_letYearGoBy ∈ GW := gw_of 462 (by decide +kernel) rfl
theorem wl_365 : Cond.selects RX5 yX5_letYearGoBy yX5_letYearGoBy ∈ GW := gw_of 463 (by decide +kernel) rfl
theorem wl_366 : Cond.code yX5_letYearGoBy cX5_letYearGoBy 2 none ∈ GW := gw_of 464 (by decide +kernel) rfl
theorem wl_367 : Cond.methodLink RX5 153 yX5_snowAndMelt ∈ GW := gw_of 465 (by decide +kernel) rfl
theorem wl_368 : Cond.instanceMethod yX5_snowAndMelt ∈ GW := gw_of 467 (by decide +kernel) rfl
theorem wl_369 : Cond.selects RX5 yX5_snowAndMelt yX5_snowAndMelt ∈ GW := gw_of 3 (by decide +kernel) rfl
theorem wl_370 : Cond.code yX5_snowAndMelt cX5_snowAndMelt 3 none ∈ GW := gw_of 468 (by decide +kernel) rfl
theorem wl_371 : Cond.fieldLink RX5 169 "IceTongue$Band" "melted" "I" ∈ GW := gw_of 121 (by decide +kernel) rfl
theorem wl_372 : Cond.methodLink RX5 122 yX5_snowAt ∈ GW := gw_of 469 (by decide +kernel) rfl
theorem wl_373 : Cond.methodLink RX5 126 yX5_meltAt ∈ GW := gw_of 470 (by decide +kernel) rfl
theorem wl_374 : Cond.methodLink RX5 166 yX2_takeFromLatest ∈ GW := gw_of 471 (by decide +kernel) rfl
theorem wl_375 : Cond.instanceMethod yX2_takeFromLatest ∈ GW := gw_of 472 (by decide +kernel) rfl
theorem wl_376 : Cond.selects RX2 yX2_takeFromLatest yX2_takeFromLatest ∈ GW := gw_of 473 (by decide +kernel) rfl
theorem wl_377 : Cond.code yX2_takeFromLatest cX2_takeFromLatest 5 (some .int) ∈ GW := gw_of 474 (by decide +kernel) rfl
theorem wl_378 : Cond.methodLink RX2 49 yX2_takeOfYear ∈ GW := gw_of 475 (by decide +kernel) rfl
theorem wl_379 : Cond.instanceMethod yX2_takeOfYear ∈ GW := gw_of 477 (by decide +kernel) rfl
theorem wl_380 : Cond.selects RX2 yX2_takeOfYear yX2_takeOfYear ∈ GW := gw_of 4 (by decide +kernel) rfl
theorem wl_381 : Cond.code yX2_takeOfYear cX2_takeOfYear 4 (some .int) ∈ GW := gw_of 478 (by decide +kernel) rfl
theorem wl_382 : Cond.methodLink RX5 156 yX5_creepDown ∈ GW := gw_of 479 (by decide +kernel) rfl
theorem wl_383 : Cond.instanceMethod yX5_creepDown ∈ GW := gw_of 481 (by decide +kernel) rfl
theorem wl_384 : Cond.selects RX5 yX5_creepDown yX5_creepDown ∈ GW := gw_of 5 (by decide +kernel) rfl
theorem wl_385 : Cond.code yX5_creepDown cX5_creepDown 3 none ∈ GW := gw_of 482 (by decide +kernel) rfl
theorem wl_386 : Cond.fieldLink RX5 174 "IceTongue$Band" "gave" "I" ∈ GW := gw_of 124 (by decide +kernel) rfl
theorem wl_387 : Cond.fieldLink RX5 181 "IceTongue$Band" "got" "I" ∈ GW := gw_of 127 (by decide +kernel) rfl
theorem wl_388 : Cond.methodLink RX5 171 yX0_iceToGive ∈ GW := gw_of 483 (by decide +kernel) rfl
theorem wl_389 : Cond.instanceMethod yX0_iceToGive ∈ GW := gw_of 484 (by decide +kernel) rfl
theorem wl_390 : Cond.selects RX0 yX0_iceToGive yX0_iceToGive ∈ GW := gw_of 485 (by decide +kernel) rfl
theorem wl_391 : Cond.code yX0_iceToGive cX0_iceToGive 1 (some .int) ∈ GW := gw_of 486 (by decide +kernel) rfl
theorem wl_392 : Cond.fieldLink RX0 42 "IceTongue$Layers" "ice" "I" ∈ GW := gw_of 91 (by decide +kernel) rfl
theorem wl_393 : Cond.constantLong RX0 45 (1000) ∈ GW := gw_of 487 (by decide +kernel) rfl
theorem wl_394 : Cond.methodLink RX5 177 yX2_giveFromOldest ∈ GW := gw_of 488 (by decide +kernel) rfl
theorem wl_395 : Cond.instanceMethod yX2_giveFromOldest ∈ GW := gw_of 489 (by decide +kernel) rfl
theorem wl_396 : Cond.selects RX2 yX2_giveFromOldest yX2_giveFromOldest ∈ GW := gw_of 490 (by decide +kernel) rfl
theorem wl_397 : Cond.code yX2_giveFromOldest cX2_giveFromOldest 6 none ∈ GW := gw_of 491 (by decide +kernel) rfl
theorem wl_398 : Cond.methodLink RX2 52 yX2_add ∈ GW := gw_of 492 (by decide +kernel) rfl
theorem wl_399 : Cond.methodLink RX5 159 yX1_calve ∈ GW := gw_of 493 (by decide +kernel) rfl
theorem wl_400 : Cond.instanceMethod yX1_calve ∈ GW := gw_of 494 (by decide +kernel) rfl
theorem wl_401 : Cond.selects RX1 yX1_calve yX1_calve ∈ GW := gw_of 495 (by decide +kernel) rfl
theorem wl_402 : Cond.code yX1_calve cX1_calve 5 (some .int) ∈ GW := gw_of 496 (by decide +kernel) rfl
theorem wl_403 : Cond.methodLink RX5 163 yX5_ride ∈ GW := gw_of 497 (by decide +kernel) rfl
theorem wl_404 : Cond.instanceMethod yX5_ride ∈ GW := gw_of 499 (by decide +kernel) rfl
theorem wl_405 : Cond.selects RX5 yX5_ride yX5_ride ∈ GW := gw_of 6 (by decide +kernel) rfl
theorem wl_406 : Cond.code yX5_ride cX5_ride 3 none ∈ GW := gw_of 500 (by decide +kernel) rfl
theorem wl_407 : Cond.fieldLink RX5 188 "IceTongue$Stake" "years" "I" ∈ GW := gw_of 165 (by decide +kernel) rfl
theorem wl_408 : Cond.fieldLink RX5 191 "IceTongue$Stake" "depth" "I" ∈ GW := gw_of 156 (by decide +kernel) rfl
theorem wl_409 : Cond.methodLink RX5 184 yX5_hasBand ∈ GW := gw_of 501 (by decide +kernel) rfl
theorem wl_410 : Cond.methodLink RX5 194 yX0_way ∈ GW := gw_of 502 (by decide +kernel) rfl
theorem wl_411 : Cond.instanceMethod yX0_way ∈ GW := gw_of 503 (by decide +kernel) rfl
theorem wl_412 : Cond.selects RX0 yX0_way yX0_way ∈ GW := gw_of 504 (by decide +kernel) rfl
theorem wl_413 : Cond.code yX0_way cX0_way 1 (some .int) ∈ GW := gw_of 505 (by decide +kernel) rfl
theorem wl_414 : Cond.methodLink RX5 197 yX5_moveDown ∈ GW := gw_of 506 (by decide +kernel) rfl
theorem wl_415 : Cond.instanceMethod yX5_moveDown ∈ GW := gw_of 508 (by decide +kernel) rfl
theorem wl_416 : Cond.selects RX5 yX5_moveDown yX5_moveDown ∈ GW := gw_of 7 (by decide +kernel) rfl
theorem wl_417 : Cond.code yX5_moveDown cX5_moveDown 5 none ∈ GW := gw_of 509 (by decide +kernel) rfl
theorem wl_418 : Cond.fieldLink RX5 201 "IceTongue$Band" "length" "I" ∈ GW := gw_of 116 (by decide +kernel) rfl
theorem wl_419 : Cond.methodLink RL 54 yX6_ifYears ∈ GW := gw_of 613 (by decide +kernel) rfl
theorem wl_420 : Cond.instanceMethod yX6_ifYears ∈ GW := gw_of 614 (by decide +kernel) rfl
theorem wl_421 : Cond.selects RX6 yX6_ifYears yX6_ifYears ∈ GW := gw_of 615 (by decide +kernel) rfl
theorem wl_422 : Cond.code yX6_ifYears cX6_ifYears 3 (some .int) ∈ GW := gw_of 616 (by decide +kernel) rfl
theorem wl_423 : Cond.methodLink RX6 227 yX5_bandIce ∈ GW := gw_of 519 (by decide +kernel) rfl
theorem wl_424 : Cond.methodLink RX6 230 yX5_oldestYear ∈ GW := gw_of 617 (by decide +kernel) rfl
theorem wl_425 : Cond.instanceMethod yX5_oldestYear ∈ GW := gw_of 618 (by decide +kernel) rfl
theorem wl_426 : Cond.selects RX5 yX5_oldestYear yX5_oldestYear ∈ GW := gw_of 619 (by decide +kernel) rfl
theorem wl_427 : Cond.code yX5_oldestYear cX5_oldestYear 3 (some .int) ∈ GW := gw_of 620 (by decide +kernel) rfl
theorem wl_428 : Cond.fieldLink RX5 144 "IceTongue$Layers" "oldest" "I" ∈ GW := gw_of 96 (by decide +kernel) rfl
theorem wl_429 : Cond.methodLink RX5 147 Lib.Math.min.name ∈ GW := gw_of 621 (by decide +kernel) rfl
theorem wl_430 : Cond.methodLink RL 57 yX6_yearsTo ∈ GW := gw_of 510 (by decide +kernel) rfl
theorem wl_431 : Cond.instanceMethod yX6_yearsTo ∈ GW := gw_of 511 (by decide +kernel) rfl
theorem wl_432 : Cond.selects RX6 yX6_yearsTo yX6_yearsTo ∈ GW := gw_of 512 (by decide +kernel) rfl
theorem wl_433 : Cond.code yX6_yearsTo cX6_yearsTo 4 (some .int) ∈ GW := gw_of 513 (by decide +kernel) rfl
theorem wl_434 : Cond.methodLink RX6 233 yX5_letYearGoBy ∈ GW := gw_of 514 (by decide +kernel) rfl
theorem wl_435 : Cond.methodLink RX6 236 yX6_isSoInTrial ∈ GW := gw_of 515 (by decide +kernel) rfl
theorem wl_436 : Cond.instanceMethod yX6_isSoInTrial ∈ GW := gw_of 517 (by decide +kernel) rfl
theorem wl_437 : Cond.selects RX6 yX6_isSoInTrial yX6_isSoInTrial ∈ GW := gw_of 8 (by decide +kernel) rfl
theorem wl_438 : Cond.code yX6_isSoInTrial cX6_isSoInTrial 3 (some .boolean) ∈ GW := gw_of 518 (by decide +kernel) rfl
theorem wl_439 : Cond.methodLink RL 87 yX6_type ∈ GW := gw_of 629 (by decide +kernel) rfl
theorem wl_440 : Cond.instanceMethod yX6_type ∈ GW := gw_of 630 (by decide +kernel) rfl
theorem wl_441 : Cond.selects RX6 yX6_type yX6_type ∈ GW := gw_of 631 (by decide +kernel) rfl
theorem wl_442 : Cond.code yX6_type cX6_type 2 (some .int) ∈ GW := gw_of 632 (by decide +kernel) rfl
theorem wl_443 : Cond.methodLink RX6 245 yX4_append ∈ GW := gw_of 633 (by decide +kernel) rfl
theorem wl_444 : Cond.instanceMethod yX4_append ∈ GW := gw_of 634 (by decide +kernel) rfl
theorem wl_445 : Cond.selects RX4 yX4_append yX4_append ∈ GW := gw_of 635 (by decide +kernel) rfl
theorem wl_446 : Cond.code yX4_append cX4_append 2 none ∈ GW := gw_of 636 (by decide +kernel) rfl
theorem wl_447 : Cond.methodLink RL 90 yX6_fault ∈ GW := gw_of 532 (by decide +kernel) rfl
theorem wl_448 : Cond.instanceMethod yX6_fault ∈ GW := gw_of 533 (by decide +kernel) rfl
theorem wl_449 : Cond.selects RX6 yX6_fault yX6_fault ∈ GW := gw_of 534 (by decide +kernel) rfl
theorem wl_450 : Cond.code yX6_fault cX6_fault 4 (some .int) ∈ GW := gw_of 535 (by decide +kernel) rfl
theorem wl_451 : Cond.methodLink RX6 249 yX6_possibleYears ∈ GW := gw_of 536 (by decide +kernel) rfl
theorem wl_452 : Cond.instanceMethod yX6_possibleYears ∈ GW := gw_of 538 (by decide +kernel) rfl
theorem wl_453 : Cond.selects RX6 yX6_possibleYears yX6_possibleYears ∈ GW := gw_of 9 (by decide +kernel) rfl
theorem wl_454 : Cond.code yX6_possibleYears cX6_possibleYears 3 (some .int) ∈ GW := gw_of 539 (by decide +kernel) rfl
theorem wl_455 : Cond.methodLink RX6 255 yX6_reasonAt ∈ GW := gw_of 540 (by decide +kernel) rfl
theorem wl_456 : Cond.instanceMethod yX6_reasonAt ∈ GW := gw_of 542 (by decide +kernel) rfl
theorem wl_457 : Cond.selects RX6 yX6_reasonAt yX6_reasonAt ∈ GW := gw_of 10 (by decide +kernel) rfl
theorem wl_458 : Cond.code yX6_reasonAt cX6_reasonAt 3 (some .int) ∈ GW := gw_of 543 (by decide +kernel) rfl
theorem wl_459 : Cond.methodLink RX6 264 yX4_endOfYear ∈ GW := gw_of 544 (by decide +kernel) rfl
theorem wl_460 : Cond.instanceMethod yX4_endOfYear ∈ GW := gw_of 545 (by decide +kernel) rfl
theorem wl_461 : Cond.selects RX4 yX4_endOfYear yX4_endOfYear ∈ GW := gw_of 546 (by decide +kernel) rfl
theorem wl_462 : Cond.code yX4_endOfYear cX4_endOfYear 4 (some .int) ∈ GW := gw_of 547 (by decide +kernel) rfl
theorem wl_463 : Cond.methodLink RX4 23 yX4_endOfNumber ∈ GW := gw_of 548 (by decide +kernel) rfl
theorem wl_464 : Cond.instanceMethod yX4_endOfNumber ∈ GW := gw_of 550 (by decide +kernel) rfl
theorem wl_465 : Cond.selects RX4 yX4_endOfNumber yX4_endOfNumber ∈ GW := gw_of 11 (by decide +kernel) rfl
theorem wl_466 : Cond.code yX4_endOfNumber cX4_endOfNumber 3 (some .int) ∈ GW := gw_of 551 (by decide +kernel) rfl
theorem wl_467 : Cond.methodLink RX4 19 yX4_isDigitAt ∈ GW := gw_of 552 (by decide +kernel) rfl
theorem wl_468 : Cond.instanceMethod yX4_isDigitAt ∈ GW := gw_of 554 (by decide +kernel) rfl
theorem wl_469 : Cond.selects RX4 yX4_isDigitAt yX4_isDigitAt ∈ GW := gw_of 12 (by decide +kernel) rfl
theorem wl_470 : Cond.code yX4_isDigitAt cX4_isDigitAt 2 (some .boolean) ∈ GW := gw_of 555 (by decide +kernel) rfl
theorem wl_471 : Cond.methodLink RX4 27 yX4_isSignAt ∈ GW := gw_of 556 (by decide +kernel) rfl
theorem wl_472 : Cond.instanceMethod yX4_isSignAt ∈ GW := gw_of 558 (by decide +kernel) rfl
theorem wl_473 : Cond.selects RX4 yX4_isSignAt yX4_isSignAt ∈ GW := gw_of 13 (by decide +kernel) rfl
theorem wl_474 : Cond.code yX4_isSignAt cX4_isSignAt 3 (some .boolean) ∈ GW := gw_of 559 (by decide +kernel) rfl
theorem wl_475 : Cond.methodLink RX6 258 yX4_snowOfYear ∈ GW := gw_of 560 (by decide +kernel) rfl
theorem wl_476 : Cond.instanceMethod yX4_snowOfYear ∈ GW := gw_of 561 (by decide +kernel) rfl
theorem wl_477 : Cond.selects RX4 yX4_snowOfYear yX4_snowOfYear ∈ GW := gw_of 562 (by decide +kernel) rfl
theorem wl_478 : Cond.code yX4_snowOfYear cX4_snowOfYear 2 (some .int) ∈ GW := gw_of 563 (by decide +kernel) rfl
theorem wl_479 : Cond.methodLink RX4 31 yX4_numberAt ∈ GW := gw_of 564 (by decide +kernel) rfl
theorem wl_480 : Cond.instanceMethod yX4_numberAt ∈ GW := gw_of 566 (by decide +kernel) rfl
theorem wl_481 : Cond.selects RX4 yX4_numberAt yX4_numberAt ∈ GW := gw_of 14 (by decide +kernel) rfl
theorem wl_482 : Cond.code yX4_numberAt cX4_numberAt 5 (some .int) ∈ GW := gw_of 567 (by decide +kernel) rfl
theorem wl_483 : Cond.methodLink RX6 261 yX4_meltOfYear ∈ GW := gw_of 568 (by decide +kernel) rfl
theorem wl_484 : Cond.instanceMethod yX4_meltOfYear ∈ GW := gw_of 569 (by decide +kernel) rfl
theorem wl_485 : Cond.selects RX4 yX4_meltOfYear yX4_meltOfYear ∈ GW := gw_of 570 (by decide +kernel) rfl
theorem wl_486 : Cond.code yX4_meltOfYear cX4_meltOfYear 2 (some .int) ∈ GW := gw_of 571 (by decide +kernel) rfl
theorem wl_487 : Cond.methodLink RX6 252 yX4_startOfYear ∈ GW := gw_of 572 (by decide +kernel) rfl
theorem wl_488 : Cond.instanceMethod yX4_startOfYear ∈ GW := gw_of 573 (by decide +kernel) rfl
theorem wl_489 : Cond.selects RX4 yX4_startOfYear yX4_startOfYear ∈ GW := gw_of 574 (by decide +kernel) rfl
theorem wl_490 : Cond.code yX4_startOfYear cX4_startOfYear 4 (some .int) ∈ GW := gw_of 575 (by decide +kernel) rfl
theorem wl_491 : Cond.methodLink RX4 34 yX4_endOfYear ∈ GW := gw_of 576 (by decide +kernel) rfl
theorem wl_492 : Cond.methodLink RL 61 yX6_undo ∈ GW := gw_of 528 (by decide +kernel) rfl
theorem wl_493 : Cond.instanceMethod yX6_undo ∈ GW := gw_of 529 (by decide +kernel) rfl
theorem wl_494 : Cond.selects RX6 yX6_undo yX6_undo ∈ GW := gw_of 530 (by decide +kernel) rfl
theorem wl_495 : Cond.code yX6_undo cX6_undo 2 (some .int) ∈ GW := gw_of 531 (by decide +kernel) rfl
theorem wl_496 : Cond.methodLink RL 99 yL_sound ∈ GW := gw_of 585 (by decide +kernel) rfl
theorem wl_497 : Cond.static yL_sound ∈ GW := gw_of 586 (by decide +kernel) rfl
set_option maxRecDepth 100000 in
theorem wl_498 : Cond.code yL_sound cL_sound 14 (some .boolean) ∈ GW := gw_of 587 rfl rfl
theorem wl_499 : Cond.methodLink RL 42 yX6_line ∈ GW := gw_of 602 (by decide +kernel) rfl
theorem wl_500 : Cond.instanceMethod yX6_line ∈ GW := gw_of 603 (by decide +kernel) rfl
theorem wl_501 : Cond.selects RX6 yX6_line yX6_line ∈ GW := gw_of 604 (by decide +kernel) rfl
theorem wl_502 : Cond.code yX6_line cX6_line 3 (some .int) ∈ GW := gw_of 605 (by decide +kernel) rfl
theorem wl_503 : Cond.methodLink RL 64 yX6_steadyMelt ∈ GW := gw_of 520 (by decide +kernel) rfl
theorem wl_504 : Cond.instanceMethod yX6_steadyMelt ∈ GW := gw_of 521 (by decide +kernel) rfl
theorem wl_505 : Cond.selects RX6 yX6_steadyMelt yX6_steadyMelt ∈ GW := gw_of 522 (by decide +kernel) rfl
theorem wl_506 : Cond.code yX6_steadyMelt cX6_steadyMelt 3 (some .int) ∈ GW := gw_of 523 (by decide +kernel) rfl
theorem wl_507 : Cond.methodLink RX6 239 yX5_snowOutweighsMelt ∈ GW := gw_of 524 (by decide +kernel) rfl
theorem wl_508 : Cond.instanceMethod yX5_snowOutweighsMelt ∈ GW := gw_of 525 (by decide +kernel) rfl
theorem wl_509 : Cond.selects RX5 yX5_snowOutweighsMelt yX5_snowOutweighsMelt ∈ GW := gw_of 526 (by decide +kernel) rfl
theorem wl_510 : Cond.code yX5_snowOutweighsMelt cX5_snowOutweighsMelt 4 (some .boolean) ∈ GW := gw_of 527 (by decide +kernel) rfl
theorem wl_511 : Cond.methodLink RL 102 yL_lot ∈ GW := gw_of 577 (by decide +kernel) rfl
theorem wl_512 : Cond.static yL_lot ∈ GW := gw_of 578 (by decide +kernel) rfl
theorem wl_513 : Cond.code yL_lot cL_lot 2 (some .int) ∈ GW := gw_of 579 (by decide +kernel) rfl
theorem wl_514 : Cond.constant RL 7 (-2049193025) ∈ GW := gw_of 580 (by decide +kernel) rfl
theorem wl_515 : Cond.methodLink RL 51 yL_low ∈ GW := gw_of 581 (by decide +kernel) rfl
theorem wl_516 : Cond.static yL_low ∈ GW := gw_of 582 (by decide +kernel) rfl
theorem wl_517 : Cond.code yL_low cL_low 2 (some .int) ∈ GW := gw_of 583 (by decide +kernel) rfl
theorem wl_518 : Cond.constant RL 8 (2147483647) ∈ GW := gw_of 584 (by decide +kernel) rfl
theorem wl_519 : Cond.methodLink RL 106 yL_year ∈ GW := gw_of 606 (by decide +kernel) rfl
theorem wl_520 : Cond.static yL_year ∈ GW := gw_of 607 (by decide +kernel) rfl
theorem wl_521 : Cond.code yL_year cL_year 19 (some .boolean) ∈ GW := gw_of 608 (by decide +kernel) rfl
theorem wl_522 : Cond.constantLong RL 49 (1000) ∈ GW := gw_of 609 (by decide +kernel) rfl
theorem wl_523 : Cond.methodLink RL 109 yL_thoughts ∈ GW := gw_of 610 (by decide +kernel) rfl
theorem wl_524 : Cond.static yL_thoughts ∈ GW := gw_of 611 (by decide +kernel) rfl
theorem wl_525 : Cond.code yL_thoughts cL_thoughts 15 (some .boolean) ∈ GW := gw_of 612 (by decide +kernel) rfl
theorem inlX0 : ∀ w ∈ wsX00, w ∈ GW := gw_sub [128, 130, 132, 134, 136, 138, 140] (by decide +kernel) (by decide +kernel)
theorem inlX1 : ∀ w ∈ wsX10, w ∈ GW := gw_sub [68, 70, 72, 74] (by decide +kernel) (by decide +kernel)
theorem inlX2 : ∀ w ∈ wsX20, w ∈ GW := gw_sub [99, 101, 103, 105] (by decide +kernel) (by decide +kernel)
theorem inlX3 : ∀ w ∈ wsX30, w ∈ GW := gw_sub [166, 168, 170, 172, 174, 176] (by decide +kernel) (by decide +kernel)
theorem inlX4 : ∀ w ∈ wsX40, w ∈ GW := gw_sub [234, 236] (by decide +kernel) (by decide +kernel)
theorem inlX5 : ∀ w ∈ wsX50, w ∈ GW := gw_sub [201, 203, 205, 207, 209, 211, 213, 215, 217, 219, 221] (by decide +kernel) (by decide +kernel)
theorem inlX6 : ∀ w ∈ wsX60, w ∈ GW := gw_sub [245, 247, 249, 251, 253] (by decide +kernel) (by decide +kernel)
set_option maxRecDepth 100000 in
theorem wl_good : GW.all goodWord = true := List.all_eq_true.mpr (fun w h => (List.mem_filter.mp h).2)
theorem wl_in (w : Cond) (ws : List Cond) (h : w ∈ GW) (hg : goodWord w = true) : ∀ v ∈ w :: GW, v ∈ GW ∧ ((v.onTables && v.keeps) = true ∨ ∃ ty, v = .arrayClass ty) := by
  intro v hv
  rcases List.mem_cons.mp hv with rfl | hv
  · exact ⟨h, good_of_word hg⟩
  · exact ⟨hv, good_of_word (List.all_eq_true.mp wl_good v hv)⟩
theorem wl_goodIn {w : Cond} (h : w ∈ GW) : GoodIn GW (w :: GW) := fun v hv => wl_in w [] h (List.all_eq_true.mp wl_good w h) v hv
theorem wl_goodV {own C : String} {idx : Nat} {y : MethodName} {w : Cond} (h1 : Cond.methodLink own idx y ∈ GW) (h2 : Cond.instanceMethod y ∈ GW) (h3 : Cond.selects C y y ∈ GW) (h4 : Cond.initialized C ∈ GW) (h : w ∈ GW) : GoodIn GW (wsV own idx C y (w :: GW)) := by
  intro v hv
  rcases List.mem_append.mp hv with hv | hv
  · have hm : v ∈ GW := by
      simp only [List.mem_cons, List.not_mem_nil, or_false] at hv
      rcases hv with rfl | rfl | rfl | rfl <;> assumption
    exact ⟨hm, good_of_word (List.all_eq_true.mp wl_good v hm)⟩
  · exact wl_goodIn h v hv
theorem wl_goodS {own : String} {idx : Nat} {y : MethodName} {w : Cond} (h1 : Cond.methodLink own idx y ∈ GW) (h2 : Cond.static y ∈ GW) (h4 : Cond.initialized own ∈ GW) (h : w ∈ GW) : GoodIn GW (wsS own idx y (w :: GW)) := by
  intro v hv
  rcases List.mem_append.mp hv with hv | hv
  · have hm : v ∈ GW := by
      simp only [List.mem_cons, List.not_mem_nil, or_false] at hv
      rcases hv with rfl | rfl | rfl <;> assumption
    exact ⟨hm, good_of_word (List.all_eq_true.mp wl_good v hm)⟩
  · exact wl_goodIn h v hv
end
