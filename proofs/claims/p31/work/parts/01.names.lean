-- ===== PART A: goes FIRST, ahead of the names: the tables' words, and 'selects' of the private methods out of them =====
/-- a private method of a class that the tables say can be made, by its rows of tables_1 -/
def lw_okq (q : MethodName × Nat) : Prop := (q.1.cls ≠ "java/lang/invoke/MethodHandle" ∧ q.1.cls ≠ "java/lang/invoke/VarHandle") ∧ Cond.instantiable q.1.cls q.2 ∈ tables_1 ∧ Cond.privateMethod q.1 ∈ tables_1 ∧ Cond.instanceMethod q.1 ∈ tables_1
theorem lw_p0 : lw_okq (⟨"PeatShares", "recorded", "(I)I"⟩, 5) := ⟨⟨by decide +kernel, by decide +kernel⟩, List.mem_of_getElem? (i := 10) (by decide +kernel), List.mem_of_getElem? (i := 297) (by decide +kernel), List.mem_of_getElem? (i := 298) (by decide +kernel)⟩
theorem lw_p1 : lw_okq (⟨"PeatShares", "dropOldestState", "()V"⟩, 5) := ⟨⟨by decide +kernel, by decide +kernel⟩, List.mem_of_getElem? (i := 10) (by decide +kernel), List.mem_of_getElem? (i := 301) (by decide +kernel), List.mem_of_getElem? (i := 302) (by decide +kernel)⟩
def lw_privs_1 : List (MethodName × Nat) := [(⟨"PeatShares", "recorded", "(I)I"⟩, 5), (⟨"PeatShares", "dropOldestState", "()V"⟩, 5)]
theorem lw_r1 : ∀ q ∈ lw_privs_1, lw_okq q := List.forall_mem_cons.mpr ⟨lw_p0, List.forall_mem_cons.mpr ⟨lw_p1, fun _ h => absurd h List.not_mem_nil⟩⟩
def lw_privs : List (MethodName × Nat) := lw_privs_1
def lw_tbl : List Cond := k2_sels lw_privs ++ tables_1
theorem lw_privs_ok : ∀ q ∈ lw_privs, lw_okq q := lw_r1
/-- the streams that the claim lets the run draw from -/
abbrev lw_cs : List Choice := [Jvm.Choice.named "NaN.bits"]
theorem lw_bits : nanBits ∈ lw_cs := by first | decide | exact List.mem_cons_self | simp [lw_cs, nanBits]
def RX0 : String := "PeatShares$Bank"
def TX0 : u_T := fun k => match k with
  | 0 => ("PeatShares$Bank", "allowance", "I", false)
  | 1 => ("PeatShares$Bank", "strength", "I", false)
  | 2 => ("PeatShares$Bank", "wear", "I", false)
  | 3 => ("PeatShares$Bank", "turfsCut", "I", false)
  | 4 => ("PeatShares$Bank", "turfsCarted", "I", false)
  | 5 => ("PeatShares$Bank", "turfsLeft", "I", false)
  | 6 => ("PeatShares$Bank", "granted", "[Z", true)
  | _ => ("PeatShares$Bank", "cutThisYear", "[I", true)
def tyX0 : Nat → FieldType := fun k => match k with
  | 0 => .int
  | 1 => .int
  | 2 => .int
  | 3 => .int
  | 4 => .int
  | 5 => .int
  | 6 => .array .boolean
  | _ => .array .int
abbrev wsX00 : List Cond := u_ws RX0 TX0 8
theorem nmX0 : ∀ a, a < 8 → ∀ b, b < 8 → a ≠ b → (TX0 a).2.1 ≠ (TX0 b).2.1 := by decide +kernel
theorem tyX0_ok : ∀ k, k < 8 → parseFieldDescriptor (TX0 k).2.2.1 = some (tyX0 k) := by decide +kernel
abbrev cX0_init : ByteArray := prog_2_method_1_code
def yX0_init : MethodName := ⟨RX0, "<init>", "()V"⟩
abbrev cX0_copyFrom : ByteArray := prog_2_method_2_code
def yX0_copyFrom : MethodName := ⟨RX0, "copyFrom", "(LPeatShares$Bank;)V"⟩
abbrev cX0_bearing : ByteArray := prog_2_method_3_code
def yX0_bearing : MethodName := ⟨RX0, "bearing", "(II)I"⟩
abbrev cX0_holders : ByteArray := prog_2_method_4_code
def yX0_holders : MethodName := ⟨RX0, "holders", "()I"⟩
abbrev cX0_holdersAsBits : ByteArray := prog_2_method_5_code
def yX0_holdersAsBits : MethodName := ⟨RX0, "holdersAsBits", "()I"⟩
abbrev cX0_forgetYear : ByteArray := prog_2_method_6_code
def yX0_forgetYear : MethodName := ⟨RX0, "forgetYear", "()V"⟩
abbrev cX0_wearBy : ByteArray := prog_2_method_7_code
def yX0_wearBy : MethodName := ⟨RX0, "wearBy", "(I)I"⟩
def RX1 : String := "PeatShares$Household"
def TX1 : u_T := fun k => match k with
  | 0 => ("PeatShares$Household", "spades", "I", false)
  | 1 => ("PeatShares$Household", "dryTurfs", "I", false)
  | _ => ("PeatShares$Household", "dampTurfs", "I", false)
def tyX1 : Nat → FieldType := fun k => match k with
  | 0 => .int
  | 1 => .int
  | _ => .int
abbrev wsX10 : List Cond := u_ws RX1 TX1 3
theorem nmX1 : ∀ a, a < 3 → ∀ b, b < 3 → a ≠ b → (TX1 a).2.1 ≠ (TX1 b).2.1 := by decide +kernel
theorem tyX1_ok : ∀ k, k < 3 → parseFieldDescriptor (TX1 k).2.2.1 = some (tyX1 k) := by decide +kernel
abbrev cX1_init : ByteArray := prog_3_method_1_code
def yX1_init : MethodName := ⟨RX1, "<init>", "()V"⟩
abbrev cX1_copyFrom : ByteArray := prog_3_method_2_code
def yX1_copyFrom : MethodName := ⟨RX1, "copyFrom", "(LPeatShares$Household;)V"⟩
def RX2 : String := "PeatShares$Parish"
def TX2 : u_T := fun k => match k with
  | 0 => ("PeatShares$Parish", "year", "I", false)
  | 1 => ("PeatShares$Parish", "days", "I", false)
  | 2 => ("PeatShares$Parish", "rain", "I", false)
  | 3 => ("PeatShares$Parish", "households", "I", false)
  | 4 => ("PeatShares$Parish", "banks", "I", false)
  | 5 => ("PeatShares$Parish", "stacks", "I", false)
  | 6 => ("PeatShares$Parish", "householdRows", "[LPeatShares$Household;", true)
  | 7 => ("PeatShares$Parish", "bankRows", "[LPeatShares$Bank;", true)
  | _ => ("PeatShares$Parish", "stackRows", "[LPeatShares$TurfStack;", true)
def tyX2 : Nat → FieldType := fun k => match k with
  | 0 => .int
  | 1 => .int
  | 2 => .int
  | 3 => .int
  | 4 => .int
  | 5 => .int
  | 6 => .array (.object "PeatShares$Household")
  | 7 => .array (.object "PeatShares$Bank")
  | _ => .array (.object "PeatShares$TurfStack")
abbrev wsX20 : List Cond := u_ws RX2 TX2 9
theorem nmX2 : ∀ a, a < 9 → ∀ b, b < 9 → a ≠ b → (TX2 a).2.1 ≠ (TX2 b).2.1 := by decide +kernel
theorem tyX2_ok : ∀ k, k < 9 → parseFieldDescriptor (TX2 k).2.2.1 = some (tyX2 k) := by decide +kernel
abbrev cX2_init : ByteArray := prog_4_method_1_code
def yX2_init : MethodName := ⟨RX2, "<init>", "()V"⟩
abbrev cX2_copyFrom : ByteArray := prog_4_method_2_code
def yX2_copyFrom : MethodName := ⟨RX2, "copyFrom", "(LPeatShares$Parish;)V"⟩
abbrev cX2_hasHousehold : ByteArray := prog_4_method_3_code
def yX2_hasHousehold : MethodName := ⟨RX2, "hasHousehold", "(I)Z"⟩
abbrev cX2_hasBank : ByteArray := prog_4_method_4_code
def yX2_hasBank : MethodName := ⟨RX2, "hasBank", "(I)Z"⟩
abbrev cX2_hasStack : ByteArray := prog_4_method_5_code
def yX2_hasStack : MethodName := ⟨RX2, "hasStack", "(I)Z"⟩
abbrev cX2_addHousehold : ByteArray := prog_4_method_6_code
def yX2_addHousehold : MethodName := ⟨RX2, "addHousehold", "(I)I"⟩
abbrev cX2_changeSpades : ByteArray := prog_4_method_7_code
def yX2_changeSpades : MethodName := ⟨RX2, "changeSpades", "(II)I"⟩
abbrev cX2_openBank : ByteArray := prog_4_method_8_code
def yX2_openBank : MethodName := ⟨RX2, "openBank", "(II)I"⟩
abbrev cX2_changeAllowance : ByteArray := prog_4_method_9_code
def yX2_changeAllowance : MethodName := ⟨RX2, "changeAllowance", "(II)I"⟩
abbrev cX2_changeRight : ByteArray := prog_4_method_10_code
def yX2_changeRight : MethodName := ⟨RX2, "changeRight", "(III)I"⟩
abbrev cX2_spadesAt : ByteArray := prog_4_method_11_code
def yX2_spadesAt : MethodName := ⟨RX2, "spadesAt", "(LPeatShares$Bank;)I"⟩
abbrev cX2_shareOf : ByteArray := prog_4_method_12_code
def yX2_shareOf : MethodName := ⟨RX2, "shareOf", "(ILPeatShares$Bank;)I"⟩
abbrev cX2_stillToCut : ByteArray := prog_4_method_13_code
def yX2_stillToCut : MethodName := ⟨RX2, "stillToCut", "(ILPeatShares$Bank;)I"⟩
abbrev cX2_rightPart : ByteArray := prog_4_method_14_code
def yX2_rightPart : MethodName := ⟨RX2, "rightPart", "(III)I"⟩
abbrev cX2_cutTurfs : ByteArray := prog_4_method_16_code
def yX2_cutTurfs : MethodName := ⟨RX2, "cutTurfs", "(III)I"⟩
abbrev cX2_turnStack : ByteArray := prog_4_method_17_code
def yX2_turnStack : MethodName := ⟨RX2, "turnStack", "(I)I"⟩
abbrev cX2_joinStacks : ByteArray := prog_4_method_18_code
def yX2_joinStacks : MethodName := ⟨RX2, "joinStacks", "(II)I"⟩
abbrev cX2_removeStack : ByteArray := prog_4_method_19_code
def yX2_removeStack : MethodName := ⟨RX2, "removeStack", "(I)V"⟩
abbrev cX2_dryStacks : ByteArray := prog_4_method_20_code
def yX2_dryStacks : MethodName := ⟨RX2, "dryStacks", "()I"⟩
abbrev cX2_stackProperty : ByteArray := prog_4_method_21_code
def yX2_stackProperty : MethodName := ⟨RX2, "stackProperty", "(II)I"⟩
abbrev cX2_passDay : ByteArray := prog_4_method_22_code
def yX2_passDay : MethodName := ⟨RX2, "passDay", "(II)I"⟩
abbrev cX2_closeYear : ByteArray := prog_4_method_24_code
def yX2_closeYear : MethodName := ⟨RX2, "closeYear", "()I"⟩
abbrev cX2_repairRoad : ByteArray := prog_4_method_25_code
def yX2_repairRoad : MethodName := ⟨RX2, "repairRoad", "(I)I"⟩
abbrev cX2_bearingToday : ByteArray := prog_4_method_26_code
def yX2_bearingToday : MethodName := ⟨RX2, "bearingToday", "(LPeatShares$Bank;)I"⟩
abbrev cX2_cartTurfs : ByteArray := prog_4_method_27_code
def yX2_cartTurfs : MethodName := ⟨RX2, "cartTurfs", "(II)I"⟩
abbrev cX2_householdProperty : ByteArray := prog_4_method_30_code
def yX2_householdProperty : MethodName := ⟨RX2, "householdProperty", "(II)I"⟩
abbrev cX2_rightsOf : ByteArray := prog_4_method_31_code
def yX2_rightsOf : MethodName := ⟨RX2, "rightsOf", "(I)I"⟩
abbrev cX2_stacksOf : ByteArray := prog_4_method_32_code
def yX2_stacksOf : MethodName := ⟨RX2, "stacksOf", "(I)I"⟩
abbrev cX2_turfsInStacksOf : ByteArray := prog_4_method_33_code
def yX2_turfsInStacksOf : MethodName := ⟨RX2, "turfsInStacksOf", "(I)I"⟩
abbrev cX2_bankProperty : ByteArray := prog_4_method_34_code
def yX2_bankProperty : MethodName := ⟨RX2, "bankProperty", "(II)I"⟩
abbrev cX2_turfsInStacksAt : ByteArray := prog_4_method_35_code
def yX2_turfsInStacksAt : MethodName := ⟨RX2, "turfsInStacksAt", "(I)I"⟩
def RX3 : String := "PeatShares$Program"
def TX3 : u_T := fun k => match k with
  | 0 => ("PeatShares$Program", "text", "[C", true)
  | 1 => ("PeatShares$Program", "length", "I", false)
  | 2 => ("PeatShares$Program", "start", "I", false)
  | 3 => ("PeatShares$Program", "end", "I", false)
  | _ => ("PeatShares$Program", "numbers", "[I", true)
def tyX3 : Nat → FieldType := fun k => match k with
  | 0 => .array .char
  | 1 => .int
  | 2 => .int
  | 3 => .int
  | _ => .array .int
abbrev wsX30 : List Cond := u_ws RX3 TX3 5
theorem nmX3 : ∀ a, a < 5 → ∀ b, b < 5 → a ≠ b → (TX3 a).2.1 ≠ (TX3 b).2.1 := by decide +kernel
theorem tyX3_ok : ∀ k, k < 5 → parseFieldDescriptor (TX3 k).2.2.1 = some (tyX3 k) := by decide +kernel
abbrev cX3_init : ByteArray := prog_5_method_1_code
def yX3_init : MethodName := ⟨RX3, "<init>", "()V"⟩
def RX4 : String := "PeatShares$State"
def TX4 : u_T := fun k => match k with
  | 0 => ("PeatShares$State", "parish", "LPeatShares$Parish;", true)
  | 1 => ("PeatShares$State", "slots", "[LPeatShares$Parish;", true)
  | _ => ("PeatShares$State", "taken", "[Z", true)
def tyX4 : Nat → FieldType := fun k => match k with
  | 0 => .object "PeatShares$Parish"
  | 1 => .array (.object "PeatShares$Parish")
  | _ => .array .boolean
abbrev wsX40 : List Cond := u_ws RX4 TX4 3
theorem nmX4 : ∀ a, a < 3 → ∀ b, b < 3 → a ≠ b → (TX4 a).2.1 ≠ (TX4 b).2.1 := by decide +kernel
theorem tyX4_ok : ∀ k, k < 3 → parseFieldDescriptor (TX4 k).2.2.1 = some (tyX4 k) := by decide +kernel
abbrev cX4_init : ByteArray := prog_6_method_1_code
def yX4_init : MethodName := ⟨RX4, "<init>", "()V"⟩
abbrev cX4_copyFrom : ByteArray := prog_6_method_2_code
def yX4_copyFrom : MethodName := ⟨RX4, "copyFrom", "(LPeatShares$State;)V"⟩
abbrev cX4_snapshots : ByteArray := prog_6_method_3_code
def yX4_snapshots : MethodName := ⟨RX4, "snapshots", "()I"⟩
def RX5 : String := "PeatShares$TurfStack"
def TX5 : u_T := fun k => match k with
  | 0 => ("PeatShares$TurfStack", "household", "I", false)
  | 1 => ("PeatShares$TurfStack", "bank", "I", false)
  | 2 => ("PeatShares$TurfStack", "turfs", "I", false)
  | 3 => ("PeatShares$TurfStack", "wetness", "I", false)
  | _ => ("PeatShares$TurfStack", "turns", "I", false)
def tyX5 : Nat → FieldType := fun k => match k with
  | 0 => .int
  | 1 => .int
  | 2 => .int
  | 3 => .int
  | _ => .int
abbrev wsX50 : List Cond := u_ws RX5 TX5 5
theorem nmX5 : ∀ a, a < 5 → ∀ b, b < 5 → a ≠ b → (TX5 a).2.1 ≠ (TX5 b).2.1 := by decide +kernel
theorem tyX5_ok : ∀ k, k < 5 → parseFieldDescriptor (TX5 k).2.2.1 = some (tyX5 k) := by decide +kernel
abbrev cX5_init : ByteArray := prog_7_method_1_code
def yX5_init : MethodName := ⟨RX5, "<init>", "()V"⟩
abbrev cX5_copyFrom : ByteArray := prog_7_method_2_code
def yX5_copyFrom : MethodName := ⟨RX5, "copyFrom", "(LPeatShares$TurfStack;)V"⟩
abbrev cX5_isDry : ByteArray := prog_7_method_3_code
def yX5_isDry : MethodName := ⟨RX5, "isDry", "()Z"⟩
abbrev cX5_turfWeight : ByteArray := prog_7_method_4_code
def yX5_turfWeight : MethodName := ⟨RX5, "turfWeight", "()I"⟩
abbrev cX5_loadOf : ByteArray := prog_7_method_5_code
def yX5_loadOf : MethodName := ⟨RX5, "loadOf", "(I)I"⟩
abbrev cX5_wetnessAfterDay : ByteArray := prog_7_method_7_code
def yX5_wetnessAfterDay : MethodName := ⟨RX5, "wetnessAfterDay", "(III)I"⟩
abbrev cX5_takeAllOf : ByteArray := prog_7_method_8_code
def yX5_takeAllOf : MethodName := ⟨RX5, "takeAllOf", "(LPeatShares$TurfStack;)V"⟩
def RX6 : String := "PeatShares"
def TX6 : u_T := fun k => match k with
  | 0 => ("PeatShares", "now", "LPeatShares$State;", false)
  | 1 => ("PeatShares", "before", "LPeatShares$State;", false)
  | 2 => ("PeatShares", "history", "[LPeatShares$State;", true)
  | 3 => ("PeatShares", "states", "I", false)
  | _ => ("PeatShares", "program", "LPeatShares$Program;", true)
def tyX6 : Nat → FieldType := fun k => match k with
  | 0 => .object "PeatShares$State"
  | 1 => .object "PeatShares$State"
  | 2 => .array (.object "PeatShares$State")
  | 3 => .int
  | _ => .object "PeatShares$Program"
abbrev wsX60 : List Cond := u_ws RX6 TX6 5
theorem nmX6 : ∀ a, a < 5 → ∀ b, b < 5 → a ≠ b → (TX6 a).2.1 ≠ (TX6 b).2.1 := by decide +kernel
theorem tyX6_ok : ∀ k, k < 5 → parseFieldDescriptor (TX6 k).2.2.1 = some (tyX6 k) := by decide +kernel
abbrev cX6_init : ByteArray := prog_1_method_1_code
def yX6_init : MethodName := ⟨RX6, "<init>", "()V"⟩
abbrev cX6_come : ByteArray := prog_1_method_2_code
def yX6_come : MethodName := ⟨RX6, "come", "(I)I"⟩
abbrev cX6_setSpades : ByteArray := prog_1_method_3_code
def yX6_setSpades : MethodName := ⟨RX6, "setSpades", "(II)I"⟩
abbrev cX6_addBank : ByteArray := prog_1_method_4_code
def yX6_addBank : MethodName := ⟨RX6, "addBank", "(II)I"⟩
abbrev cX6_setAllowance : ByteArray := prog_1_method_5_code
def yX6_setAllowance : MethodName := ⟨RX6, "setAllowance", "(II)I"⟩
abbrev cX6_grant : ByteArray := prog_1_method_6_code
def yX6_grant : MethodName := ⟨RX6, "grant", "(III)I"⟩
abbrev cX6_cut : ByteArray := prog_1_method_7_code
def yX6_cut : MethodName := ⟨RX6, "cut", "(III)I"⟩
abbrev cX6_turn : ByteArray := prog_1_method_8_code
def yX6_turn : MethodName := ⟨RX6, "turn", "(I)I"⟩
abbrev cX6_join : ByteArray := prog_1_method_9_code
def yX6_join : MethodName := ⟨RX6, "join", "(II)I"⟩
abbrev cX6_cart : ByteArray := prog_1_method_10_code
def yX6_cart : MethodName := ⟨RX6, "cart", "(II)I"⟩
abbrev cX6_repair : ByteArray := prog_1_method_11_code
def yX6_repair : MethodName := ⟨RX6, "repair", "(I)I"⟩
abbrev cX6_day : ByteArray := prog_1_method_12_code
def yX6_day : MethodName := ⟨RX6, "day", "(II)I"⟩
abbrev cX6_endYear : ByteArray := prog_1_method_13_code
def yX6_endYear : MethodName := ⟨RX6, "endYear", "()I"⟩
abbrev cX6_count : ByteArray := prog_1_method_20_code
def yX6_count : MethodName := ⟨RX6, "count", "(I)I"⟩
abbrev cX6_household : ByteArray := prog_1_method_21_code
def yX6_household : MethodName := ⟨RX6, "household", "(II)I"⟩
abbrev cX6_bank : ByteArray := prog_1_method_22_code
def yX6_bank : MethodName := ⟨RX6, "bank", "(II)I"⟩
abbrev cX6_right : ByteArray := prog_1_method_23_code
def yX6_right : MethodName := ⟨RX6, "right", "(III)I"⟩
abbrev cX6_stack : ByteArray := prog_1_method_24_code
def yX6_stack : MethodName := ⟨RX6, "stack", "(II)I"⟩
abbrev cX6_recorded : ByteArray := prog_1_method_30_code
def yX6_recorded : MethodName := ⟨RX6, "recorded", "(I)I"⟩
abbrev cX6_dropOldestState : ByteArray := prog_1_method_31_code
def yX6_dropOldestState : MethodName := ⟨RX6, "dropOldestState", "()V"⟩
abbrev cX6_isWithin : ByteArray := prog_1_method_32_code
def yX6_isWithin : MethodName := ⟨RX6, "isWithin", "(III)Z"⟩
def RX7 : String := "PeatSharesModel"
def TX7 : u_T := fun k => match k with
  | _ => ("", "", "", false)
def tyX7 : Nat → FieldType := fun k => match k with
  | _ => .int
abbrev wsX70 : List Cond := u_ws RX7 TX7 0
theorem nmX7 : ∀ a, a < 0 → ∀ b, b < 0 → a ≠ b → (TX7 a).2.1 ≠ (TX7 b).2.1 := by decide +kernel
theorem tyX7_ok : ∀ k, k < 0 → parseFieldDescriptor (TX7 k).2.2.1 = some (tyX7 k) := by decide +kernel
def RJ9 : String := "java/lang/Math"
def TJ9 : u_T := fun k => match k with
  | _ => ("", "", "", false)
def tyJ9 : Nat → FieldType := fun k => match k with
  | _ => .int
theorem nmJ9 : ∀ a, a < 0 → ∀ b, b < 0 → a ≠ b → (TJ9 a).2.1 ≠ (TJ9 b).2.1 := by decide +kernel
theorem tyJ9_ok : ∀ k, k < 0 → parseFieldDescriptor (TJ9 k).2.2.1 = some (tyJ9 k) := by decide +kernel
abbrev cJ9_max_7cf53 : ByteArray := prog_10_method_65_code
def yJ9_max_7cf53 : MethodName := ⟨RJ9, "max", "(II)I"⟩
abbrev cJ9_min_7cf53 : ByteArray := prog_10_method_69_code
def yJ9_min_7cf53 : MethodName := ⟨RJ9, "min", "(II)I"⟩
def RL : String := "PeatSharesLaw"
abbrev cL_cell : ByteArray := method_2_code
def yL_cell : MethodName := ⟨RL, "cell", "([II)I"⟩
abbrev cL_low : ByteArray := method_3_code
def yL_low : MethodName := ⟨RL, "low", "(II)I"⟩
abbrev cL_share : ByteArray := method_4_code
def yL_share : MethodName := ⟨RL, "share", "([I[I[III)I"⟩
abbrev cL_may : ByteArray := method_5_code
def yL_may : MethodName := ⟨RL, "may", "([I[I[I[III)I"⟩
abbrev cL_bears : ByteArray := method_6_code
def yL_bears : MethodName := ⟨RL, "bears", "([I[II)I"⟩
abbrev cL_heavy : ByteArray := method_7_code
def yL_heavy : MethodName := ⟨RL, "heavy", "([III)I"⟩
abbrev cL_goes : ByteArray := method_8_code
def yL_goes : MethodName := ⟨RL, "goes", "([I[II)V"⟩
abbrev cL_then : ByteArray := method_9_code
def yL_then : MethodName := ⟨RL, "then", "(IIII)I"⟩
abbrev cL_dry : ByteArray := method_10_code
def yL_dry : MethodName := ⟨RL, "dry", "([I[I)I"⟩
abbrev cL_stacked : ByteArray := method_11_code
def yL_stacked : MethodName := ⟨RL, "stacked", "(LPeatShares;[I[I[I[III)Z"⟩
abbrev cL_acts : ByteArray := method_12_code
def yL_acts : MethodName := ⟨RL, "acts", "(LPeatShares;[I[I[I[I[II)Z"⟩
abbrev cL_isSo : ByteArray := method_13_code
def yL_isSo : MethodName := ⟨RL, "isSo", "(LPeatShares;[I[I[I[I[I)Z"⟩
abbrev cL_law : ByteArray := code
def yL_law : MethodName := ⟨RL, "law", "([I)Z"⟩
abbrev vwCl : List vw_C := [(RX0, TX0, 8), (RX1, TX1, 3), (RX2, TX2, 9), (RX3, TX3, 5), (RX4, TX4, 3), (RX5, TX5, 5), (RX6, TX6, 5)]
theorem dX0_init_0 : decode cX0_init 0 = .ok (.aload_n 0, 1) := by decide +kernel
theorem dX0_init_1 : decode cX0_init 1 = .ok (.invokespecial 3, 3) := by decide +kernel
theorem dX0_init_4 : decode cX0_init 4 = .ok (.aload_n 0, 1) := by decide +kernel
theorem dX0_init_5 : decode cX0_init 5 = .ok (.iconst 0, 1) := by decide +kernel
theorem dX0_init_6 : decode cX0_init 6 = .ok (.putfield 9, 3) := by decide +kernel
theorem dX0_init_9 : decode cX0_init 9 = .ok (.aload_n 0, 1) := by decide +kernel
theorem dX0_init_10 : decode cX0_init 10 = .ok (.iconst 0, 1) := by decide +kernel
theorem dX0_init_11 : decode cX0_init 11 = .ok (.putfield 15, 3) := by decide +kernel
theorem dX0_init_14 : decode cX0_init 14 = .ok (.aload_n 0, 1) := by decide +kernel
theorem dX0_init_15 : decode cX0_init 15 = .ok (.iconst 0, 1) := by decide +kernel
theorem dX0_init_16 : decode cX0_init 16 = .ok (.putfield 18, 3) := by decide +kernel
theorem dX0_init_19 : decode cX0_init 19 = .ok (.aload_n 0, 1) := by decide +kernel
theorem dX0_init_20 : decode cX0_init 20 = .ok (.iconst 0, 1) := by decide +kernel
theorem dX0_init_21 : decode cX0_init 21 = .ok (.putfield 21, 3) := by decide +kernel
theorem dX0_init_24 : decode cX0_init 24 = .ok (.aload_n 0, 1) := by decide +kernel
theorem dX0_init_25 : decode cX0_init 25 = .ok (.iconst 0, 1) := by decide +kernel
theorem dX0_init_26 : decode cX0_init 26 = .ok (.putfield 24, 3) := by decide +kernel
theorem dX0_init_29 : decode cX0_init 29 = .ok (.aload_n 0, 1) := by decide +kernel
theorem dX0_init_30 : decode cX0_init 30 = .ok (.iconst 0, 1) := by decide +kernel
theorem dX0_init_31 : decode cX0_init 31 = .ok (.putfield 27, 3) := by decide +kernel
theorem dX0_init_34 : decode cX0_init 34 = .ok (.aload_n 0, 1) := by decide +kernel
theorem dX0_init_35 : decode cX0_init 35 = .ok (.bipush 6, 2) := by decide +kernel
theorem dX0_init_37 : decode cX0_init 37 = .ok (.newarray .boolean, 2) := by decide +kernel
theorem dX0_init_39 : decode cX0_init 39 = .ok (.putfield 30, 3) := by decide +kernel
theorem dX0_init_42 : decode cX0_init 42 = .ok (.aload_n 0, 1) := by decide +kernel
theorem dX0_init_43 : decode cX0_init 43 = .ok (.bipush 6, 2) := by decide +kernel
theorem dX0_init_45 : decode cX0_init 45 = .ok (.newarray .int, 2) := by decide +kernel
theorem dX0_init_47 : decode cX0_init 47 = .ok (.putfield 34, 3) := by decide +kernel
theorem dX0_init_50 : decode cX0_init 50 = .ok (.return_, 1) := by decide +kernel
theorem dX0_copyFrom_0 : decode cX0_copyFrom 0 = .ok (.aload_n 0, 1) := by decide +kernel
theorem dX0_copyFrom_1 : decode cX0_copyFrom 1 = .ok (.aload_n 1, 1) := by decide +kernel
theorem dX0_copyFrom_2 : decode cX0_copyFrom 2 = .ok (.getfield 9, 3) := by decide +kernel
theorem dX0_copyFrom_5 : decode cX0_copyFrom 5 = .ok (.putfield 9, 3) := by decide +kernel
theorem dX0_copyFrom_8 : decode cX0_copyFrom 8 = .ok (.aload_n 0, 1) := by decide +kernel
theorem dX0_copyFrom_9 : decode cX0_copyFrom 9 = .ok (.aload_n 1, 1) := by decide +kernel
theorem dX0_copyFrom_10 : decode cX0_copyFrom 10 = .ok (.getfield 15, 3) := by decide +kernel
theorem dX0_copyFrom_13 : decode cX0_copyFrom 13 = .ok (.putfield 15, 3) := by decide +kernel
theorem dX0_copyFrom_16 : decode cX0_copyFrom 16 = .ok (.aload_n 0, 1) := by decide +kernel
theorem dX0_copyFrom_17 : decode cX0_copyFrom 17 = .ok (.aload_n 1, 1) := by decide +kernel
theorem dX0_copyFrom_18 : decode cX0_copyFrom 18 = .ok (.getfield 18, 3) := by decide +kernel
theorem dX0_copyFrom_21 : decode cX0_copyFrom 21 = .ok (.putfield 18, 3) := by decide +kernel
theorem dX0_copyFrom_24 : decode cX0_copyFrom 24 = .ok (.aload_n 0, 1) := by decide +kernel
theorem dX0_copyFrom_25 : decode cX0_copyFrom 25 = .ok (.aload_n 1, 1) := by decide +kernel
theorem dX0_copyFrom_26 : decode cX0_copyFrom 26 = .ok (.getfield 21, 3) := by decide +kernel
theorem dX0_copyFrom_29 : decode cX0_copyFrom 29 = .ok (.putfield 21, 3) := by decide +kernel
theorem dX0_copyFrom_32 : decode cX0_copyFrom 32 = .ok (.aload_n 0, 1) := by decide +kernel
theorem dX0_copyFrom_33 : decode cX0_copyFrom 33 = .ok (.aload_n 1, 1) := by decide +kernel
theorem dX0_copyFrom_34 : decode cX0_copyFrom 34 = .ok (.getfield 24, 3) := by decide +kernel
theorem dX0_copyFrom_37 : decode cX0_copyFrom 37 = .ok (.putfield 24, 3) := by decide +kernel
theorem dX0_copyFrom_40 : decode cX0_copyFrom 40 = .ok (.aload_n 0, 1) := by decide +kernel
theorem dX0_copyFrom_41 : decode cX0_copyFrom 41 = .ok (.aload_n 1, 1) := by decide +kernel
theorem dX0_copyFrom_42 : decode cX0_copyFrom 42 = .ok (.getfield 27, 3) := by decide +kernel
theorem dX0_copyFrom_45 : decode cX0_copyFrom 45 = .ok (.putfield 27, 3) := by decide +kernel
theorem dX0_copyFrom_48 : decode cX0_copyFrom 48 = .ok (.iconst 0, 1) := by decide +kernel
theorem dX0_copyFrom_49 : decode cX0_copyFrom 49 = .ok (.istore_n 2, 1) := by decide +kernel
theorem dX0_copyFrom_50 : decode cX0_copyFrom 50 = .ok (.iload_n 2, 1) := by decide +kernel
theorem dX0_copyFrom_51 : decode cX0_copyFrom 51 = .ok (.bipush 6, 2) := by decide +kernel
theorem dX0_copyFrom_53 : decode cX0_copyFrom 53 = .ok (.if_icmp .ge 33, 3) := by decide +kernel
theorem dX0_copyFrom_56 : decode cX0_copyFrom 56 = .ok (.aload_n 0, 1) := by decide +kernel
theorem dX0_copyFrom_57 : decode cX0_copyFrom 57 = .ok (.getfield 30, 3) := by decide +kernel
theorem dX0_copyFrom_60 : decode cX0_copyFrom 60 = .ok (.iload_n 2, 1) := by decide +kernel
theorem dX0_copyFrom_61 : decode cX0_copyFrom 61 = .ok (.aload_n 1, 1) := by decide +kernel
theorem dX0_copyFrom_62 : decode cX0_copyFrom 62 = .ok (.getfield 30, 3) := by decide +kernel
theorem dX0_copyFrom_65 : decode cX0_copyFrom 65 = .ok (.iload_n 2, 1) := by decide +kernel
theorem dX0_copyFrom_66 : decode cX0_copyFrom 66 = .ok (.baload, 1) := by decide +kernel
theorem dX0_copyFrom_67 : decode cX0_copyFrom 67 = .ok (.bastore, 1) := by decide +kernel
theorem dX0_copyFrom_68 : decode cX0_copyFrom 68 = .ok (.aload_n 0, 1) := by decide +kernel
theorem dX0_copyFrom_69 : decode cX0_copyFrom 69 = .ok (.getfield 34, 3) := by decide +kernel
theorem dX0_copyFrom_72 : decode cX0_copyFrom 72 = .ok (.iload_n 2, 1) := by decide +kernel
theorem dX0_copyFrom_73 : decode cX0_copyFrom 73 = .ok (.aload_n 1, 1) := by decide +kernel
theorem dX0_copyFrom_74 : decode cX0_copyFrom 74 = .ok (.getfield 34, 3) := by decide +kernel
theorem dX0_copyFrom_77 : decode cX0_copyFrom 77 = .ok (.iload_n 2, 1) := by decide +kernel
theorem dX0_copyFrom_78 : decode cX0_copyFrom 78 = .ok (.iaload, 1) := by decide +kernel
theorem dX0_copyFrom_79 : decode cX0_copyFrom 79 = .ok (.iastore, 1) := by decide +kernel
theorem dX0_copyFrom_80 : decode cX0_copyFrom 80 = .ok (.iinc 2 1, 3) := by decide +kernel
theorem dX0_copyFrom_83 : decode cX0_copyFrom 83 = .ok (.goto (-33), 3) := by decide +kernel
theorem dX0_copyFrom_86 : decode cX0_copyFrom 86 = .ok (.return_, 1) := by decide +kernel
theorem dX0_bearing_0 : decode cX0_bearing 0 = .ok (.iconst 0, 1) := by decide +kernel
theorem dX0_bearing_1 : decode cX0_bearing 1 = .ok (.aload_n 0, 1) := by decide +kernel
theorem dX0_bearing_2 : decode cX0_bearing 2 = .ok (.getfield 15, 3) := by decide +kernel
theorem dX0_bearing_5 : decode cX0_bearing 5 = .ok (.bipush 40, 2) := by decide +kernel
theorem dX0_bearing_7 : decode cX0_bearing 7 = .ok (.iload_n 2, 1) := by decide +kernel
theorem dX0_bearing_8 : decode cX0_bearing 8 = .ok (.imul, 1) := by decide +kernel
theorem dX0_bearing_9 : decode cX0_bearing 9 = .ok (.isub, 1) := by decide +kernel
theorem dX0_bearing_10 : decode cX0_bearing 10 = .ok (.iload_n 1, 1) := by decide +kernel
theorem dX0_bearing_11 : decode cX0_bearing 11 = .ok (.isub, 1) := by decide +kernel
theorem dX0_bearing_12 : decode cX0_bearing 12 = .ok (.invokestatic 38, 3) := by decide +kernel
theorem dX0_bearing_15 : decode cX0_bearing 15 = .ok (.ireturn, 1) := by decide +kernel
theorem dX0_holders_0 : decode cX0_holders 0 = .ok (.iconst 0, 1) := by decide +kernel
theorem dX0_holders_1 : decode cX0_holders 1 = .ok (.istore_n 1, 1) := by decide +kernel
theorem dX0_holders_2 : decode cX0_holders 2 = .ok (.iconst 0, 1) := by decide +kernel
theorem dX0_holders_3 : decode cX0_holders 3 = .ok (.istore_n 2, 1) := by decide +kernel
theorem dX0_holders_4 : decode cX0_holders 4 = .ok (.iload_n 2, 1) := by decide +kernel
theorem dX0_holders_5 : decode cX0_holders 5 = .ok (.bipush 6, 2) := by decide +kernel
theorem dX0_holders_7 : decode cX0_holders 7 = .ok (.if_icmp .ge 21, 3) := by decide +kernel
theorem dX0_holders_10 : decode cX0_holders 10 = .ok (.aload_n 0, 1) := by decide +kernel
theorem dX0_holders_11 : decode cX0_holders 11 = .ok (.getfield 30, 3) := by decide +kernel
theorem dX0_holders_14 : decode cX0_holders 14 = .ok (.iload_n 2, 1) := by decide +kernel
theorem dX0_holders_15 : decode cX0_holders 15 = .ok (.baload, 1) := by decide +kernel
theorem dX0_holders_16 : decode cX0_holders 16 = .ok (.ifCond .eq 6, 3) := by decide +kernel
theorem dX0_holders_19 : decode cX0_holders 19 = .ok (.iinc 1 1, 3) := by decide +kernel
theorem dX0_holders_22 : decode cX0_holders 22 = .ok (.iinc 2 1, 3) := by decide +kernel
theorem dX0_holders_25 : decode cX0_holders 25 = .ok (.goto (-21), 3) := by decide +kernel
theorem dX0_holders_28 : decode cX0_holders 28 = .ok (.iload_n 1, 1) := by decide +kernel
theorem dX0_holders_29 : decode cX0_holders 29 = .ok (.ireturn, 1) := by decide +kernel
theorem dX0_holdersAsBits_0 : decode cX0_holdersAsBits 0 = .ok (.iconst 0, 1) := by decide +kernel
theorem dX0_holdersAsBits_1 : decode cX0_holdersAsBits 1 = .ok (.istore_n 1, 1) := by decide +kernel
theorem dX0_holdersAsBits_2 : decode cX0_holdersAsBits 2 = .ok (.iconst 0, 1) := by decide +kernel
theorem dX0_holdersAsBits_3 : decode cX0_holdersAsBits 3 = .ok (.istore_n 2, 1) := by decide +kernel
theorem dX0_holdersAsBits_4 : decode cX0_holdersAsBits 4 = .ok (.iload_n 2, 1) := by decide +kernel
theorem dX0_holdersAsBits_5 : decode cX0_holdersAsBits 5 = .ok (.bipush 6, 2) := by decide +kernel
theorem dX0_holdersAsBits_7 : decode cX0_holdersAsBits 7 = .ok (.if_icmp .ge 24, 3) := by decide +kernel
theorem dX0_holdersAsBits_10 : decode cX0_holdersAsBits 10 = .ok (.aload_n 0, 1) := by decide +kernel
theorem dX0_holdersAsBits_11 : decode cX0_holdersAsBits 11 = .ok (.getfield 30, 3) := by decide +kernel
theorem dX0_holdersAsBits_14 : decode cX0_holdersAsBits 14 = .ok (.iload_n 2, 1) := by decide +kernel
theorem dX0_holdersAsBits_15 : decode cX0_holdersAsBits 15 = .ok (.baload, 1) := by decide +kernel
theorem dX0_holdersAsBits_16 : decode cX0_holdersAsBits 16 = .ok (.ifCond .eq 9, 3) := by decide +kernel
theorem dX0_holdersAsBits_19 : decode cX0_holdersAsBits 19 = .ok (.iload_n 1, 1) := by decide +kernel
theorem dX0_holdersAsBits_20 : decode cX0_holdersAsBits 20 = .ok (.iconst 1, 1) := by decide +kernel
theorem dX0_holdersAsBits_21 : decode cX0_holdersAsBits 21 = .ok (.iload_n 2, 1) := by decide +kernel
theorem dX0_holdersAsBits_22 : decode cX0_holdersAsBits 22 = .ok (.ishl, 1) := by decide +kernel
theorem dX0_holdersAsBits_23 : decode cX0_holdersAsBits 23 = .ok (.ior, 1) := by decide +kernel
theorem dX0_holdersAsBits_24 : decode cX0_holdersAsBits 24 = .ok (.istore_n 1, 1) := by decide +kernel
theorem dX0_holdersAsBits_25 : decode cX0_holdersAsBits 25 = .ok (.iinc 2 1, 3) := by decide +kernel
theorem dX0_holdersAsBits_28 : decode cX0_holdersAsBits 28 = .ok (.goto (-24), 3) := by decide +kernel
theorem dX0_holdersAsBits_31 : decode cX0_holdersAsBits 31 = .ok (.iload_n 1, 1) := by decide +kernel
theorem dX0_holdersAsBits_32 : decode cX0_holdersAsBits 32 = .ok (.ireturn, 1) := by decide +kernel
theorem dX0_forgetYear_0 : decode cX0_forgetYear 0 = .ok (.iconst 0, 1) := by decide +kernel
theorem dX0_forgetYear_1 : decode cX0_forgetYear 1 = .ok (.istore_n 1, 1) := by decide +kernel
theorem dX0_forgetYear_2 : decode cX0_forgetYear 2 = .ok (.iload_n 1, 1) := by decide +kernel
theorem dX0_forgetYear_3 : decode cX0_forgetYear 3 = .ok (.bipush 6, 2) := by decide +kernel
theorem dX0_forgetYear_5 : decode cX0_forgetYear 5 = .ok (.if_icmp .ge 16, 3) := by decide +kernel
theorem dX0_forgetYear_8 : decode cX0_forgetYear 8 = .ok (.aload_n 0, 1) := by decide +kernel
theorem dX0_forgetYear_9 : decode cX0_forgetYear 9 = .ok (.getfield 34, 3) := by decide +kernel
theorem dX0_forgetYear_12 : decode cX0_forgetYear 12 = .ok (.iload_n 1, 1) := by decide +kernel
theorem dX0_forgetYear_13 : decode cX0_forgetYear 13 = .ok (.iconst 0, 1) := by decide +kernel
theorem dX0_forgetYear_14 : decode cX0_forgetYear 14 = .ok (.iastore, 1) := by decide +kernel
theorem dX0_forgetYear_15 : decode cX0_forgetYear 15 = .ok (.iinc 1 1, 3) := by decide +kernel
theorem dX0_forgetYear_18 : decode cX0_forgetYear 18 = .ok (.goto (-16), 3) := by decide +kernel
theorem dX0_forgetYear_21 : decode cX0_forgetYear 21 = .ok (.return_, 1) := by decide +kernel
theorem dX0_wearBy_0 : decode cX0_wearBy 0 = .ok (.iload_n 0, 1) := by decide +kernel
theorem dX0_wearBy_1 : decode cX0_wearBy 1 = .ok (.bipush 49, 2) := by decide +kernel
theorem dX0_wearBy_3 : decode cX0_wearBy 3 = .ok (.iadd, 1) := by decide +kernel
theorem dX0_wearBy_4 : decode cX0_wearBy 4 = .ok (.bipush 50, 2) := by decide +kernel
theorem dX0_wearBy_6 : decode cX0_wearBy 6 = .ok (.idiv, 1) := by decide +kernel
theorem dX0_wearBy_7 : decode cX0_wearBy 7 = .ok (.ireturn, 1) := by decide +kernel
theorem dX1_init_0 : decode cX1_init 0 = .ok (.aload_n 0, 1) := by decide +kernel
theorem dX1_init_1 : decode cX1_init 1 = .ok (.invokespecial 1, 3) := by decide +kernel
theorem dX1_init_4 : decode cX1_init 4 = .ok (.aload_n 0, 1) := by decide +kernel
theorem dX1_init_5 : decode cX1_init 5 = .ok (.iconst 0, 1) := by decide +kernel
theorem dX1_init_6 : decode cX1_init 6 = .ok (.putfield 7, 3) := by decide +kernel
theorem dX1_init_9 : decode cX1_init 9 = .ok (.aload_n 0, 1) := by decide +kernel
theorem dX1_init_10 : decode cX1_init 10 = .ok (.iconst 0, 1) := by decide +kernel
theorem dX1_init_11 : decode cX1_init 11 = .ok (.putfield 13, 3) := by decide +kernel
theorem dX1_init_14 : decode cX1_init 14 = .ok (.aload_n 0, 1) := by decide +kernel
theorem dX1_init_15 : decode cX1_init 15 = .ok (.iconst 0, 1) := by decide +kernel
theorem dX1_init_16 : decode cX1_init 16 = .ok (.putfield 16, 3) := by decide +kernel
theorem dX1_init_19 : decode cX1_init 19 = .ok (.return_, 1) := by decide +kernel
theorem dX1_copyFrom_0 : decode cX1_copyFrom 0 = .ok (.aload_n 0, 1) := by decide +kernel
theorem dX1_copyFrom_1 : decode cX1_copyFrom 1 = .ok (.aload_n 1, 1) := by decide +kernel
theorem dX1_copyFrom_2 : decode cX1_copyFrom 2 = .ok (.getfield 7, 3) := by decide +kernel
theorem dX1_copyFrom_5 : decode cX1_copyFrom 5 = .ok (.putfield 7, 3) := by decide +kernel
theorem dX1_copyFrom_8 : decode cX1_copyFrom 8 = .ok (.aload_n 0, 1) := by decide +kernel
theorem dX1_copyFrom_9 : decode cX1_copyFrom 9 = .ok (.aload_n 1, 1) := by decide +kernel
theorem dX1_copyFrom_10 : decode cX1_copyFrom 10 = .ok (.getfield 13, 3) := by decide +kernel
theorem dX1_copyFrom_13 : decode cX1_copyFrom 13 = .ok (.putfield 13, 3) := by decide +kernel
theorem dX1_copyFrom_16 : decode cX1_copyFrom 16 = .ok (.aload_n 0, 1) := by decide +kernel
theorem dX1_copyFrom_17 : decode cX1_copyFrom 17 = .ok (.aload_n 1, 1) := by decide +kernel
theorem dX1_copyFrom_18 : decode cX1_copyFrom 18 = .ok (.getfield 16, 3) := by decide +kernel
theorem dX1_copyFrom_21 : decode cX1_copyFrom 21 = .ok (.putfield 16, 3) := by decide +kernel
theorem dX1_copyFrom_24 : decode cX1_copyFrom 24 = .ok (.return_, 1) := by decide +kernel
theorem dX2_init_0 : decode cX2_init 0 = .ok (.aload_n 0, 1) := by decide +kernel
theorem dX2_init_1 : decode cX2_init 1 = .ok (.invokespecial 3, 3) := by decide +kernel
theorem dX2_init_4 : decode cX2_init 4 = .ok (.aload_n 0, 1) := by decide +kernel
theorem dX2_init_5 : decode cX2_init 5 = .ok (.iconst 0, 1) := by decide +kernel
theorem dX2_init_6 : decode cX2_init 6 = .ok (.putfield 9, 3) := by decide +kernel
theorem dX2_init_9 : decode cX2_init 9 = .ok (.aload_n 0, 1) := by decide +kernel
theorem dX2_init_10 : decode cX2_init 10 = .ok (.iconst 0, 1) := by decide +kernel
theorem dX2_init_11 : decode cX2_init 11 = .ok (.putfield 15, 3) := by decide +kernel
theorem dX2_init_14 : decode cX2_init 14 = .ok (.aload_n 0, 1) := by decide +kernel
theorem dX2_init_15 : decode cX2_init 15 = .ok (.iconst 0, 1) := by decide +kernel
theorem dX2_init_16 : decode cX2_init 16 = .ok (.putfield 18, 3) := by decide +kernel
theorem dX2_init_19 : decode cX2_init 19 = .ok (.aload_n 0, 1) := by decide +kernel
theorem dX2_init_20 : decode cX2_init 20 = .ok (.iconst 0, 1) := by decide +kernel
theorem dX2_init_21 : decode cX2_init 21 = .ok (.putfield 21, 3) := by decide +kernel
theorem dX2_init_24 : decode cX2_init 24 = .ok (.aload_n 0, 1) := by decide +kernel
theorem dX2_init_25 : decode cX2_init 25 = .ok (.iconst 0, 1) := by decide +kernel
theorem dX2_init_26 : decode cX2_init 26 = .ok (.putfield 24, 3) := by decide +kernel
theorem dX2_init_29 : decode cX2_init 29 = .ok (.aload_n 0, 1) := by decide +kernel
theorem dX2_init_30 : decode cX2_init 30 = .ok (.iconst 0, 1) := by decide +kernel
theorem dX2_init_31 : decode cX2_init 31 = .ok (.putfield 27, 3) := by decide +kernel
theorem dX2_init_34 : decode cX2_init 34 = .ok (.aload_n 0, 1) := by decide +kernel
theorem dX2_init_35 : decode cX2_init 35 = .ok (.bipush 6, 2) := by decide +kernel
theorem dX2_init_37 : decode cX2_init 37 = .ok (.anewarray 30, 3) := by decide +kernel
theorem dX2_init_40 : decode cX2_init 40 = .ok (.putfield 32, 3) := by decide +kernel
theorem dX2_init_43 : decode cX2_init 43 = .ok (.aload_n 0, 1) := by decide +kernel
theorem dX2_init_44 : decode cX2_init 44 = .ok (.iconst 4, 1) := by decide +kernel
theorem dX2_init_45 : decode cX2_init 45 = .ok (.anewarray 36, 3) := by decide +kernel
theorem dX2_init_48 : decode cX2_init 48 = .ok (.putfield 38, 3) := by decide +kernel
theorem dX2_init_51 : decode cX2_init 51 = .ok (.aload_n 0, 1) := by decide +kernel
theorem dX2_init_52 : decode cX2_init 52 = .ok (.bipush 12, 2) := by decide +kernel
theorem dX2_init_54 : decode cX2_init 54 = .ok (.anewarray 42, 3) := by decide +kernel
theorem dX2_init_57 : decode cX2_init 57 = .ok (.putfield 44, 3) := by decide +kernel
theorem dX2_init_60 : decode cX2_init 60 = .ok (.iconst 0, 1) := by decide +kernel
theorem dX2_init_61 : decode cX2_init 61 = .ok (.istore_n 1, 1) := by decide +kernel
theorem dX2_init_62 : decode cX2_init 62 = .ok (.iload_n 1, 1) := by decide +kernel
theorem dX2_init_63 : decode cX2_init 63 = .ok (.bipush 6, 2) := by decide +kernel
theorem dX2_init_65 : decode cX2_init 65 = .ok (.if_icmp .ge 22, 3) := by decide +kernel
theorem dX2_init_68 : decode cX2_init 68 = .ok (.aload_n 0, 1) := by decide +kernel
theorem dX2_init_69 : decode cX2_init 69 = .ok (.getfield 32, 3) := by decide +kernel
theorem dX2_init_72 : decode cX2_init 72 = .ok (.iload_n 1, 1) := by decide +kernel
theorem dX2_init_73 : decode cX2_init 73 = .ok (.new 30, 3) := by decide +kernel
theorem dX2_init_76 : decode cX2_init 76 = .ok (.dup, 1) := by decide +kernel
theorem dX2_init_77 : decode cX2_init 77 = .ok (.invokespecial 48, 3) := by decide +kernel
theorem dX2_init_80 : decode cX2_init 80 = .ok (.aastore, 1) := by decide +kernel
theorem dX2_init_81 : decode cX2_init 81 = .ok (.iinc 1 1, 3) := by decide +kernel
theorem dX2_init_84 : decode cX2_init 84 = .ok (.goto (-22), 3) := by decide +kernel
theorem dX2_init_87 : decode cX2_init 87 = .ok (.iconst 0, 1) := by decide +kernel
theorem dX2_init_88 : decode cX2_init 88 = .ok (.istore_n 1, 1) := by decide +kernel
theorem dX2_init_89 : decode cX2_init 89 = .ok (.iload_n 1, 1) := by decide +kernel
theorem dX2_init_90 : decode cX2_init 90 = .ok (.iconst 4, 1) := by decide +kernel
theorem dX2_init_91 : decode cX2_init 91 = .ok (.if_icmp .ge 22, 3) := by decide +kernel
theorem dX2_init_94 : decode cX2_init 94 = .ok (.aload_n 0, 1) := by decide +kernel
theorem dX2_init_95 : decode cX2_init 95 = .ok (.getfield 38, 3) := by decide +kernel
theorem dX2_init_98 : decode cX2_init 98 = .ok (.iload_n 1, 1) := by decide +kernel
theorem dX2_init_99 : decode cX2_init 99 = .ok (.new 36, 3) := by decide +kernel
theorem dX2_init_102 : decode cX2_init 102 = .ok (.dup, 1) := by decide +kernel
theorem dX2_init_103 : decode cX2_init 103 = .ok (.invokespecial 49, 3) := by decide +kernel
theorem dX2_init_106 : decode cX2_init 106 = .ok (.aastore, 1) := by decide +kernel
theorem dX2_init_107 : decode cX2_init 107 = .ok (.iinc 1 1, 3) := by decide +kernel
theorem dX2_init_110 : decode cX2_init 110 = .ok (.goto (-21), 3) := by decide +kernel
theorem dX2_init_113 : decode cX2_init 113 = .ok (.iconst 0, 1) := by decide +kernel
theorem dX2_init_114 : decode cX2_init 114 = .ok (.istore_n 1, 1) := by decide +kernel
theorem dX2_init_115 : decode cX2_init 115 = .ok (.iload_n 1, 1) := by decide +kernel
theorem dX2_init_116 : decode cX2_init 116 = .ok (.bipush 12, 2) := by decide +kernel
theorem dX2_init_118 : decode cX2_init 118 = .ok (.if_icmp .ge 22, 3) := by decide +kernel
theorem dX2_init_121 : decode cX2_init 121 = .ok (.aload_n 0, 1) := by decide +kernel
theorem dX2_init_122 : decode cX2_init 122 = .ok (.getfield 44, 3) := by decide +kernel
theorem dX2_init_125 : decode cX2_init 125 = .ok (.iload_n 1, 1) := by decide +kernel
theorem dX2_init_126 : decode cX2_init 126 = .ok (.new 42, 3) := by decide +kernel
theorem dX2_init_129 : decode cX2_init 129 = .ok (.dup, 1) := by decide +kernel
theorem dX2_init_130 : decode cX2_init 130 = .ok (.invokespecial 50, 3) := by decide +kernel
theorem dX2_init_133 : decode cX2_init 133 = .ok (.aastore, 1) := by decide +kernel
theorem dX2_init_134 : decode cX2_init 134 = .ok (.iinc 1 1, 3) := by decide +kernel
theorem dX2_init_137 : decode cX2_init 137 = .ok (.goto (-22), 3) := by decide +kernel
theorem dX2_init_140 : decode cX2_init 140 = .ok (.return_, 1) := by decide +kernel
theorem dX2_copyFrom_0 : decode cX2_copyFrom 0 = .ok (.aload_n 0, 1) := by decide +kernel
theorem dX2_copyFrom_1 : decode cX2_copyFrom 1 = .ok (.aload_n 1, 1) := by decide +kernel
theorem dX2_copyFrom_2 : decode cX2_copyFrom 2 = .ok (.getfield 9, 3) := by decide +kernel
theorem dX2_copyFrom_5 : decode cX2_copyFrom 5 = .ok (.putfield 9, 3) := by decide +kernel
theorem dX2_copyFrom_8 : decode cX2_copyFrom 8 = .ok (.aload_n 0, 1) := by decide +kernel
theorem dX2_copyFrom_9 : decode cX2_copyFrom 9 = .ok (.aload_n 1, 1) := by decide +kernel
theorem dX2_copyFrom_10 : decode cX2_copyFrom 10 = .ok (.getfield 15, 3) := by decide +kernel
theorem dX2_copyFrom_13 : decode cX2_copyFrom 13 = .ok (.putfield 15, 3) := by decide +kernel
theorem dX2_copyFrom_16 : decode cX2_copyFrom 16 = .ok (.aload_n 0, 1) := by decide +kernel
theorem dX2_copyFrom_17 : decode cX2_copyFrom 17 = .ok (.aload_n 1, 1) := by decide +kernel
theorem dX2_copyFrom_18 : decode cX2_copyFrom 18 = .ok (.getfield 18, 3) := by decide +kernel
theorem dX2_copyFrom_21 : decode cX2_copyFrom 21 = .ok (.putfield 18, 3) := by decide +kernel
theorem dX2_copyFrom_24 : decode cX2_copyFrom 24 = .ok (.aload_n 0, 1) := by decide +kernel
theorem dX2_copyFrom_25 : decode cX2_copyFrom 25 = .ok (.aload_n 1, 1) := by decide +kernel
theorem dX2_copyFrom_26 : decode cX2_copyFrom 26 = .ok (.getfield 21, 3) := by decide +kernel
theorem dX2_copyFrom_29 : decode cX2_copyFrom 29 = .ok (.putfield 21, 3) := by decide +kernel
theorem dX2_copyFrom_32 : decode cX2_copyFrom 32 = .ok (.aload_n 0, 1) := by decide +kernel
theorem dX2_copyFrom_33 : decode cX2_copyFrom 33 = .ok (.aload_n 1, 1) := by decide +kernel
theorem dX2_copyFrom_34 : decode cX2_copyFrom 34 = .ok (.getfield 24, 3) := by decide +kernel
theorem dX2_copyFrom_37 : decode cX2_copyFrom 37 = .ok (.putfield 24, 3) := by decide +kernel
theorem dX2_copyFrom_40 : decode cX2_copyFrom 40 = .ok (.aload_n 0, 1) := by decide +kernel
theorem dX2_copyFrom_41 : decode cX2_copyFrom 41 = .ok (.aload_n 1, 1) := by decide +kernel
theorem dX2_copyFrom_42 : decode cX2_copyFrom 42 = .ok (.getfield 27, 3) := by decide +kernel
theorem dX2_copyFrom_45 : decode cX2_copyFrom 45 = .ok (.putfield 27, 3) := by decide +kernel
theorem dX2_copyFrom_48 : decode cX2_copyFrom 48 = .ok (.iconst 0, 1) := by decide +kernel
theorem dX2_copyFrom_49 : decode cX2_copyFrom 49 = .ok (.istore_n 2, 1) := by decide +kernel
theorem dX2_copyFrom_50 : decode cX2_copyFrom 50 = .ok (.iload_n 2, 1) := by decide +kernel
theorem dX2_copyFrom_51 : decode cX2_copyFrom 51 = .ok (.bipush 6, 2) := by decide +kernel
theorem dX2_copyFrom_53 : decode cX2_copyFrom 53 = .ok (.if_icmp .ge 24, 3) := by decide +kernel
theorem dX2_copyFrom_56 : decode cX2_copyFrom 56 = .ok (.aload_n 0, 1) := by decide +kernel
theorem dX2_copyFrom_57 : decode cX2_copyFrom 57 = .ok (.getfield 32, 3) := by decide +kernel
theorem dX2_copyFrom_60 : decode cX2_copyFrom 60 = .ok (.iload_n 2, 1) := by decide +kernel
theorem dX2_copyFrom_61 : decode cX2_copyFrom 61 = .ok (.aaload, 1) := by decide +kernel
theorem dX2_copyFrom_62 : decode cX2_copyFrom 62 = .ok (.aload_n 1, 1) := by decide +kernel
theorem dX2_copyFrom_63 : decode cX2_copyFrom 63 = .ok (.getfield 32, 3) := by decide +kernel
theorem dX2_copyFrom_66 : decode cX2_copyFrom 66 = .ok (.iload_n 2, 1) := by decide +kernel
theorem dX2_copyFrom_67 : decode cX2_copyFrom 67 = .ok (.aaload, 1) := by decide +kernel
theorem dX2_copyFrom_68 : decode cX2_copyFrom 68 = .ok (.invokevirtual 51, 3) := by decide +kernel
theorem dX2_copyFrom_71 : decode cX2_copyFrom 71 = .ok (.iinc 2 1, 3) := by decide +kernel
theorem dX2_copyFrom_74 : decode cX2_copyFrom 74 = .ok (.goto (-24), 3) := by decide +kernel
theorem dX2_copyFrom_77 : decode cX2_copyFrom 77 = .ok (.iconst 0, 1) := by decide +kernel
theorem dX2_copyFrom_78 : decode cX2_copyFrom 78 = .ok (.istore_n 2, 1) := by decide +kernel
theorem dX2_copyFrom_79 : decode cX2_copyFrom 79 = .ok (.iload_n 2, 1) := by decide +kernel
theorem dX2_copyFrom_80 : decode cX2_copyFrom 80 = .ok (.iconst 4, 1) := by decide +kernel
theorem dX2_copyFrom_81 : decode cX2_copyFrom 81 = .ok (.if_icmp .ge 24, 3) := by decide +kernel
theorem dX2_copyFrom_84 : decode cX2_copyFrom 84 = .ok (.aload_n 0, 1) := by decide +kernel
theorem dX2_copyFrom_85 : decode cX2_copyFrom 85 = .ok (.getfield 38, 3) := by decide +kernel
theorem dX2_copyFrom_88 : decode cX2_copyFrom 88 = .ok (.iload_n 2, 1) := by decide +kernel
theorem dX2_copyFrom_89 : decode cX2_copyFrom 89 = .ok (.aaload, 1) := by decide +kernel
theorem dX2_copyFrom_90 : decode cX2_copyFrom 90 = .ok (.aload_n 1, 1) := by decide +kernel
theorem dX2_copyFrom_91 : decode cX2_copyFrom 91 = .ok (.getfield 38, 3) := by decide +kernel
theorem dX2_copyFrom_94 : decode cX2_copyFrom 94 = .ok (.iload_n 2, 1) := by decide +kernel
theorem dX2_copyFrom_95 : decode cX2_copyFrom 95 = .ok (.aaload, 1) := by decide +kernel
theorem dX2_copyFrom_96 : decode cX2_copyFrom 96 = .ok (.invokevirtual 55, 3) := by decide +kernel
theorem dX2_copyFrom_99 : decode cX2_copyFrom 99 = .ok (.iinc 2 1, 3) := by decide +kernel
theorem dX2_copyFrom_102 : decode cX2_copyFrom 102 = .ok (.goto (-23), 3) := by decide +kernel
theorem dX2_copyFrom_105 : decode cX2_copyFrom 105 = .ok (.iconst 0, 1) := by decide +kernel
theorem dX2_copyFrom_106 : decode cX2_copyFrom 106 = .ok (.istore_n 2, 1) := by decide +kernel
theorem dX2_copyFrom_107 : decode cX2_copyFrom 107 = .ok (.iload_n 2, 1) := by decide +kernel
theorem dX2_copyFrom_108 : decode cX2_copyFrom 108 = .ok (.bipush 12, 2) := by decide +kernel
theorem dX2_copyFrom_110 : decode cX2_copyFrom 110 = .ok (.if_icmp .ge 24, 3) := by decide +kernel
theorem dX2_copyFrom_113 : decode cX2_copyFrom 113 = .ok (.aload_n 0, 1) := by decide +kernel
theorem dX2_copyFrom_114 : decode cX2_copyFrom 114 = .ok (.getfield 44, 3) := by decide +kernel
theorem dX2_copyFrom_117 : decode cX2_copyFrom 117 = .ok (.iload_n 2, 1) := by decide +kernel
theorem dX2_copyFrom_118 : decode cX2_copyFrom 118 = .ok (.aaload, 1) := by decide +kernel
theorem dX2_copyFrom_119 : decode cX2_copyFrom 119 = .ok (.aload_n 1, 1) := by decide +kernel
theorem dX2_copyFrom_120 : decode cX2_copyFrom 120 = .ok (.getfield 44, 3) := by decide +kernel
theorem dX2_copyFrom_123 : decode cX2_copyFrom 123 = .ok (.iload_n 2, 1) := by decide +kernel
theorem dX2_copyFrom_124 : decode cX2_copyFrom 124 = .ok (.aaload, 1) := by decide +kernel
theorem dX2_copyFrom_125 : decode cX2_copyFrom 125 = .ok (.invokevirtual 58, 3) := by decide +kernel
theorem dX2_copyFrom_128 : decode cX2_copyFrom 128 = .ok (.iinc 2 1, 3) := by decide +kernel
theorem dX2_copyFrom_131 : decode cX2_copyFrom 131 = .ok (.goto (-24), 3) := by decide +kernel
theorem dX2_copyFrom_134 : decode cX2_copyFrom 134 = .ok (.return_, 1) := by decide +kernel
theorem dX2_hasHousehold_0 : decode cX2_hasHousehold 0 = .ok (.iload_n 1, 1) := by decide +kernel
theorem dX2_hasHousehold_1 : decode cX2_hasHousehold 1 = .ok (.iconst 0, 1) := by decide +kernel
theorem dX2_hasHousehold_2 : decode cX2_hasHousehold 2 = .ok (.aload_n 0, 1) := by decide +kernel
theorem dX2_hasHousehold_3 : decode cX2_hasHousehold 3 = .ok (.getfield 21, 3) := by decide +kernel
theorem dX2_hasHousehold_6 : decode cX2_hasHousehold 6 = .ok (.iconst 1, 1) := by decide +kernel
theorem dX2_hasHousehold_7 : decode cX2_hasHousehold 7 = .ok (.isub, 1) := by decide +kernel
theorem dX2_hasHousehold_8 : decode cX2_hasHousehold 8 = .ok (.invokestatic 61, 3) := by decide +kernel
theorem dX2_hasHousehold_11 : decode cX2_hasHousehold 11 = .ok (.ireturn, 1) := by decide +kernel
theorem dX2_hasBank_0 : decode cX2_hasBank 0 = .ok (.iload_n 1, 1) := by decide +kernel
theorem dX2_hasBank_1 : decode cX2_hasBank 1 = .ok (.iconst 0, 1) := by decide +kernel
theorem dX2_hasBank_2 : decode cX2_hasBank 2 = .ok (.aload_n 0, 1) := by decide +kernel
theorem dX2_hasBank_3 : decode cX2_hasBank 3 = .ok (.getfield 24, 3) := by decide +kernel
theorem dX2_hasBank_6 : decode cX2_hasBank 6 = .ok (.iconst 1, 1) := by decide +kernel
theorem dX2_hasBank_7 : decode cX2_hasBank 7 = .ok (.isub, 1) := by decide +kernel
theorem dX2_hasBank_8 : decode cX2_hasBank 8 = .ok (.invokestatic 61, 3) := by decide +kernel
theorem dX2_hasBank_11 : decode cX2_hasBank 11 = .ok (.ireturn, 1) := by decide +kernel
theorem dX2_hasStack_0 : decode cX2_hasStack 0 = .ok (.iload_n 1, 1) := by decide +kernel
theorem dX2_hasStack_1 : decode cX2_hasStack 1 = .ok (.iconst 0, 1) := by decide +kernel
theorem dX2_hasStack_2 : decode cX2_hasStack 2 = .ok (.aload_n 0, 1) := by decide +kernel
theorem dX2_hasStack_3 : decode cX2_hasStack 3 = .ok (.getfield 27, 3) := by decide +kernel
theorem dX2_hasStack_6 : decode cX2_hasStack 6 = .ok (.iconst 1, 1) := by decide +kernel
theorem dX2_hasStack_7 : decode cX2_hasStack 7 = .ok (.isub, 1) := by decide +kernel
theorem dX2_hasStack_8 : decode cX2_hasStack 8 = .ok (.invokestatic 61, 3) := by decide +kernel
theorem dX2_hasStack_11 : decode cX2_hasStack 11 = .ok (.ireturn, 1) := by decide +kernel
theorem dX2_addHousehold_0 : decode cX2_addHousehold 0 = .ok (.iload_n 1, 1) := by decide +kernel
theorem dX2_addHousehold_1 : decode cX2_addHousehold 1 = .ok (.iconst 1, 1) := by decide +kernel
theorem dX2_addHousehold_2 : decode cX2_addHousehold 2 = .ok (.bipush 9, 2) := by decide +kernel
theorem dX2_addHousehold_4 : decode cX2_addHousehold 4 = .ok (.invokestatic 61, 3) := by decide +kernel
theorem dX2_addHousehold_7 : decode cX2_addHousehold 7 = .ok (.ifCond .ne 5, 3) := by decide +kernel
theorem dX2_addHousehold_10 : decode cX2_addHousehold 10 = .ok (.iconst (-1), 1) := by decide +kernel
theorem dX2_addHousehold_11 : decode cX2_addHousehold 11 = .ok (.ireturn, 1) := by decide +kernel
theorem dX2_addHousehold_12 : decode cX2_addHousehold 12 = .ok (.aload_n 0, 1) := by decide +kernel
theorem dX2_addHousehold_13 : decode cX2_addHousehold 13 = .ok (.getfield 21, 3) := by decide +kernel
theorem dX2_addHousehold_16 : decode cX2_addHousehold 16 = .ok (.bipush 6, 2) := by decide +kernel
theorem dX2_addHousehold_18 : decode cX2_addHousehold 18 = .ok (.if_icmp .lt 6, 3) := by decide +kernel
theorem dX2_addHousehold_21 : decode cX2_addHousehold 21 = .ok (.bipush (-3), 2) := by decide +kernel
theorem dX2_addHousehold_23 : decode cX2_addHousehold 23 = .ok (.ireturn, 1) := by decide +kernel
theorem dX2_addHousehold_24 : decode cX2_addHousehold 24 = .ok (.aload_n 0, 1) := by decide +kernel
theorem dX2_addHousehold_25 : decode cX2_addHousehold 25 = .ok (.getfield 32, 3) := by decide +kernel
theorem dX2_addHousehold_28 : decode cX2_addHousehold 28 = .ok (.aload_n 0, 1) := by decide +kernel
theorem dX2_addHousehold_29 : decode cX2_addHousehold 29 = .ok (.getfield 21, 3) := by decide +kernel
theorem dX2_addHousehold_32 : decode cX2_addHousehold 32 = .ok (.aaload, 1) := by decide +kernel
theorem dX2_addHousehold_33 : decode cX2_addHousehold 33 = .ok (.iload_n 1, 1) := by decide +kernel
theorem dX2_addHousehold_34 : decode cX2_addHousehold 34 = .ok (.putfield 65, 3) := by decide +kernel
theorem dX2_addHousehold_37 : decode cX2_addHousehold 37 = .ok (.aload_n 0, 1) := by decide +kernel
theorem dX2_addHousehold_38 : decode cX2_addHousehold 38 = .ok (.dup, 1) := by decide +kernel
theorem dX2_addHousehold_39 : decode cX2_addHousehold 39 = .ok (.getfield 21, 3) := by decide +kernel
theorem dX2_addHousehold_42 : decode cX2_addHousehold 42 = .ok (.iconst 1, 1) := by decide +kernel
theorem dX2_addHousehold_43 : decode cX2_addHousehold 43 = .ok (.iadd, 1) := by decide +kernel
theorem dX2_addHousehold_44 : decode cX2_addHousehold 44 = .ok (.putfield 21, 3) := by decide +kernel
theorem dX2_addHousehold_47 : decode cX2_addHousehold 47 = .ok (.aload_n 0, 1) := by decide +kernel
theorem dX2_addHousehold_48 : decode cX2_addHousehold 48 = .ok (.getfield 21, 3) := by decide +kernel
theorem dX2_addHousehold_51 : decode cX2_addHousehold 51 = .ok (.iconst 1, 1) := by decide +kernel
theorem dX2_addHousehold_52 : decode cX2_addHousehold 52 = .ok (.isub, 1) := by decide +kernel
theorem dX2_addHousehold_53 : decode cX2_addHousehold 53 = .ok (.ireturn, 1) := by decide +kernel
theorem dX2_changeSpades_0 : decode cX2_changeSpades 0 = .ok (.aload_n 0, 1) := by decide +kernel
theorem dX2_changeSpades_1 : decode cX2_changeSpades 1 = .ok (.iload_n 1, 1) := by decide +kernel
theorem dX2_changeSpades_2 : decode cX2_changeSpades 2 = .ok (.invokevirtual 68, 3) := by decide +kernel
theorem dX2_changeSpades_5 : decode cX2_changeSpades 5 = .ok (.ifCond .eq 13, 3) := by decide +kernel
theorem dX2_changeSpades_8 : decode cX2_changeSpades 8 = .ok (.iload_n 2, 1) := by decide +kernel
theorem dX2_changeSpades_9 : decode cX2_changeSpades 9 = .ok (.iconst 1, 1) := by decide +kernel
theorem dX2_changeSpades_10 : decode cX2_changeSpades 10 = .ok (.bipush 9, 2) := by decide +kernel
theorem dX2_changeSpades_12 : decode cX2_changeSpades 12 = .ok (.invokestatic 61, 3) := by decide +kernel
theorem dX2_changeSpades_15 : decode cX2_changeSpades 15 = .ok (.ifCond .ne 5, 3) := by decide +kernel
theorem dX2_changeSpades_18 : decode cX2_changeSpades 18 = .ok (.iconst (-1), 1) := by decide +kernel
theorem dX2_changeSpades_19 : decode cX2_changeSpades 19 = .ok (.ireturn, 1) := by decide +kernel
theorem dX2_changeSpades_20 : decode cX2_changeSpades 20 = .ok (.aload_n 0, 1) := by decide +kernel
theorem dX2_changeSpades_21 : decode cX2_changeSpades 21 = .ok (.getfield 32, 3) := by decide +kernel
theorem dX2_changeSpades_24 : decode cX2_changeSpades 24 = .ok (.iload_n 1, 1) := by decide +kernel
theorem dX2_changeSpades_25 : decode cX2_changeSpades 25 = .ok (.aaload, 1) := by decide +kernel
theorem dX2_changeSpades_26 : decode cX2_changeSpades 26 = .ok (.getfield 65, 3) := by decide +kernel
theorem dX2_changeSpades_29 : decode cX2_changeSpades 29 = .ok (.istore_n 3, 1) := by decide +kernel
theorem dX2_changeSpades_30 : decode cX2_changeSpades 30 = .ok (.aload_n 0, 1) := by decide +kernel
theorem dX2_changeSpades_31 : decode cX2_changeSpades 31 = .ok (.getfield 32, 3) := by decide +kernel
theorem dX2_changeSpades_34 : decode cX2_changeSpades 34 = .ok (.iload_n 1, 1) := by decide +kernel
theorem dX2_changeSpades_35 : decode cX2_changeSpades 35 = .ok (.aaload, 1) := by decide +kernel
theorem dX2_changeSpades_36 : decode cX2_changeSpades 36 = .ok (.iload_n 2, 1) := by decide +kernel
theorem dX2_changeSpades_37 : decode cX2_changeSpades 37 = .ok (.putfield 65, 3) := by decide +kernel
theorem dX2_changeSpades_40 : decode cX2_changeSpades 40 = .ok (.iload_n 3, 1) := by decide +kernel
theorem dX2_changeSpades_41 : decode cX2_changeSpades 41 = .ok (.ireturn, 1) := by decide +kernel
theorem dX2_openBank_0 : decode cX2_openBank 0 = .ok (.iload_n 1, 1) := by decide +kernel
theorem dX2_openBank_1 : decode cX2_openBank 1 = .ok (.iconst 0, 1) := by decide +kernel
theorem dX2_openBank_2 : decode cX2_openBank 2 = .ok (.sipush 5000, 3) := by decide +kernel
theorem dX2_openBank_5 : decode cX2_openBank 5 = .ok (.invokestatic 61, 3) := by decide +kernel
theorem dX2_openBank_8 : decode cX2_openBank 8 = .ok (.ifCond .eq 15, 3) := by decide +kernel
theorem dX2_openBank_11 : decode cX2_openBank 11 = .ok (.iload_n 2, 1) := by decide +kernel
theorem dX2_openBank_12 : decode cX2_openBank 12 = .ok (.bipush 100, 2) := by decide +kernel
theorem dX2_openBank_14 : decode cX2_openBank 14 = .ok (.sipush 3000, 3) := by decide +kernel
theorem dX2_openBank_17 : decode cX2_openBank 17 = .ok (.invokestatic 61, 3) := by decide +kernel
theorem dX2_openBank_20 : decode cX2_openBank 20 = .ok (.ifCond .ne 5, 3) := by decide +kernel
theorem dX2_openBank_23 : decode cX2_openBank 23 = .ok (.iconst (-1), 1) := by decide +kernel
theorem dX2_openBank_24 : decode cX2_openBank 24 = .ok (.ireturn, 1) := by decide +kernel
theorem dX2_openBank_25 : decode cX2_openBank 25 = .ok (.aload_n 0, 1) := by decide +kernel
theorem dX2_openBank_26 : decode cX2_openBank 26 = .ok (.getfield 24, 3) := by decide +kernel
theorem dX2_openBank_29 : decode cX2_openBank 29 = .ok (.iconst 4, 1) := by decide +kernel
theorem dX2_openBank_30 : decode cX2_openBank 30 = .ok (.if_icmp .lt 6, 3) := by decide +kernel
theorem dX2_openBank_33 : decode cX2_openBank 33 = .ok (.bipush (-3), 2) := by decide +kernel
theorem dX2_openBank_35 : decode cX2_openBank 35 = .ok (.ireturn, 1) := by decide +kernel
theorem dX2_openBank_36 : decode cX2_openBank 36 = .ok (.aload_n 0, 1) := by decide +kernel
theorem dX2_openBank_37 : decode cX2_openBank 37 = .ok (.getfield 38, 3) := by decide +kernel
theorem dX2_openBank_40 : decode cX2_openBank 40 = .ok (.aload_n 0, 1) := by decide +kernel
theorem dX2_openBank_41 : decode cX2_openBank 41 = .ok (.getfield 24, 3) := by decide +kernel
theorem dX2_openBank_44 : decode cX2_openBank 44 = .ok (.aaload, 1) := by decide +kernel
theorem dX2_openBank_45 : decode cX2_openBank 45 = .ok (.iload_n 1, 1) := by decide +kernel
theorem dX2_openBank_46 : decode cX2_openBank 46 = .ok (.putfield 72, 3) := by decide +kernel
theorem dX2_openBank_49 : decode cX2_openBank 49 = .ok (.aload_n 0, 1) := by decide +kernel
theorem dX2_openBank_50 : decode cX2_openBank 50 = .ok (.getfield 38, 3) := by decide +kernel
theorem dX2_openBank_53 : decode cX2_openBank 53 = .ok (.aload_n 0, 1) := by decide +kernel
theorem dX2_openBank_54 : decode cX2_openBank 54 = .ok (.getfield 24, 3) := by decide +kernel
theorem dX2_openBank_57 : decode cX2_openBank 57 = .ok (.aaload, 1) := by decide +kernel
theorem dX2_openBank_58 : decode cX2_openBank 58 = .ok (.iload_n 2, 1) := by decide +kernel
theorem dX2_openBank_59 : decode cX2_openBank 59 = .ok (.putfield 75, 3) := by decide +kernel
theorem dX2_openBank_62 : decode cX2_openBank 62 = .ok (.aload_n 0, 1) := by decide +kernel
theorem dX2_openBank_63 : decode cX2_openBank 63 = .ok (.dup, 1) := by decide +kernel
theorem dX2_openBank_64 : decode cX2_openBank 64 = .ok (.getfield 24, 3) := by decide +kernel
theorem dX2_openBank_67 : decode cX2_openBank 67 = .ok (.iconst 1, 1) := by decide +kernel
theorem dX2_openBank_68 : decode cX2_openBank 68 = .ok (.iadd, 1) := by decide +kernel
theorem dX2_openBank_69 : decode cX2_openBank 69 = .ok (.putfield 24, 3) := by decide +kernel
theorem dX2_openBank_72 : decode cX2_openBank 72 = .ok (.aload_n 0, 1) := by decide +kernel
theorem dX2_openBank_73 : decode cX2_openBank 73 = .ok (.getfield 24, 3) := by decide +kernel
theorem dX2_openBank_76 : decode cX2_openBank 76 = .ok (.iconst 1, 1) := by decide +kernel
theorem dX2_openBank_77 : decode cX2_openBank 77 = .ok (.isub, 1) := by decide +kernel
theorem dX2_openBank_78 : decode cX2_openBank 78 = .ok (.ireturn, 1) := by decide +kernel
theorem dX2_changeAllowance_0 : decode cX2_changeAllowance 0 = .ok (.aload_n 0, 1) := by decide +kernel
theorem dX2_changeAllowance_1 : decode cX2_changeAllowance 1 = .ok (.iload_n 1, 1) := by decide +kernel
theorem dX2_changeAllowance_2 : decode cX2_changeAllowance 2 = .ok (.invokevirtual 78, 3) := by decide +kernel
theorem dX2_changeAllowance_5 : decode cX2_changeAllowance 5 = .ok (.ifCond .eq 14, 3) := by decide +kernel
theorem dX2_changeAllowance_8 : decode cX2_changeAllowance 8 = .ok (.iload_n 2, 1) := by decide +kernel
theorem dX2_changeAllowance_9 : decode cX2_changeAllowance 9 = .ok (.iconst 0, 1) := by decide +kernel
theorem dX2_changeAllowance_10 : decode cX2_changeAllowance 10 = .ok (.sipush 5000, 3) := by decide +kernel
theorem dX2_changeAllowance_13 : decode cX2_changeAllowance 13 = .ok (.invokestatic 61, 3) := by decide +kernel
theorem dX2_changeAllowance_16 : decode cX2_changeAllowance 16 = .ok (.ifCond .ne 5, 3) := by decide +kernel
theorem dX2_changeAllowance_19 : decode cX2_changeAllowance 19 = .ok (.iconst (-1), 1) := by decide +kernel
theorem dX2_changeAllowance_20 : decode cX2_changeAllowance 20 = .ok (.ireturn, 1) := by decide +kernel
theorem dX2_changeAllowance_21 : decode cX2_changeAllowance 21 = .ok (.aload_n 0, 1) := by decide +kernel
theorem dX2_changeAllowance_22 : decode cX2_changeAllowance 22 = .ok (.getfield 38, 3) := by decide +kernel
theorem dX2_changeAllowance_25 : decode cX2_changeAllowance 25 = .ok (.iload_n 1, 1) := by decide +kernel
theorem dX2_changeAllowance_26 : decode cX2_changeAllowance 26 = .ok (.aaload, 1) := by decide +kernel
theorem dX2_changeAllowance_27 : decode cX2_changeAllowance 27 = .ok (.getfield 72, 3) := by decide +kernel
theorem dX2_changeAllowance_30 : decode cX2_changeAllowance 30 = .ok (.istore_n 3, 1) := by decide +kernel
theorem dX2_changeAllowance_31 : decode cX2_changeAllowance 31 = .ok (.aload_n 0, 1) := by decide +kernel
theorem dX2_changeAllowance_32 : decode cX2_changeAllowance 32 = .ok (.getfield 38, 3) := by decide +kernel
theorem dX2_changeAllowance_35 : decode cX2_changeAllowance 35 = .ok (.iload_n 1, 1) := by decide +kernel
theorem dX2_changeAllowance_36 : decode cX2_changeAllowance 36 = .ok (.aaload, 1) := by decide +kernel
theorem dX2_changeAllowance_37 : decode cX2_changeAllowance 37 = .ok (.iload_n 2, 1) := by decide +kernel
theorem dX2_changeAllowance_38 : decode cX2_changeAllowance 38 = .ok (.putfield 72, 3) := by decide +kernel
theorem dX2_changeAllowance_41 : decode cX2_changeAllowance 41 = .ok (.iload_n 3, 1) := by decide +kernel
theorem dX2_changeAllowance_42 : decode cX2_changeAllowance 42 = .ok (.ireturn, 1) := by decide +kernel
theorem dX2_changeRight_0 : decode cX2_changeRight 0 = .ok (.aload_n 0, 1) := by decide +kernel
theorem dX2_changeRight_1 : decode cX2_changeRight 1 = .ok (.iload_n 1, 1) := by decide +kernel
theorem dX2_changeRight_2 : decode cX2_changeRight 2 = .ok (.invokevirtual 68, 3) := by decide +kernel
theorem dX2_changeRight_5 : decode cX2_changeRight 5 = .ok (.ifCond .eq 20, 3) := by decide +kernel
theorem dX2_changeRight_8 : decode cX2_changeRight 8 = .ok (.aload_n 0, 1) := by decide +kernel
theorem dX2_changeRight_9 : decode cX2_changeRight 9 = .ok (.iload_n 2, 1) := by decide +kernel
theorem dX2_changeRight_10 : decode cX2_changeRight 10 = .ok (.invokevirtual 78, 3) := by decide +kernel
theorem dX2_changeRight_13 : decode cX2_changeRight 13 = .ok (.ifCond .eq 12, 3) := by decide +kernel
theorem dX2_changeRight_16 : decode cX2_changeRight 16 = .ok (.iload_n 3, 1) := by decide +kernel
theorem dX2_changeRight_17 : decode cX2_changeRight 17 = .ok (.iconst 0, 1) := by decide +kernel
theorem dX2_changeRight_18 : decode cX2_changeRight 18 = .ok (.iconst 1, 1) := by decide +kernel
theorem dX2_changeRight_19 : decode cX2_changeRight 19 = .ok (.invokestatic 61, 3) := by decide +kernel
theorem dX2_changeRight_22 : decode cX2_changeRight 22 = .ok (.ifCond .ne 5, 3) := by decide +kernel
theorem dX2_changeRight_25 : decode cX2_changeRight 25 = .ok (.iconst (-1), 1) := by decide +kernel
theorem dX2_changeRight_26 : decode cX2_changeRight 26 = .ok (.ireturn, 1) := by decide +kernel
theorem dX2_changeRight_27 : decode cX2_changeRight 27 = .ok (.aload_n 0, 1) := by decide +kernel
theorem dX2_changeRight_28 : decode cX2_changeRight 28 = .ok (.getfield 38, 3) := by decide +kernel
theorem dX2_changeRight_31 : decode cX2_changeRight 31 = .ok (.iload_n 2, 1) := by decide +kernel
theorem dX2_changeRight_32 : decode cX2_changeRight 32 = .ok (.aaload, 1) := by decide +kernel
theorem dX2_changeRight_33 : decode cX2_changeRight 33 = .ok (.getfield 81, 3) := by decide +kernel
theorem dX2_changeRight_36 : decode cX2_changeRight 36 = .ok (.iload_n 1, 1) := by decide +kernel
theorem dX2_changeRight_37 : decode cX2_changeRight 37 = .ok (.iload_n 3, 1) := by decide +kernel
theorem dX2_changeRight_38 : decode cX2_changeRight 38 = .ok (.iconst 1, 1) := by decide +kernel
theorem dX2_changeRight_39 : decode cX2_changeRight 39 = .ok (.if_icmp .ne 7, 3) := by decide +kernel
theorem dX2_changeRight_42 : decode cX2_changeRight 42 = .ok (.iconst 1, 1) := by decide +kernel
theorem dX2_changeRight_43 : decode cX2_changeRight 43 = .ok (.goto 4, 3) := by decide +kernel
theorem dX2_changeRight_46 : decode cX2_changeRight 46 = .ok (.iconst 0, 1) := by decide +kernel
theorem dX2_changeRight_47 : decode cX2_changeRight 47 = .ok (.bastore, 1) := by decide +kernel
theorem dX2_changeRight_48 : decode cX2_changeRight 48 = .ok (.aload_n 0, 1) := by decide +kernel
theorem dX2_changeRight_49 : decode cX2_changeRight 49 = .ok (.getfield 38, 3) := by decide +kernel
theorem dX2_changeRight_52 : decode cX2_changeRight 52 = .ok (.iload_n 2, 1) := by decide +kernel
theorem dX2_changeRight_53 : decode cX2_changeRight 53 = .ok (.aaload, 1) := by decide +kernel
theorem dX2_changeRight_54 : decode cX2_changeRight 54 = .ok (.invokevirtual 85, 3) := by decide +kernel
theorem dX2_changeRight_57 : decode cX2_changeRight 57 = .ok (.ireturn, 1) := by decide +kernel
theorem dX2_spadesAt_0 : decode cX2_spadesAt 0 = .ok (.iconst 0, 1) := by decide +kernel
theorem dX2_spadesAt_1 : decode cX2_spadesAt 1 = .ok (.istore_n 2, 1) := by decide +kernel
theorem dX2_spadesAt_2 : decode cX2_spadesAt 2 = .ok (.iconst 0, 1) := by decide +kernel
theorem dX2_spadesAt_3 : decode cX2_spadesAt 3 = .ok (.istore_n 3, 1) := by decide +kernel
theorem dX2_spadesAt_4 : decode cX2_spadesAt 4 = .ok (.iload_n 3, 1) := by decide +kernel
theorem dX2_spadesAt_5 : decode cX2_spadesAt 5 = .ok (.aload_n 0, 1) := by decide +kernel
theorem dX2_spadesAt_6 : decode cX2_spadesAt 6 = .ok (.getfield 21, 3) := by decide +kernel
theorem dX2_spadesAt_9 : decode cX2_spadesAt 9 = .ok (.if_icmp .ge 30, 3) := by decide +kernel
theorem dX2_spadesAt_12 : decode cX2_spadesAt 12 = .ok (.aload_n 1, 1) := by decide +kernel
theorem dX2_spadesAt_13 : decode cX2_spadesAt 13 = .ok (.getfield 81, 3) := by decide +kernel
theorem dX2_spadesAt_16 : decode cX2_spadesAt 16 = .ok (.iload_n 3, 1) := by decide +kernel
theorem dX2_spadesAt_17 : decode cX2_spadesAt 17 = .ok (.baload, 1) := by decide +kernel
theorem dX2_spadesAt_18 : decode cX2_spadesAt 18 = .ok (.ifCond .eq 15, 3) := by decide +kernel
theorem dX2_spadesAt_21 : decode cX2_spadesAt 21 = .ok (.iload_n 2, 1) := by decide +kernel
theorem dX2_spadesAt_22 : decode cX2_spadesAt 22 = .ok (.aload_n 0, 1) := by decide +kernel
theorem dX2_spadesAt_23 : decode cX2_spadesAt 23 = .ok (.getfield 32, 3) := by decide +kernel
theorem dX2_spadesAt_26 : decode cX2_spadesAt 26 = .ok (.iload_n 3, 1) := by decide +kernel
theorem dX2_spadesAt_27 : decode cX2_spadesAt 27 = .ok (.aaload, 1) := by decide +kernel
theorem dX2_spadesAt_28 : decode cX2_spadesAt 28 = .ok (.getfield 65, 3) := by decide +kernel
theorem dX2_spadesAt_31 : decode cX2_spadesAt 31 = .ok (.iadd, 1) := by decide +kernel
theorem dX2_spadesAt_32 : decode cX2_spadesAt 32 = .ok (.istore_n 2, 1) := by decide +kernel
theorem dX2_spadesAt_33 : decode cX2_spadesAt 33 = .ok (.iinc 3 1, 3) := by decide +kernel
theorem dX2_spadesAt_36 : decode cX2_spadesAt 36 = .ok (.goto (-32), 3) := by decide +kernel
theorem dX2_spadesAt_39 : decode cX2_spadesAt 39 = .ok (.iload_n 2, 1) := by decide +kernel
theorem dX2_spadesAt_40 : decode cX2_spadesAt 40 = .ok (.ireturn, 1) := by decide +kernel
theorem dX2_shareOf_0 : decode cX2_shareOf 0 = .ok (.aload_n 0, 1) := by decide +kernel
theorem dX2_shareOf_1 : decode cX2_shareOf 1 = .ok (.aload_n 2, 1) := by decide +kernel
theorem dX2_shareOf_2 : decode cX2_shareOf 2 = .ok (.invokevirtual 89, 3) := by decide +kernel
theorem dX2_shareOf_5 : decode cX2_shareOf 5 = .ok (.istore_n 3, 1) := by decide +kernel
theorem dX2_shareOf_6 : decode cX2_shareOf 6 = .ok (.aload_n 2, 1) := by decide +kernel
theorem dX2_shareOf_7 : decode cX2_shareOf 7 = .ok (.getfield 81, 3) := by decide +kernel
theorem dX2_shareOf_10 : decode cX2_shareOf 10 = .ok (.iload_n 1, 1) := by decide +kernel
theorem dX2_shareOf_11 : decode cX2_shareOf 11 = .ok (.baload, 1) := by decide +kernel
theorem dX2_shareOf_12 : decode cX2_shareOf 12 = .ok (.ifCond .eq 7, 3) := by decide +kernel
theorem dX2_shareOf_15 : decode cX2_shareOf 15 = .ok (.iload_n 3, 1) := by decide +kernel
theorem dX2_shareOf_16 : decode cX2_shareOf 16 = .ok (.ifCond .gt 5, 3) := by decide +kernel
theorem dX2_shareOf_19 : decode cX2_shareOf 19 = .ok (.iconst 0, 1) := by decide +kernel
theorem dX2_shareOf_20 : decode cX2_shareOf 20 = .ok (.ireturn, 1) := by decide +kernel
theorem dX2_shareOf_21 : decode cX2_shareOf 21 = .ok (.aload_n 2, 1) := by decide +kernel
theorem dX2_shareOf_22 : decode cX2_shareOf 22 = .ok (.getfield 72, 3) := by decide +kernel
theorem dX2_shareOf_25 : decode cX2_shareOf 25 = .ok (.istore 4, 2) := by decide +kernel
theorem dX2_shareOf_27 : decode cX2_shareOf 27 = .ok (.iconst 0, 1) := by decide +kernel
theorem dX2_shareOf_28 : decode cX2_shareOf 28 = .ok (.istore 5, 2) := by decide +kernel
theorem dX2_shareOf_30 : decode cX2_shareOf 30 = .ok (.iconst 0, 1) := by decide +kernel
theorem dX2_shareOf_31 : decode cX2_shareOf 31 = .ok (.istore 6, 2) := by decide +kernel
theorem dX2_shareOf_33 : decode cX2_shareOf 33 = .ok (.iload 6, 2) := by decide +kernel
theorem dX2_shareOf_35 : decode cX2_shareOf 35 = .ok (.aload_n 0, 1) := by decide +kernel
theorem dX2_shareOf_36 : decode cX2_shareOf 36 = .ok (.getfield 21, 3) := by decide +kernel
theorem dX2_shareOf_39 : decode cX2_shareOf 39 = .ok (.if_icmp .ge 50, 3) := by decide +kernel
theorem dX2_shareOf_42 : decode cX2_shareOf 42 = .ok (.aload_n 2, 1) := by decide +kernel
theorem dX2_shareOf_43 : decode cX2_shareOf 43 = .ok (.getfield 81, 3) := by decide +kernel
theorem dX2_shareOf_46 : decode cX2_shareOf 46 = .ok (.iload 6, 2) := by decide +kernel
theorem dX2_shareOf_48 : decode cX2_shareOf 48 = .ok (.baload, 1) := by decide +kernel
theorem dX2_shareOf_49 : decode cX2_shareOf 49 = .ok (.ifCond .eq 34, 3) := by decide +kernel
theorem dX2_shareOf_52 : decode cX2_shareOf 52 = .ok (.iload 4, 2) := by decide +kernel
theorem dX2_shareOf_54 : decode cX2_shareOf 54 = .ok (.aload_n 2, 1) := by decide +kernel
theorem dX2_shareOf_55 : decode cX2_shareOf 55 = .ok (.getfield 72, 3) := by decide +kernel
theorem dX2_shareOf_58 : decode cX2_shareOf 58 = .ok (.aload_n 0, 1) := by decide +kernel
theorem dX2_shareOf_59 : decode cX2_shareOf 59 = .ok (.getfield 32, 3) := by decide +kernel
theorem dX2_shareOf_62 : decode cX2_shareOf 62 = .ok (.iload 6, 2) := by decide +kernel
theorem dX2_shareOf_64 : decode cX2_shareOf 64 = .ok (.aaload, 1) := by decide +kernel
theorem dX2_shareOf_65 : decode cX2_shareOf 65 = .ok (.getfield 65, 3) := by decide +kernel
theorem dX2_shareOf_68 : decode cX2_shareOf 68 = .ok (.imul, 1) := by decide +kernel
theorem dX2_shareOf_69 : decode cX2_shareOf 69 = .ok (.iload_n 3, 1) := by decide +kernel
theorem dX2_shareOf_70 : decode cX2_shareOf 70 = .ok (.idiv, 1) := by decide +kernel
theorem dX2_shareOf_71 : decode cX2_shareOf 71 = .ok (.isub, 1) := by decide +kernel
theorem dX2_shareOf_72 : decode cX2_shareOf 72 = .ok (.istore 4, 2) := by decide +kernel
theorem dX2_shareOf_74 : decode cX2_shareOf 74 = .ok (.iload 6, 2) := by decide +kernel
theorem dX2_shareOf_76 : decode cX2_shareOf 76 = .ok (.iload_n 1, 1) := by decide +kernel
theorem dX2_shareOf_77 : decode cX2_shareOf 77 = .ok (.if_icmp .ge 6, 3) := by decide +kernel
theorem dX2_shareOf_80 : decode cX2_shareOf 80 = .ok (.iinc 5 1, 3) := by decide +kernel
theorem dX2_shareOf_83 : decode cX2_shareOf 83 = .ok (.iinc 6 1, 3) := by decide +kernel
theorem dX2_shareOf_86 : decode cX2_shareOf 86 = .ok (.goto (-53), 3) := by decide +kernel
theorem dX2_shareOf_89 : decode cX2_shareOf 89 = .ok (.aload_n 2, 1) := by decide +kernel
theorem dX2_shareOf_90 : decode cX2_shareOf 90 = .ok (.getfield 72, 3) := by decide +kernel
theorem dX2_shareOf_93 : decode cX2_shareOf 93 = .ok (.aload_n 0, 1) := by decide +kernel
theorem dX2_shareOf_94 : decode cX2_shareOf 94 = .ok (.getfield 32, 3) := by decide +kernel
theorem dX2_shareOf_97 : decode cX2_shareOf 97 = .ok (.iload_n 1, 1) := by decide +kernel
theorem dX2_shareOf_98 : decode cX2_shareOf 98 = .ok (.aaload, 1) := by decide +kernel
theorem dX2_shareOf_99 : decode cX2_shareOf 99 = .ok (.getfield 65, 3) := by decide +kernel
theorem dX2_shareOf_102 : decode cX2_shareOf 102 = .ok (.imul, 1) := by decide +kernel
theorem dX2_shareOf_103 : decode cX2_shareOf 103 = .ok (.iload_n 3, 1) := by decide +kernel
theorem dX2_shareOf_104 : decode cX2_shareOf 104 = .ok (.idiv, 1) := by decide +kernel
theorem dX2_shareOf_105 : decode cX2_shareOf 105 = .ok (.istore 6, 2) := by decide +kernel
theorem dX2_shareOf_107 : decode cX2_shareOf 107 = .ok (.iload 5, 2) := by decide +kernel
theorem dX2_shareOf_109 : decode cX2_shareOf 109 = .ok (.iload 4, 2) := by decide +kernel
theorem dX2_shareOf_111 : decode cX2_shareOf 111 = .ok (.if_icmp .ge 10, 3) := by decide +kernel
theorem dX2_shareOf_114 : decode cX2_shareOf 114 = .ok (.iload 6, 2) := by decide +kernel
theorem dX2_shareOf_116 : decode cX2_shareOf 116 = .ok (.iconst 1, 1) := by decide +kernel
theorem dX2_shareOf_117 : decode cX2_shareOf 117 = .ok (.iadd, 1) := by decide +kernel
theorem dX2_shareOf_118 : decode cX2_shareOf 118 = .ok (.goto 5, 3) := by decide +kernel
theorem dX2_shareOf_121 : decode cX2_shareOf 121 = .ok (.iload 6, 2) := by decide +kernel
theorem dX2_shareOf_123 : decode cX2_shareOf 123 = .ok (.ireturn, 1) := by decide +kernel
theorem dX2_stillToCut_0 : decode cX2_stillToCut 0 = .ok (.iconst 0, 1) := by decide +kernel
theorem dX2_stillToCut_1 : decode cX2_stillToCut 1 = .ok (.aload_n 0, 1) := by decide +kernel
theorem dX2_stillToCut_2 : decode cX2_stillToCut 2 = .ok (.iload_n 1, 1) := by decide +kernel
theorem dX2_stillToCut_3 : decode cX2_stillToCut 3 = .ok (.aload_n 2, 1) := by decide +kernel
theorem dX2_stillToCut_4 : decode cX2_stillToCut 4 = .ok (.invokevirtual 93, 3) := by decide +kernel
theorem dX2_stillToCut_7 : decode cX2_stillToCut 7 = .ok (.aload_n 2, 1) := by decide +kernel
theorem dX2_stillToCut_8 : decode cX2_stillToCut 8 = .ok (.getfield 97, 3) := by decide +kernel
theorem dX2_stillToCut_11 : decode cX2_stillToCut 11 = .ok (.iload_n 1, 1) := by decide +kernel
theorem dX2_stillToCut_12 : decode cX2_stillToCut 12 = .ok (.iaload, 1) := by decide +kernel
theorem dX2_stillToCut_13 : decode cX2_stillToCut 13 = .ok (.isub, 1) := by decide +kernel
theorem dX2_stillToCut_14 : decode cX2_stillToCut 14 = .ok (.invokestatic 101, 3) := by decide +kernel
theorem dX2_stillToCut_17 : decode cX2_stillToCut 17 = .ok (.ireturn, 1) := by decide +kernel
theorem dX2_rightPart_0 : decode cX2_rightPart 0 = .ok (.aload_n 0, 1) := by decide +kernel
theorem dX2_rightPart_1 : decode cX2_rightPart 1 = .ok (.iload_n 1, 1) := by decide +kernel
theorem dX2_rightPart_2 : decode cX2_rightPart 2 = .ok (.invokevirtual 68, 3) := by decide +kernel
theorem dX2_rightPart_5 : decode cX2_rightPart 5 = .ok (.ifCond .eq 11, 3) := by decide +kernel
theorem dX2_rightPart_8 : decode cX2_rightPart 8 = .ok (.aload_n 0, 1) := by decide +kernel
theorem dX2_rightPart_9 : decode cX2_rightPart 9 = .ok (.iload_n 2, 1) := by decide +kernel
theorem dX2_rightPart_10 : decode cX2_rightPart 10 = .ok (.invokevirtual 78, 3) := by decide +kernel
theorem dX2_rightPart_13 : decode cX2_rightPart 13 = .ok (.ifCond .ne 5, 3) := by decide +kernel
theorem dX2_rightPart_16 : decode cX2_rightPart 16 = .ok (.iconst (-1), 1) := by decide +kernel
theorem dX2_rightPart_17 : decode cX2_rightPart 17 = .ok (.ireturn, 1) := by decide +kernel
theorem dX2_rightPart_18 : decode cX2_rightPart 18 = .ok (.iload_n 3, 1) := by decide +kernel
theorem dX2_rightPart_19 : decode cX2_rightPart 19 = .ok (.tableswitch 61 0 2 #[25, 37, 49], 25) := by decide +kernel
theorem dX2_rightPart_44 : decode cX2_rightPart 44 = .ok (.aload_n 0, 1) := by decide +kernel
theorem dX2_rightPart_45 : decode cX2_rightPart 45 = .ok (.iload_n 1, 1) := by decide +kernel
theorem dX2_rightPart_46 : decode cX2_rightPart 46 = .ok (.aload_n 0, 1) := by decide +kernel
theorem dX2_rightPart_47 : decode cX2_rightPart 47 = .ok (.getfield 38, 3) := by decide +kernel
theorem dX2_rightPart_50 : decode cX2_rightPart 50 = .ok (.iload_n 2, 1) := by decide +kernel
theorem dX2_rightPart_51 : decode cX2_rightPart 51 = .ok (.aaload, 1) := by decide +kernel
theorem dX2_rightPart_52 : decode cX2_rightPart 52 = .ok (.invokevirtual 93, 3) := by decide +kernel
theorem dX2_rightPart_55 : decode cX2_rightPart 55 = .ok (.ireturn, 1) := by decide +kernel
theorem dX2_rightPart_56 : decode cX2_rightPart 56 = .ok (.aload_n 0, 1) := by decide +kernel
theorem dX2_rightPart_57 : decode cX2_rightPart 57 = .ok (.getfield 38, 3) := by decide +kernel
theorem dX2_rightPart_60 : decode cX2_rightPart 60 = .ok (.iload_n 2, 1) := by decide +kernel
theorem dX2_rightPart_61 : decode cX2_rightPart 61 = .ok (.aaload, 1) := by decide +kernel
theorem dX2_rightPart_62 : decode cX2_rightPart 62 = .ok (.getfield 97, 3) := by decide +kernel
theorem dX2_rightPart_65 : decode cX2_rightPart 65 = .ok (.iload_n 1, 1) := by decide +kernel
theorem dX2_rightPart_66 : decode cX2_rightPart 66 = .ok (.iaload, 1) := by decide +kernel
theorem dX2_rightPart_67 : decode cX2_rightPart 67 = .ok (.ireturn, 1) := by decide +kernel
theorem dX2_rightPart_68 : decode cX2_rightPart 68 = .ok (.aload_n 0, 1) := by decide +kernel
theorem dX2_rightPart_69 : decode cX2_rightPart 69 = .ok (.iload_n 1, 1) := by decide +kernel
theorem dX2_rightPart_70 : decode cX2_rightPart 70 = .ok (.aload_n 0, 1) := by decide +kernel
theorem dX2_rightPart_71 : decode cX2_rightPart 71 = .ok (.getfield 38, 3) := by decide +kernel
theorem dX2_rightPart_74 : decode cX2_rightPart 74 = .ok (.iload_n 2, 1) := by decide +kernel
theorem dX2_rightPart_75 : decode cX2_rightPart 75 = .ok (.aaload, 1) := by decide +kernel
theorem dX2_rightPart_76 : decode cX2_rightPart 76 = .ok (.invokevirtual 107, 3) := by decide +kernel
theorem dX2_rightPart_79 : decode cX2_rightPart 79 = .ok (.ireturn, 1) := by decide +kernel
theorem dX2_rightPart_80 : decode cX2_rightPart 80 = .ok (.iconst (-1), 1) := by decide +kernel
theorem dX2_rightPart_81 : decode cX2_rightPart 81 = .ok (.ireturn, 1) := by decide +kernel
theorem dX2_cutTurfs_0 : decode cX2_cutTurfs 0 = .ok (.aload_n 0, 1) := by decide +kernel
theorem dX2_cutTurfs_1 : decode cX2_cutTurfs 1 = .ok (.iload_n 1, 1) := by decide +kernel
theorem dX2_cutTurfs_2 : decode cX2_cutTurfs 2 = .ok (.invokevirtual 68, 3) := by decide +kernel
theorem dX2_cutTurfs_5 : decode cX2_cutTurfs 5 = .ok (.ifCond .eq 22, 3) := by decide +kernel
theorem dX2_cutTurfs_8 : decode cX2_cutTurfs 8 = .ok (.aload_n 0, 1) := by decide +kernel
theorem dX2_cutTurfs_9 : decode cX2_cutTurfs 9 = .ok (.iload_n 2, 1) := by decide +kernel
theorem dX2_cutTurfs_10 : decode cX2_cutTurfs 10 = .ok (.invokevirtual 78, 3) := by decide +kernel
theorem dX2_cutTurfs_13 : decode cX2_cutTurfs 13 = .ok (.ifCond .eq 14, 3) := by decide +kernel
theorem dX2_cutTurfs_16 : decode cX2_cutTurfs 16 = .ok (.iload_n 3, 1) := by decide +kernel
theorem dX2_cutTurfs_17 : decode cX2_cutTurfs 17 = .ok (.iconst 1, 1) := by decide +kernel
theorem dX2_cutTurfs_18 : decode cX2_cutTurfs 18 = .ok (.sipush 1000, 3) := by decide +kernel
theorem dX2_cutTurfs_21 : decode cX2_cutTurfs 21 = .ok (.invokestatic 61, 3) := by decide +kernel
theorem dX2_cutTurfs_24 : decode cX2_cutTurfs 24 = .ok (.ifCond .ne 5, 3) := by decide +kernel
theorem dX2_cutTurfs_27 : decode cX2_cutTurfs 27 = .ok (.iconst (-1), 1) := by decide +kernel
theorem dX2_cutTurfs_28 : decode cX2_cutTurfs 28 = .ok (.ireturn, 1) := by decide +kernel
theorem dX2_cutTurfs_29 : decode cX2_cutTurfs 29 = .ok (.aload_n 0, 1) := by decide +kernel
theorem dX2_cutTurfs_30 : decode cX2_cutTurfs 30 = .ok (.getfield 38, 3) := by decide +kernel
theorem dX2_cutTurfs_33 : decode cX2_cutTurfs 33 = .ok (.iload_n 2, 1) := by decide +kernel
theorem dX2_cutTurfs_34 : decode cX2_cutTurfs 34 = .ok (.aaload, 1) := by decide +kernel
theorem dX2_cutTurfs_35 : decode cX2_cutTurfs 35 = .ok (.astore 4, 2) := by decide +kernel
theorem dX2_cutTurfs_37 : decode cX2_cutTurfs 37 = .ok (.aload 4, 2) := by decide +kernel
theorem dX2_cutTurfs_39 : decode cX2_cutTurfs 39 = .ok (.getfield 97, 3) := by decide +kernel
theorem dX2_cutTurfs_42 : decode cX2_cutTurfs 42 = .ok (.iload_n 1, 1) := by decide +kernel
theorem dX2_cutTurfs_43 : decode cX2_cutTurfs 43 = .ok (.iaload, 1) := by decide +kernel
theorem dX2_cutTurfs_44 : decode cX2_cutTurfs 44 = .ok (.iload_n 3, 1) := by decide +kernel
theorem dX2_cutTurfs_45 : decode cX2_cutTurfs 45 = .ok (.iadd, 1) := by decide +kernel
theorem dX2_cutTurfs_46 : decode cX2_cutTurfs 46 = .ok (.aload_n 0, 1) := by decide +kernel
theorem dX2_cutTurfs_47 : decode cX2_cutTurfs 47 = .ok (.iload_n 1, 1) := by decide +kernel
theorem dX2_cutTurfs_48 : decode cX2_cutTurfs 48 = .ok (.aload 4, 2) := by decide +kernel
theorem dX2_cutTurfs_50 : decode cX2_cutTurfs 50 = .ok (.invokevirtual 93, 3) := by decide +kernel
theorem dX2_cutTurfs_53 : decode cX2_cutTurfs 53 = .ok (.if_icmp .le 6, 3) := by decide +kernel
theorem dX2_cutTurfs_56 : decode cX2_cutTurfs 56 = .ok (.bipush (-2), 2) := by decide +kernel
theorem dX2_cutTurfs_58 : decode cX2_cutTurfs 58 = .ok (.ireturn, 1) := by decide +kernel
theorem dX2_cutTurfs_59 : decode cX2_cutTurfs 59 = .ok (.aload_n 0, 1) := by decide +kernel
theorem dX2_cutTurfs_60 : decode cX2_cutTurfs 60 = .ok (.getfield 27, 3) := by decide +kernel
theorem dX2_cutTurfs_63 : decode cX2_cutTurfs 63 = .ok (.bipush 12, 2) := by decide +kernel
theorem dX2_cutTurfs_65 : decode cX2_cutTurfs 65 = .ok (.if_icmp .lt 6, 3) := by decide +kernel
theorem dX2_cutTurfs_68 : decode cX2_cutTurfs 68 = .ok (.bipush (-3), 2) := by decide +kernel
theorem dX2_cutTurfs_70 : decode cX2_cutTurfs 70 = .ok (.ireturn, 1) := by decide +kernel
theorem dX2_cutTurfs_71 : decode cX2_cutTurfs 71 = .ok (.aload 4, 2) := by decide +kernel
theorem dX2_cutTurfs_73 : decode cX2_cutTurfs 73 = .ok (.getfield 97, 3) := by decide +kernel
theorem dX2_cutTurfs_76 : decode cX2_cutTurfs 76 = .ok (.iload_n 1, 1) := by decide +kernel
theorem dX2_cutTurfs_77 : decode cX2_cutTurfs 77 = .ok (.dup2, 1) := by decide +kernel
theorem dX2_cutTurfs_78 : decode cX2_cutTurfs 78 = .ok (.iaload, 1) := by decide +kernel
theorem dX2_cutTurfs_79 : decode cX2_cutTurfs 79 = .ok (.iload_n 3, 1) := by decide +kernel
theorem dX2_cutTurfs_80 : decode cX2_cutTurfs 80 = .ok (.iadd, 1) := by decide +kernel
theorem dX2_cutTurfs_81 : decode cX2_cutTurfs 81 = .ok (.iastore, 1) := by decide +kernel
theorem dX2_cutTurfs_82 : decode cX2_cutTurfs 82 = .ok (.aload 4, 2) := by decide +kernel
theorem dX2_cutTurfs_84 : decode cX2_cutTurfs 84 = .ok (.dup, 1) := by decide +kernel
theorem dX2_cutTurfs_85 : decode cX2_cutTurfs 85 = .ok (.getfield 110, 3) := by decide +kernel
theorem dX2_cutTurfs_88 : decode cX2_cutTurfs 88 = .ok (.iload_n 3, 1) := by decide +kernel
theorem dX2_cutTurfs_89 : decode cX2_cutTurfs 89 = .ok (.iadd, 1) := by decide +kernel
theorem dX2_cutTurfs_90 : decode cX2_cutTurfs 90 = .ok (.putfield 110, 3) := by decide +kernel
theorem dX2_cutTurfs_93 : decode cX2_cutTurfs 93 = .ok (.aload_n 0, 1) := by decide +kernel
theorem dX2_cutTurfs_94 : decode cX2_cutTurfs 94 = .ok (.getfield 44, 3) := by decide +kernel
theorem dX2_cutTurfs_97 : decode cX2_cutTurfs 97 = .ok (.aload_n 0, 1) := by decide +kernel
theorem dX2_cutTurfs_98 : decode cX2_cutTurfs 98 = .ok (.getfield 27, 3) := by decide +kernel
theorem dX2_cutTurfs_101 : decode cX2_cutTurfs 101 = .ok (.aaload, 1) := by decide +kernel
theorem dX2_cutTurfs_102 : decode cX2_cutTurfs 102 = .ok (.astore 5, 2) := by decide +kernel
theorem dX2_cutTurfs_104 : decode cX2_cutTurfs 104 = .ok (.aload 5, 2) := by decide +kernel
theorem dX2_cutTurfs_106 : decode cX2_cutTurfs 106 = .ok (.iload_n 1, 1) := by decide +kernel
theorem dX2_cutTurfs_107 : decode cX2_cutTurfs 107 = .ok (.putfield 113, 3) := by decide +kernel
theorem dX2_cutTurfs_110 : decode cX2_cutTurfs 110 = .ok (.aload 5, 2) := by decide +kernel
theorem dX2_cutTurfs_112 : decode cX2_cutTurfs 112 = .ok (.iload_n 2, 1) := by decide +kernel
theorem dX2_cutTurfs_113 : decode cX2_cutTurfs 113 = .ok (.putfield 116, 3) := by decide +kernel
theorem dX2_cutTurfs_116 : decode cX2_cutTurfs 116 = .ok (.aload 5, 2) := by decide +kernel
theorem dX2_cutTurfs_118 : decode cX2_cutTurfs 118 = .ok (.iload_n 3, 1) := by decide +kernel
theorem dX2_cutTurfs_119 : decode cX2_cutTurfs 119 = .ok (.putfield 119, 3) := by decide +kernel
theorem dX2_cutTurfs_122 : decode cX2_cutTurfs 122 = .ok (.aload 5, 2) := by decide +kernel
theorem dX2_cutTurfs_124 : decode cX2_cutTurfs 124 = .ok (.ldc 122, 2) := by decide +kernel
theorem dX2_cutTurfs_126 : decode cX2_cutTurfs 126 = .ok (.putfield 123, 3) := by decide +kernel
theorem dX2_cutTurfs_129 : decode cX2_cutTurfs 129 = .ok (.aload 5, 2) := by decide +kernel
theorem dX2_cutTurfs_131 : decode cX2_cutTurfs 131 = .ok (.iconst 0, 1) := by decide +kernel
theorem dX2_cutTurfs_132 : decode cX2_cutTurfs 132 = .ok (.putfield 126, 3) := by decide +kernel
theorem dX2_cutTurfs_135 : decode cX2_cutTurfs 135 = .ok (.aload_n 0, 1) := by decide +kernel
theorem dX2_cutTurfs_136 : decode cX2_cutTurfs 136 = .ok (.dup, 1) := by decide +kernel
theorem dX2_cutTurfs_137 : decode cX2_cutTurfs 137 = .ok (.getfield 27, 3) := by decide +kernel
theorem dX2_cutTurfs_140 : decode cX2_cutTurfs 140 = .ok (.iconst 1, 1) := by decide +kernel
theorem dX2_cutTurfs_141 : decode cX2_cutTurfs 141 = .ok (.iadd, 1) := by decide +kernel
theorem dX2_cutTurfs_142 : decode cX2_cutTurfs 142 = .ok (.putfield 27, 3) := by decide +kernel
theorem dX2_cutTurfs_145 : decode cX2_cutTurfs 145 = .ok (.aload_n 0, 1) := by decide +kernel
theorem dX2_cutTurfs_146 : decode cX2_cutTurfs 146 = .ok (.getfield 27, 3) := by decide +kernel
theorem dX2_cutTurfs_149 : decode cX2_cutTurfs 149 = .ok (.iconst 1, 1) := by decide +kernel
theorem dX2_cutTurfs_150 : decode cX2_cutTurfs 150 = .ok (.isub, 1) := by decide +kernel
theorem dX2_cutTurfs_151 : decode cX2_cutTurfs 151 = .ok (.ireturn, 1) := by decide +kernel
theorem dX2_turnStack_0 : decode cX2_turnStack 0 = .ok (.aload_n 0, 1) := by decide +kernel
theorem dX2_turnStack_1 : decode cX2_turnStack 1 = .ok (.iload_n 1, 1) := by decide +kernel
theorem dX2_turnStack_2 : decode cX2_turnStack 2 = .ok (.invokevirtual 129, 3) := by decide +kernel
theorem dX2_turnStack_5 : decode cX2_turnStack 5 = .ok (.ifCond .ne 5, 3) := by decide +kernel
theorem dX2_turnStack_8 : decode cX2_turnStack 8 = .ok (.iconst (-1), 1) := by decide +kernel
theorem dX2_turnStack_9 : decode cX2_turnStack 9 = .ok (.ireturn, 1) := by decide +kernel
theorem dX2_turnStack_10 : decode cX2_turnStack 10 = .ok (.aload_n 0, 1) := by decide +kernel
theorem dX2_turnStack_11 : decode cX2_turnStack 11 = .ok (.getfield 44, 3) := by decide +kernel
theorem dX2_turnStack_14 : decode cX2_turnStack 14 = .ok (.iload_n 1, 1) := by decide +kernel
theorem dX2_turnStack_15 : decode cX2_turnStack 15 = .ok (.aaload, 1) := by decide +kernel
theorem dX2_turnStack_16 : decode cX2_turnStack 16 = .ok (.astore_n 2, 1) := by decide +kernel
theorem dX2_turnStack_17 : decode cX2_turnStack 17 = .ok (.aload_n 2, 1) := by decide +kernel
theorem dX2_turnStack_18 : decode cX2_turnStack 18 = .ok (.getfield 126, 3) := by decide +kernel
theorem dX2_turnStack_21 : decode cX2_turnStack 21 = .ok (.iconst 3, 1) := by decide +kernel
theorem dX2_turnStack_22 : decode cX2_turnStack 22 = .ok (.if_icmp .lt 6, 3) := by decide +kernel
theorem dX2_turnStack_25 : decode cX2_turnStack 25 = .ok (.bipush (-3), 2) := by decide +kernel
theorem dX2_turnStack_27 : decode cX2_turnStack 27 = .ok (.ireturn, 1) := by decide +kernel
theorem dX2_turnStack_28 : decode cX2_turnStack 28 = .ok (.aload_n 2, 1) := by decide +kernel
theorem dX2_turnStack_29 : decode cX2_turnStack 29 = .ok (.dup, 1) := by decide +kernel
theorem dX2_turnStack_30 : decode cX2_turnStack 30 = .ok (.getfield 126, 3) := by decide +kernel
theorem dX2_turnStack_33 : decode cX2_turnStack 33 = .ok (.iconst 1, 1) := by decide +kernel
theorem dX2_turnStack_34 : decode cX2_turnStack 34 = .ok (.iadd, 1) := by decide +kernel
theorem dX2_turnStack_35 : decode cX2_turnStack 35 = .ok (.putfield 126, 3) := by decide +kernel
theorem dX2_turnStack_38 : decode cX2_turnStack 38 = .ok (.aload_n 2, 1) := by decide +kernel
theorem dX2_turnStack_39 : decode cX2_turnStack 39 = .ok (.getfield 126, 3) := by decide +kernel
theorem dX2_turnStack_42 : decode cX2_turnStack 42 = .ok (.ireturn, 1) := by decide +kernel
theorem dX2_joinStacks_0 : decode cX2_joinStacks 0 = .ok (.aload_n 0, 1) := by decide +kernel
theorem dX2_joinStacks_1 : decode cX2_joinStacks 1 = .ok (.iload_n 1, 1) := by decide +kernel
theorem dX2_joinStacks_2 : decode cX2_joinStacks 2 = .ok (.invokevirtual 129, 3) := by decide +kernel
theorem dX2_joinStacks_5 : decode cX2_joinStacks 5 = .ok (.ifCond .eq 16, 3) := by decide +kernel
theorem dX2_joinStacks_8 : decode cX2_joinStacks 8 = .ok (.aload_n 0, 1) := by decide +kernel
theorem dX2_joinStacks_9 : decode cX2_joinStacks 9 = .ok (.iload_n 2, 1) := by decide +kernel
theorem dX2_joinStacks_10 : decode cX2_joinStacks 10 = .ok (.invokevirtual 129, 3) := by decide +kernel
theorem dX2_joinStacks_13 : decode cX2_joinStacks 13 = .ok (.ifCond .eq 8, 3) := by decide +kernel
theorem dX2_joinStacks_16 : decode cX2_joinStacks 16 = .ok (.iload_n 1, 1) := by decide +kernel
theorem dX2_joinStacks_17 : decode cX2_joinStacks 17 = .ok (.iload_n 2, 1) := by decide +kernel
theorem dX2_joinStacks_18 : decode cX2_joinStacks 18 = .ok (.if_icmp .ne 5, 3) := by decide +kernel
theorem dX2_joinStacks_21 : decode cX2_joinStacks 21 = .ok (.iconst (-1), 1) := by decide +kernel
theorem dX2_joinStacks_22 : decode cX2_joinStacks 22 = .ok (.ireturn, 1) := by decide +kernel
theorem dX2_joinStacks_23 : decode cX2_joinStacks 23 = .ok (.aload_n 0, 1) := by decide +kernel
theorem dX2_joinStacks_24 : decode cX2_joinStacks 24 = .ok (.getfield 44, 3) := by decide +kernel
theorem dX2_joinStacks_27 : decode cX2_joinStacks 27 = .ok (.iload_n 1, 1) := by decide +kernel
theorem dX2_joinStacks_28 : decode cX2_joinStacks 28 = .ok (.aaload, 1) := by decide +kernel
theorem dX2_joinStacks_29 : decode cX2_joinStacks 29 = .ok (.astore_n 3, 1) := by decide +kernel
theorem dX2_joinStacks_30 : decode cX2_joinStacks 30 = .ok (.aload_n 0, 1) := by decide +kernel
theorem dX2_joinStacks_31 : decode cX2_joinStacks 31 = .ok (.getfield 44, 3) := by decide +kernel
theorem dX2_joinStacks_34 : decode cX2_joinStacks 34 = .ok (.iload_n 2, 1) := by decide +kernel
theorem dX2_joinStacks_35 : decode cX2_joinStacks 35 = .ok (.aaload, 1) := by decide +kernel
theorem dX2_joinStacks_36 : decode cX2_joinStacks 36 = .ok (.astore 4, 2) := by decide +kernel
theorem dX2_joinStacks_38 : decode cX2_joinStacks 38 = .ok (.aload_n 3, 1) := by decide +kernel
theorem dX2_joinStacks_39 : decode cX2_joinStacks 39 = .ok (.getfield 113, 3) := by decide +kernel
theorem dX2_joinStacks_42 : decode cX2_joinStacks 42 = .ok (.aload 4, 2) := by decide +kernel
theorem dX2_joinStacks_44 : decode cX2_joinStacks 44 = .ok (.getfield 113, 3) := by decide +kernel
theorem dX2_joinStacks_47 : decode cX2_joinStacks 47 = .ok (.if_icmp .ne 15, 3) := by decide +kernel
theorem dX2_joinStacks_50 : decode cX2_joinStacks 50 = .ok (.aload_n 3, 1) := by decide +kernel
theorem dX2_joinStacks_51 : decode cX2_joinStacks 51 = .ok (.getfield 116, 3) := by decide +kernel
theorem dX2_joinStacks_54 : decode cX2_joinStacks 54 = .ok (.aload 4, 2) := by decide +kernel
theorem dX2_joinStacks_56 : decode cX2_joinStacks 56 = .ok (.getfield 116, 3) := by decide +kernel
theorem dX2_joinStacks_59 : decode cX2_joinStacks 59 = .ok (.if_icmp .eq 6, 3) := by decide +kernel
theorem dX2_joinStacks_62 : decode cX2_joinStacks 62 = .ok (.bipush (-2), 2) := by decide +kernel
theorem dX2_joinStacks_64 : decode cX2_joinStacks 64 = .ok (.ireturn, 1) := by decide +kernel
theorem dX2_joinStacks_65 : decode cX2_joinStacks 65 = .ok (.aload 4, 2) := by decide +kernel
theorem dX2_joinStacks_67 : decode cX2_joinStacks 67 = .ok (.aload_n 3, 1) := by decide +kernel
theorem dX2_joinStacks_68 : decode cX2_joinStacks 68 = .ok (.invokevirtual 132, 3) := by decide +kernel
theorem dX2_joinStacks_71 : decode cX2_joinStacks 71 = .ok (.aload_n 0, 1) := by decide +kernel
theorem dX2_joinStacks_72 : decode cX2_joinStacks 72 = .ok (.iload_n 1, 1) := by decide +kernel
theorem dX2_joinStacks_73 : decode cX2_joinStacks 73 = .ok (.invokevirtual 135, 3) := by decide +kernel
theorem dX2_joinStacks_76 : decode cX2_joinStacks 76 = .ok (.aload 4, 2) := by decide +kernel
theorem dX2_joinStacks_78 : decode cX2_joinStacks 78 = .ok (.getfield 119, 3) := by decide +kernel
theorem dX2_joinStacks_81 : decode cX2_joinStacks 81 = .ok (.ireturn, 1) := by decide +kernel
theorem dX2_removeStack_0 : decode cX2_removeStack 0 = .ok (.aload_n 0, 1) := by decide +kernel
theorem dX2_removeStack_1 : decode cX2_removeStack 1 = .ok (.getfield 44, 3) := by decide +kernel
theorem dX2_removeStack_4 : decode cX2_removeStack 4 = .ok (.iload_n 1, 1) := by decide +kernel
theorem dX2_removeStack_5 : decode cX2_removeStack 5 = .ok (.aaload, 1) := by decide +kernel
theorem dX2_removeStack_6 : decode cX2_removeStack 6 = .ok (.astore_n 2, 1) := by decide +kernel
theorem dX2_removeStack_7 : decode cX2_removeStack 7 = .ok (.iload_n 1, 1) := by decide +kernel
theorem dX2_removeStack_8 : decode cX2_removeStack 8 = .ok (.iconst 1, 1) := by decide +kernel
theorem dX2_removeStack_9 : decode cX2_removeStack 9 = .ok (.iadd, 1) := by decide +kernel
theorem dX2_removeStack_10 : decode cX2_removeStack 10 = .ok (.istore_n 3, 1) := by decide +kernel
theorem dX2_removeStack_11 : decode cX2_removeStack 11 = .ok (.iload_n 3, 1) := by decide +kernel
theorem dX2_removeStack_12 : decode cX2_removeStack 12 = .ok (.aload_n 0, 1) := by decide +kernel
theorem dX2_removeStack_13 : decode cX2_removeStack 13 = .ok (.getfield 27, 3) := by decide +kernel
theorem dX2_removeStack_16 : decode cX2_removeStack 16 = .ok (.if_icmp .ge 23, 3) := by decide +kernel
theorem dX2_removeStack_19 : decode cX2_removeStack 19 = .ok (.aload_n 0, 1) := by decide +kernel
theorem dX2_removeStack_20 : decode cX2_removeStack 20 = .ok (.getfield 44, 3) := by decide +kernel
theorem dX2_removeStack_23 : decode cX2_removeStack 23 = .ok (.iload_n 3, 1) := by decide +kernel
theorem dX2_removeStack_24 : decode cX2_removeStack 24 = .ok (.iconst 1, 1) := by decide +kernel
theorem dX2_removeStack_25 : decode cX2_removeStack 25 = .ok (.isub, 1) := by decide +kernel
theorem dX2_removeStack_26 : decode cX2_removeStack 26 = .ok (.aload_n 0, 1) := by decide +kernel
theorem dX2_removeStack_27 : decode cX2_removeStack 27 = .ok (.getfield 44, 3) := by decide +kernel
theorem dX2_removeStack_30 : decode cX2_removeStack 30 = .ok (.iload_n 3, 1) := by decide +kernel
theorem dX2_removeStack_31 : decode cX2_removeStack 31 = .ok (.aaload, 1) := by decide +kernel
theorem dX2_removeStack_32 : decode cX2_removeStack 32 = .ok (.aastore, 1) := by decide +kernel
theorem dX2_removeStack_33 : decode cX2_removeStack 33 = .ok (.iinc 3 1, 3) := by decide +kernel
theorem dX2_removeStack_36 : decode cX2_removeStack 36 = .ok (.goto (-25), 3) := by decide +kernel
theorem dX2_removeStack_39 : decode cX2_removeStack 39 = .ok (.aload_n 0, 1) := by decide +kernel
theorem dX2_removeStack_40 : decode cX2_removeStack 40 = .ok (.dup, 1) := by decide +kernel
theorem dX2_removeStack_41 : decode cX2_removeStack 41 = .ok (.getfield 27, 3) := by decide +kernel
theorem dX2_removeStack_44 : decode cX2_removeStack 44 = .ok (.iconst 1, 1) := by decide +kernel
theorem dX2_removeStack_45 : decode cX2_removeStack 45 = .ok (.isub, 1) := by decide +kernel
theorem dX2_removeStack_46 : decode cX2_removeStack 46 = .ok (.putfield 27, 3) := by decide +kernel
theorem dX2_removeStack_49 : decode cX2_removeStack 49 = .ok (.aload_n 0, 1) := by decide +kernel
theorem dX2_removeStack_50 : decode cX2_removeStack 50 = .ok (.getfield 44, 3) := by decide +kernel
theorem dX2_removeStack_53 : decode cX2_removeStack 53 = .ok (.aload_n 0, 1) := by decide +kernel
theorem dX2_removeStack_54 : decode cX2_removeStack 54 = .ok (.getfield 27, 3) := by decide +kernel
theorem dX2_removeStack_57 : decode cX2_removeStack 57 = .ok (.aload_n 2, 1) := by decide +kernel
theorem dX2_removeStack_58 : decode cX2_removeStack 58 = .ok (.aastore, 1) := by decide +kernel
theorem dX2_removeStack_59 : decode cX2_removeStack 59 = .ok (.return_, 1) := by decide +kernel
theorem dX2_dryStacks_0 : decode cX2_dryStacks 0 = .ok (.iconst 0, 1) := by decide +kernel
theorem dX2_dryStacks_1 : decode cX2_dryStacks 1 = .ok (.istore_n 1, 1) := by decide +kernel
theorem dX2_dryStacks_2 : decode cX2_dryStacks 2 = .ok (.iconst 0, 1) := by decide +kernel
theorem dX2_dryStacks_3 : decode cX2_dryStacks 3 = .ok (.istore_n 2, 1) := by decide +kernel
theorem dX2_dryStacks_4 : decode cX2_dryStacks 4 = .ok (.iload_n 2, 1) := by decide +kernel
theorem dX2_dryStacks_5 : decode cX2_dryStacks 5 = .ok (.aload_n 0, 1) := by decide +kernel
theorem dX2_dryStacks_6 : decode cX2_dryStacks 6 = .ok (.getfield 27, 3) := by decide +kernel
theorem dX2_dryStacks_9 : decode cX2_dryStacks 9 = .ok (.if_icmp .ge 24, 3) := by decide +kernel
theorem dX2_dryStacks_12 : decode cX2_dryStacks 12 = .ok (.aload_n 0, 1) := by decide +kernel
theorem dX2_dryStacks_13 : decode cX2_dryStacks 13 = .ok (.getfield 44, 3) := by decide +kernel
theorem dX2_dryStacks_16 : decode cX2_dryStacks 16 = .ok (.iload_n 2, 1) := by decide +kernel
theorem dX2_dryStacks_17 : decode cX2_dryStacks 17 = .ok (.aaload, 1) := by decide +kernel
theorem dX2_dryStacks_18 : decode cX2_dryStacks 18 = .ok (.invokevirtual 139, 3) := by decide +kernel
theorem dX2_dryStacks_21 : decode cX2_dryStacks 21 = .ok (.ifCond .eq 6, 3) := by decide +kernel
theorem dX2_dryStacks_24 : decode cX2_dryStacks 24 = .ok (.iinc 1 1, 3) := by decide +kernel
theorem dX2_dryStacks_27 : decode cX2_dryStacks 27 = .ok (.iinc 2 1, 3) := by decide +kernel
theorem dX2_dryStacks_30 : decode cX2_dryStacks 30 = .ok (.goto (-26), 3) := by decide +kernel
theorem dX2_dryStacks_33 : decode cX2_dryStacks 33 = .ok (.iload_n 1, 1) := by decide +kernel
theorem dX2_dryStacks_34 : decode cX2_dryStacks 34 = .ok (.ireturn, 1) := by decide +kernel
theorem dX2_stackProperty_0 : decode cX2_stackProperty 0 = .ok (.aload_n 0, 1) := by decide +kernel
theorem dX2_stackProperty_1 : decode cX2_stackProperty 1 = .ok (.iload_n 1, 1) := by decide +kernel
theorem dX2_stackProperty_2 : decode cX2_stackProperty 2 = .ok (.invokevirtual 129, 3) := by decide +kernel
theorem dX2_stackProperty_5 : decode cX2_stackProperty 5 = .ok (.ifCond .ne 5, 3) := by decide +kernel
theorem dX2_stackProperty_8 : decode cX2_stackProperty 8 = .ok (.iconst (-1), 1) := by decide +kernel
theorem dX2_stackProperty_9 : decode cX2_stackProperty 9 = .ok (.ireturn, 1) := by decide +kernel
theorem dX2_stackProperty_10 : decode cX2_stackProperty 10 = .ok (.aload_n 0, 1) := by decide +kernel
theorem dX2_stackProperty_11 : decode cX2_stackProperty 11 = .ok (.getfield 44, 3) := by decide +kernel
theorem dX2_stackProperty_14 : decode cX2_stackProperty 14 = .ok (.iload_n 1, 1) := by decide +kernel
theorem dX2_stackProperty_15 : decode cX2_stackProperty 15 = .ok (.aaload, 1) := by decide +kernel
theorem dX2_stackProperty_16 : decode cX2_stackProperty 16 = .ok (.astore_n 3, 1) := by decide +kernel
theorem dX2_stackProperty_17 : decode cX2_stackProperty 17 = .ok (.iload_n 2, 1) := by decide +kernel
theorem dX2_stackProperty_18 : decode cX2_stackProperty 18 = .ok (.tableswitch 85 0 6 #[42, 47, 52, 57, 62, 67, 72], 42) := by decide +kernel
theorem dX2_stackProperty_60 : decode cX2_stackProperty 60 = .ok (.aload_n 3, 1) := by decide +kernel
theorem dX2_stackProperty_61 : decode cX2_stackProperty 61 = .ok (.getfield 113, 3) := by decide +kernel
theorem dX2_stackProperty_64 : decode cX2_stackProperty 64 = .ok (.ireturn, 1) := by decide +kernel
theorem dX2_stackProperty_65 : decode cX2_stackProperty 65 = .ok (.aload_n 3, 1) := by decide +kernel
theorem dX2_stackProperty_66 : decode cX2_stackProperty 66 = .ok (.getfield 116, 3) := by decide +kernel
theorem dX2_stackProperty_69 : decode cX2_stackProperty 69 = .ok (.ireturn, 1) := by decide +kernel
theorem dX2_stackProperty_70 : decode cX2_stackProperty 70 = .ok (.aload_n 3, 1) := by decide +kernel
theorem dX2_stackProperty_71 : decode cX2_stackProperty 71 = .ok (.getfield 119, 3) := by decide +kernel
theorem dX2_stackProperty_74 : decode cX2_stackProperty 74 = .ok (.ireturn, 1) := by decide +kernel
theorem dX2_stackProperty_75 : decode cX2_stackProperty 75 = .ok (.aload_n 3, 1) := by decide +kernel
theorem dX2_stackProperty_76 : decode cX2_stackProperty 76 = .ok (.getfield 123, 3) := by decide +kernel
theorem dX2_stackProperty_79 : decode cX2_stackProperty 79 = .ok (.ireturn, 1) := by decide +kernel
theorem dX2_stackProperty_80 : decode cX2_stackProperty 80 = .ok (.aload_n 3, 1) := by decide +kernel
theorem dX2_stackProperty_81 : decode cX2_stackProperty 81 = .ok (.getfield 126, 3) := by decide +kernel
theorem dX2_stackProperty_84 : decode cX2_stackProperty 84 = .ok (.ireturn, 1) := by decide +kernel
theorem dX2_stackProperty_85 : decode cX2_stackProperty 85 = .ok (.aload_n 3, 1) := by decide +kernel
theorem dX2_stackProperty_86 : decode cX2_stackProperty 86 = .ok (.invokevirtual 143, 3) := by decide +kernel
theorem dX2_stackProperty_89 : decode cX2_stackProperty 89 = .ok (.ireturn, 1) := by decide +kernel
theorem dX2_stackProperty_90 : decode cX2_stackProperty 90 = .ok (.aload_n 3, 1) := by decide +kernel
theorem dX2_stackProperty_91 : decode cX2_stackProperty 91 = .ok (.invokevirtual 139, 3) := by decide +kernel
theorem dX2_stackProperty_94 : decode cX2_stackProperty 94 = .ok (.ifCond .eq 7, 3) := by decide +kernel
theorem dX2_stackProperty_97 : decode cX2_stackProperty 97 = .ok (.iconst 1, 1) := by decide +kernel
theorem dX2_stackProperty_98 : decode cX2_stackProperty 98 = .ok (.goto 4, 3) := by decide +kernel
theorem dX2_stackProperty_101 : decode cX2_stackProperty 101 = .ok (.iconst 0, 1) := by decide +kernel
theorem dX2_stackProperty_102 : decode cX2_stackProperty 102 = .ok (.ireturn, 1) := by decide +kernel
theorem dX2_stackProperty_103 : decode cX2_stackProperty 103 = .ok (.iconst (-1), 1) := by decide +kernel
theorem dX2_stackProperty_104 : decode cX2_stackProperty 104 = .ok (.ireturn, 1) := by decide +kernel
theorem dX2_passDay_0 : decode cX2_passDay 0 = .ok (.iload_n 1, 1) := by decide +kernel
theorem dX2_passDay_1 : decode cX2_passDay 1 = .ok (.iconst 0, 1) := by decide +kernel
theorem dX2_passDay_2 : decode cX2_passDay 2 = .ok (.bipush 9, 2) := by decide +kernel
theorem dX2_passDay_4 : decode cX2_passDay 4 = .ok (.invokestatic 61, 3) := by decide +kernel
theorem dX2_passDay_7 : decode cX2_passDay 7 = .ok (.ifCond .eq 13, 3) := by decide +kernel
theorem dX2_passDay_10 : decode cX2_passDay 10 = .ok (.iload_n 2, 1) := by decide +kernel
theorem dX2_passDay_11 : decode cX2_passDay 11 = .ok (.iconst 0, 1) := by decide +kernel
theorem dX2_passDay_12 : decode cX2_passDay 12 = .ok (.bipush 9, 2) := by decide +kernel
theorem dX2_passDay_14 : decode cX2_passDay 14 = .ok (.invokestatic 61, 3) := by decide +kernel
theorem dX2_passDay_17 : decode cX2_passDay 17 = .ok (.ifCond .ne 5, 3) := by decide +kernel
theorem dX2_passDay_20 : decode cX2_passDay 20 = .ok (.iconst (-1), 1) := by decide +kernel
theorem dX2_passDay_21 : decode cX2_passDay 21 = .ok (.ireturn, 1) := by decide +kernel
theorem dX2_passDay_22 : decode cX2_passDay 22 = .ok (.iconst 0, 1) := by decide +kernel
theorem dX2_passDay_23 : decode cX2_passDay 23 = .ok (.istore_n 3, 1) := by decide +kernel
theorem dX2_passDay_24 : decode cX2_passDay 24 = .ok (.iload_n 3, 1) := by decide +kernel
theorem dX2_passDay_25 : decode cX2_passDay 25 = .ok (.aload_n 0, 1) := by decide +kernel
theorem dX2_passDay_26 : decode cX2_passDay 26 = .ok (.getfield 27, 3) := by decide +kernel
theorem dX2_passDay_29 : decode cX2_passDay 29 = .ok (.if_icmp .ge 34, 3) := by decide +kernel
theorem dX2_passDay_32 : decode cX2_passDay 32 = .ok (.aload_n 0, 1) := by decide +kernel
theorem dX2_passDay_33 : decode cX2_passDay 33 = .ok (.getfield 44, 3) := by decide +kernel
theorem dX2_passDay_36 : decode cX2_passDay 36 = .ok (.iload_n 3, 1) := by decide +kernel
theorem dX2_passDay_37 : decode cX2_passDay 37 = .ok (.aaload, 1) := by decide +kernel
theorem dX2_passDay_38 : decode cX2_passDay 38 = .ok (.astore 4, 2) := by decide +kernel
theorem dX2_passDay_40 : decode cX2_passDay 40 = .ok (.aload 4, 2) := by decide +kernel
theorem dX2_passDay_42 : decode cX2_passDay 42 = .ok (.aload 4, 2) := by decide +kernel
theorem dX2_passDay_44 : decode cX2_passDay 44 = .ok (.aload 4, 2) := by decide +kernel
theorem dX2_passDay_46 : decode cX2_passDay 46 = .ok (.getfield 123, 3) := by decide +kernel
theorem dX2_passDay_49 : decode cX2_passDay 49 = .ok (.iload_n 1, 1) := by decide +kernel
theorem dX2_passDay_50 : decode cX2_passDay 50 = .ok (.iload_n 2, 1) := by decide +kernel
theorem dX2_passDay_51 : decode cX2_passDay 51 = .ok (.invokevirtual 146, 3) := by decide +kernel
theorem dX2_passDay_54 : decode cX2_passDay 54 = .ok (.putfield 123, 3) := by decide +kernel
theorem dX2_passDay_57 : decode cX2_passDay 57 = .ok (.iinc 3 1, 3) := by decide +kernel
theorem dX2_passDay_60 : decode cX2_passDay 60 = .ok (.goto (-36), 3) := by decide +kernel
theorem dX2_passDay_63 : decode cX2_passDay 63 = .ok (.aload_n 0, 1) := by decide +kernel
theorem dX2_passDay_64 : decode cX2_passDay 64 = .ok (.iload_n 2, 1) := by decide +kernel
theorem dX2_passDay_65 : decode cX2_passDay 65 = .ok (.putfield 18, 3) := by decide +kernel
theorem dX2_passDay_68 : decode cX2_passDay 68 = .ok (.aload_n 0, 1) := by decide +kernel
theorem dX2_passDay_69 : decode cX2_passDay 69 = .ok (.dup, 1) := by decide +kernel
theorem dX2_passDay_70 : decode cX2_passDay 70 = .ok (.getfield 15, 3) := by decide +kernel
theorem dX2_passDay_73 : decode cX2_passDay 73 = .ok (.iconst 1, 1) := by decide +kernel
theorem dX2_passDay_74 : decode cX2_passDay 74 = .ok (.iadd, 1) := by decide +kernel
theorem dX2_passDay_75 : decode cX2_passDay 75 = .ok (.putfield 15, 3) := by decide +kernel
theorem dX2_passDay_78 : decode cX2_passDay 78 = .ok (.aload_n 0, 1) := by decide +kernel
theorem dX2_passDay_79 : decode cX2_passDay 79 = .ok (.invokevirtual 150, 3) := by decide +kernel
theorem dX2_passDay_82 : decode cX2_passDay 82 = .ok (.ireturn, 1) := by decide +kernel
theorem dX2_closeYear_0 : decode cX2_closeYear 0 = .ok (.aload_n 0, 1) := by decide +kernel
theorem dX2_closeYear_1 : decode cX2_closeYear 1 = .ok (.getfield 9, 3) := by decide +kernel
theorem dX2_closeYear_4 : decode cX2_closeYear 4 = .ok (.sipush 999, 3) := by decide +kernel
theorem dX2_closeYear_7 : decode cX2_closeYear 7 = .ok (.if_icmp .lt 6, 3) := by decide +kernel
theorem dX2_closeYear_10 : decode cX2_closeYear 10 = .ok (.bipush (-2), 2) := by decide +kernel
theorem dX2_closeYear_12 : decode cX2_closeYear 12 = .ok (.ireturn, 1) := by decide +kernel
theorem dX2_closeYear_13 : decode cX2_closeYear 13 = .ok (.iconst 0, 1) := by decide +kernel
theorem dX2_closeYear_14 : decode cX2_closeYear 14 = .ok (.istore_n 1, 1) := by decide +kernel
theorem dX2_closeYear_15 : decode cX2_closeYear 15 = .ok (.iconst 0, 1) := by decide +kernel
theorem dX2_closeYear_16 : decode cX2_closeYear 16 = .ok (.istore_n 2, 1) := by decide +kernel
theorem dX2_closeYear_17 : decode cX2_closeYear 17 = .ok (.iload_n 2, 1) := by decide +kernel
theorem dX2_closeYear_18 : decode cX2_closeYear 18 = .ok (.aload_n 0, 1) := by decide +kernel
theorem dX2_closeYear_19 : decode cX2_closeYear 19 = .ok (.getfield 27, 3) := by decide +kernel
theorem dX2_closeYear_22 : decode cX2_closeYear 22 = .ok (.if_icmp .ge 52, 3) := by decide +kernel
theorem dX2_closeYear_25 : decode cX2_closeYear 25 = .ok (.aload_n 0, 1) := by decide +kernel
theorem dX2_closeYear_26 : decode cX2_closeYear 26 = .ok (.getfield 38, 3) := by decide +kernel
theorem dX2_closeYear_29 : decode cX2_closeYear 29 = .ok (.aload_n 0, 1) := by decide +kernel
theorem dX2_closeYear_30 : decode cX2_closeYear 30 = .ok (.getfield 44, 3) := by decide +kernel
theorem dX2_closeYear_33 : decode cX2_closeYear 33 = .ok (.iload_n 2, 1) := by decide +kernel
theorem dX2_closeYear_34 : decode cX2_closeYear 34 = .ok (.aaload, 1) := by decide +kernel
theorem dX2_closeYear_35 : decode cX2_closeYear 35 = .ok (.getfield 116, 3) := by decide +kernel
theorem dX2_closeYear_38 : decode cX2_closeYear 38 = .ok (.aaload, 1) := by decide +kernel
theorem dX2_closeYear_39 : decode cX2_closeYear 39 = .ok (.dup, 1) := by decide +kernel
theorem dX2_closeYear_40 : decode cX2_closeYear 40 = .ok (.getfield 153, 3) := by decide +kernel
theorem dX2_closeYear_43 : decode cX2_closeYear 43 = .ok (.aload_n 0, 1) := by decide +kernel
theorem dX2_closeYear_44 : decode cX2_closeYear 44 = .ok (.getfield 44, 3) := by decide +kernel
theorem dX2_closeYear_47 : decode cX2_closeYear 47 = .ok (.iload_n 2, 1) := by decide +kernel
theorem dX2_closeYear_48 : decode cX2_closeYear 48 = .ok (.aaload, 1) := by decide +kernel
theorem dX2_closeYear_49 : decode cX2_closeYear 49 = .ok (.getfield 119, 3) := by decide +kernel
theorem dX2_closeYear_52 : decode cX2_closeYear 52 = .ok (.iadd, 1) := by decide +kernel
theorem dX2_closeYear_53 : decode cX2_closeYear 53 = .ok (.putfield 153, 3) := by decide +kernel
theorem dX2_closeYear_56 : decode cX2_closeYear 56 = .ok (.iload_n 1, 1) := by decide +kernel
theorem dX2_closeYear_57 : decode cX2_closeYear 57 = .ok (.aload_n 0, 1) := by decide +kernel
theorem dX2_closeYear_58 : decode cX2_closeYear 58 = .ok (.getfield 44, 3) := by decide +kernel
theorem dX2_closeYear_61 : decode cX2_closeYear 61 = .ok (.iload_n 2, 1) := by decide +kernel
theorem dX2_closeYear_62 : decode cX2_closeYear 62 = .ok (.aaload, 1) := by decide +kernel
theorem dX2_closeYear_63 : decode cX2_closeYear 63 = .ok (.getfield 119, 3) := by decide +kernel
theorem dX2_closeYear_66 : decode cX2_closeYear 66 = .ok (.iadd, 1) := by decide +kernel
theorem dX2_closeYear_67 : decode cX2_closeYear 67 = .ok (.istore_n 1, 1) := by decide +kernel
theorem dX2_closeYear_68 : decode cX2_closeYear 68 = .ok (.iinc 2 1, 3) := by decide +kernel
theorem dX2_closeYear_71 : decode cX2_closeYear 71 = .ok (.goto (-54), 3) := by decide +kernel
theorem dX2_closeYear_74 : decode cX2_closeYear 74 = .ok (.aload_n 0, 1) := by decide +kernel
theorem dX2_closeYear_75 : decode cX2_closeYear 75 = .ok (.iconst 0, 1) := by decide +kernel
theorem dX2_closeYear_76 : decode cX2_closeYear 76 = .ok (.putfield 27, 3) := by decide +kernel
theorem dX2_closeYear_79 : decode cX2_closeYear 79 = .ok (.iconst 0, 1) := by decide +kernel
theorem dX2_closeYear_80 : decode cX2_closeYear 80 = .ok (.istore_n 2, 1) := by decide +kernel
theorem dX2_closeYear_81 : decode cX2_closeYear 81 = .ok (.iload_n 2, 1) := by decide +kernel
theorem dX2_closeYear_82 : decode cX2_closeYear 82 = .ok (.aload_n 0, 1) := by decide +kernel
theorem dX2_closeYear_83 : decode cX2_closeYear 83 = .ok (.getfield 24, 3) := by decide +kernel
theorem dX2_closeYear_86 : decode cX2_closeYear 86 = .ok (.if_icmp .ge 18, 3) := by decide +kernel
theorem dX2_closeYear_89 : decode cX2_closeYear 89 = .ok (.aload_n 0, 1) := by decide +kernel
theorem dX2_closeYear_90 : decode cX2_closeYear 90 = .ok (.getfield 38, 3) := by decide +kernel
theorem dX2_closeYear_93 : decode cX2_closeYear 93 = .ok (.iload_n 2, 1) := by decide +kernel
theorem dX2_closeYear_94 : decode cX2_closeYear 94 = .ok (.aaload, 1) := by decide +kernel
theorem dX2_closeYear_95 : decode cX2_closeYear 95 = .ok (.invokevirtual 156, 3) := by decide +kernel
theorem dX2_closeYear_98 : decode cX2_closeYear 98 = .ok (.iinc 2 1, 3) := by decide +kernel
theorem dX2_closeYear_101 : decode cX2_closeYear 101 = .ok (.goto (-20), 3) := by decide +kernel
theorem dX2_closeYear_104 : decode cX2_closeYear 104 = .ok (.aload_n 0, 1) := by decide +kernel
theorem dX2_closeYear_105 : decode cX2_closeYear 105 = .ok (.iconst 0, 1) := by decide +kernel
theorem dX2_closeYear_106 : decode cX2_closeYear 106 = .ok (.putfield 18, 3) := by decide +kernel
theorem dX2_closeYear_109 : decode cX2_closeYear 109 = .ok (.aload_n 0, 1) := by decide +kernel
theorem dX2_closeYear_110 : decode cX2_closeYear 110 = .ok (.dup, 1) := by decide +kernel
theorem dX2_closeYear_111 : decode cX2_closeYear 111 = .ok (.getfield 9, 3) := by decide +kernel
theorem dX2_closeYear_114 : decode cX2_closeYear 114 = .ok (.iconst 1, 1) := by decide +kernel
theorem dX2_closeYear_115 : decode cX2_closeYear 115 = .ok (.iadd, 1) := by decide +kernel
theorem dX2_closeYear_116 : decode cX2_closeYear 116 = .ok (.putfield 9, 3) := by decide +kernel
theorem dX2_closeYear_119 : decode cX2_closeYear 119 = .ok (.iload_n 1, 1) := by decide +kernel
theorem dX2_closeYear_120 : decode cX2_closeYear 120 = .ok (.ireturn, 1) := by decide +kernel
theorem dX2_repairRoad_0 : decode cX2_repairRoad 0 = .ok (.aload_n 0, 1) := by decide +kernel
theorem dX2_repairRoad_1 : decode cX2_repairRoad 1 = .ok (.iload_n 1, 1) := by decide +kernel
theorem dX2_repairRoad_2 : decode cX2_repairRoad 2 = .ok (.invokevirtual 78, 3) := by decide +kernel
theorem dX2_repairRoad_5 : decode cX2_repairRoad 5 = .ok (.ifCond .ne 5, 3) := by decide +kernel
theorem dX2_repairRoad_8 : decode cX2_repairRoad 8 = .ok (.iconst (-1), 1) := by decide +kernel
theorem dX2_repairRoad_9 : decode cX2_repairRoad 9 = .ok (.ireturn, 1) := by decide +kernel
theorem dX2_repairRoad_10 : decode cX2_repairRoad 10 = .ok (.aload_n 0, 1) := by decide +kernel
theorem dX2_repairRoad_11 : decode cX2_repairRoad 11 = .ok (.getfield 38, 3) := by decide +kernel
theorem dX2_repairRoad_14 : decode cX2_repairRoad 14 = .ok (.iload_n 1, 1) := by decide +kernel
theorem dX2_repairRoad_15 : decode cX2_repairRoad 15 = .ok (.aaload, 1) := by decide +kernel
theorem dX2_repairRoad_16 : decode cX2_repairRoad 16 = .ok (.getfield 159, 3) := by decide +kernel
theorem dX2_repairRoad_19 : decode cX2_repairRoad 19 = .ok (.istore_n 2, 1) := by decide +kernel
theorem dX2_repairRoad_20 : decode cX2_repairRoad 20 = .ok (.aload_n 0, 1) := by decide +kernel
theorem dX2_repairRoad_21 : decode cX2_repairRoad 21 = .ok (.getfield 38, 3) := by decide +kernel
theorem dX2_repairRoad_24 : decode cX2_repairRoad 24 = .ok (.iload_n 1, 1) := by decide +kernel
theorem dX2_repairRoad_25 : decode cX2_repairRoad 25 = .ok (.aaload, 1) := by decide +kernel
theorem dX2_repairRoad_26 : decode cX2_repairRoad 26 = .ok (.iconst 0, 1) := by decide +kernel
theorem dX2_repairRoad_27 : decode cX2_repairRoad 27 = .ok (.putfield 159, 3) := by decide +kernel
theorem dX2_repairRoad_30 : decode cX2_repairRoad 30 = .ok (.iload_n 2, 1) := by decide +kernel
theorem dX2_repairRoad_31 : decode cX2_repairRoad 31 = .ok (.ireturn, 1) := by decide +kernel
theorem dX2_bearingToday_0 : decode cX2_bearingToday 0 = .ok (.aload_n 1, 1) := by decide +kernel
theorem dX2_bearingToday_1 : decode cX2_bearingToday 1 = .ok (.aload_n 1, 1) := by decide +kernel
theorem dX2_bearingToday_2 : decode cX2_bearingToday 2 = .ok (.getfield 159, 3) := by decide +kernel
theorem dX2_bearingToday_5 : decode cX2_bearingToday 5 = .ok (.aload_n 0, 1) := by decide +kernel
theorem dX2_bearingToday_6 : decode cX2_bearingToday 6 = .ok (.getfield 18, 3) := by decide +kernel
theorem dX2_bearingToday_9 : decode cX2_bearingToday 9 = .ok (.invokevirtual 162, 3) := by decide +kernel
theorem dX2_bearingToday_12 : decode cX2_bearingToday 12 = .ok (.ireturn, 1) := by decide +kernel
theorem dX2_cartTurfs_0 : decode cX2_cartTurfs 0 = .ok (.aload_n 0, 1) := by decide +kernel
theorem dX2_cartTurfs_1 : decode cX2_cartTurfs 1 = .ok (.iload_n 1, 1) := by decide +kernel
theorem dX2_cartTurfs_2 : decode cX2_cartTurfs 2 = .ok (.invokevirtual 129, 3) := by decide +kernel
theorem dX2_cartTurfs_5 : decode cX2_cartTurfs 5 = .ok (.ifCond .eq 14, 3) := by decide +kernel
theorem dX2_cartTurfs_8 : decode cX2_cartTurfs 8 = .ok (.iload_n 2, 1) := by decide +kernel
theorem dX2_cartTurfs_9 : decode cX2_cartTurfs 9 = .ok (.iconst 1, 1) := by decide +kernel
theorem dX2_cartTurfs_10 : decode cX2_cartTurfs 10 = .ok (.sipush 1000, 3) := by decide +kernel
theorem dX2_cartTurfs_13 : decode cX2_cartTurfs 13 = .ok (.invokestatic 61, 3) := by decide +kernel
theorem dX2_cartTurfs_16 : decode cX2_cartTurfs 16 = .ok (.ifCond .ne 5, 3) := by decide +kernel
theorem dX2_cartTurfs_19 : decode cX2_cartTurfs 19 = .ok (.iconst (-1), 1) := by decide +kernel
theorem dX2_cartTurfs_20 : decode cX2_cartTurfs 20 = .ok (.ireturn, 1) := by decide +kernel
theorem dX2_cartTurfs_21 : decode cX2_cartTurfs 21 = .ok (.aload_n 0, 1) := by decide +kernel
theorem dX2_cartTurfs_22 : decode cX2_cartTurfs 22 = .ok (.getfield 44, 3) := by decide +kernel
theorem dX2_cartTurfs_25 : decode cX2_cartTurfs 25 = .ok (.iload_n 1, 1) := by decide +kernel
theorem dX2_cartTurfs_26 : decode cX2_cartTurfs 26 = .ok (.aaload, 1) := by decide +kernel
theorem dX2_cartTurfs_27 : decode cX2_cartTurfs 27 = .ok (.astore_n 3, 1) := by decide +kernel
theorem dX2_cartTurfs_28 : decode cX2_cartTurfs 28 = .ok (.aload_n 0, 1) := by decide +kernel
theorem dX2_cartTurfs_29 : decode cX2_cartTurfs 29 = .ok (.getfield 38, 3) := by decide +kernel
theorem dX2_cartTurfs_32 : decode cX2_cartTurfs 32 = .ok (.aload_n 3, 1) := by decide +kernel
theorem dX2_cartTurfs_33 : decode cX2_cartTurfs 33 = .ok (.getfield 116, 3) := by decide +kernel
theorem dX2_cartTurfs_36 : decode cX2_cartTurfs 36 = .ok (.aaload, 1) := by decide +kernel
theorem dX2_cartTurfs_37 : decode cX2_cartTurfs 37 = .ok (.astore 4, 2) := by decide +kernel
theorem dX2_cartTurfs_39 : decode cX2_cartTurfs 39 = .ok (.aload_n 3, 1) := by decide +kernel
theorem dX2_cartTurfs_40 : decode cX2_cartTurfs 40 = .ok (.iload_n 2, 1) := by decide +kernel
theorem dX2_cartTurfs_41 : decode cX2_cartTurfs 41 = .ok (.invokevirtual 165, 3) := by decide +kernel
theorem dX2_cartTurfs_44 : decode cX2_cartTurfs 44 = .ok (.istore 5, 2) := by decide +kernel
theorem dX2_cartTurfs_46 : decode cX2_cartTurfs 46 = .ok (.aload_n 3, 1) := by decide +kernel
theorem dX2_cartTurfs_47 : decode cX2_cartTurfs 47 = .ok (.getfield 119, 3) := by decide +kernel
theorem dX2_cartTurfs_50 : decode cX2_cartTurfs 50 = .ok (.iload_n 2, 1) := by decide +kernel
theorem dX2_cartTurfs_51 : decode cX2_cartTurfs 51 = .ok (.if_icmp .lt 14, 3) := by decide +kernel
theorem dX2_cartTurfs_54 : decode cX2_cartTurfs 54 = .ok (.iload 5, 2) := by decide +kernel
theorem dX2_cartTurfs_56 : decode cX2_cartTurfs 56 = .ok (.aload_n 0, 1) := by decide +kernel
theorem dX2_cartTurfs_57 : decode cX2_cartTurfs 57 = .ok (.aload 4, 2) := by decide +kernel
theorem dX2_cartTurfs_59 : decode cX2_cartTurfs 59 = .ok (.invokevirtual 169, 3) := by decide +kernel
theorem dX2_cartTurfs_62 : decode cX2_cartTurfs 62 = .ok (.if_icmp .le 6, 3) := by decide +kernel
theorem dX2_cartTurfs_65 : decode cX2_cartTurfs 65 = .ok (.bipush (-2), 2) := by decide +kernel
theorem dX2_cartTurfs_67 : decode cX2_cartTurfs 67 = .ok (.ireturn, 1) := by decide +kernel
theorem dX2_cartTurfs_68 : decode cX2_cartTurfs 68 = .ok (.aload_n 0, 1) := by decide +kernel
theorem dX2_cartTurfs_69 : decode cX2_cartTurfs 69 = .ok (.getfield 32, 3) := by decide +kernel
theorem dX2_cartTurfs_72 : decode cX2_cartTurfs 72 = .ok (.aload_n 3, 1) := by decide +kernel
theorem dX2_cartTurfs_73 : decode cX2_cartTurfs 73 = .ok (.getfield 113, 3) := by decide +kernel
theorem dX2_cartTurfs_76 : decode cX2_cartTurfs 76 = .ok (.aaload, 1) := by decide +kernel
theorem dX2_cartTurfs_77 : decode cX2_cartTurfs 77 = .ok (.astore 6, 2) := by decide +kernel
theorem dX2_cartTurfs_79 : decode cX2_cartTurfs 79 = .ok (.aload_n 3, 1) := by decide +kernel
theorem dX2_cartTurfs_80 : decode cX2_cartTurfs 80 = .ok (.invokevirtual 139, 3) := by decide +kernel
theorem dX2_cartTurfs_83 : decode cX2_cartTurfs 83 = .ok (.ifCond .eq 17, 3) := by decide +kernel
theorem dX2_cartTurfs_86 : decode cX2_cartTurfs 86 = .ok (.aload 6, 2) := by decide +kernel
theorem dX2_cartTurfs_88 : decode cX2_cartTurfs 88 = .ok (.dup, 1) := by decide +kernel
theorem dX2_cartTurfs_89 : decode cX2_cartTurfs 89 = .ok (.getfield 172, 3) := by decide +kernel
theorem dX2_cartTurfs_92 : decode cX2_cartTurfs 92 = .ok (.iload_n 2, 1) := by decide +kernel
theorem dX2_cartTurfs_93 : decode cX2_cartTurfs 93 = .ok (.iadd, 1) := by decide +kernel
theorem dX2_cartTurfs_94 : decode cX2_cartTurfs 94 = .ok (.putfield 172, 3) := by decide +kernel
theorem dX2_cartTurfs_97 : decode cX2_cartTurfs 97 = .ok (.goto 14, 3) := by decide +kernel
theorem dX2_cartTurfs_100 : decode cX2_cartTurfs 100 = .ok (.aload 6, 2) := by decide +kernel
theorem dX2_cartTurfs_102 : decode cX2_cartTurfs 102 = .ok (.dup, 1) := by decide +kernel
theorem dX2_cartTurfs_103 : decode cX2_cartTurfs 103 = .ok (.getfield 175, 3) := by decide +kernel
theorem dX2_cartTurfs_106 : decode cX2_cartTurfs 106 = .ok (.iload_n 2, 1) := by decide +kernel
theorem dX2_cartTurfs_107 : decode cX2_cartTurfs 107 = .ok (.iadd, 1) := by decide +kernel
theorem dX2_cartTurfs_108 : decode cX2_cartTurfs 108 = .ok (.putfield 175, 3) := by decide +kernel
theorem dX2_cartTurfs_111 : decode cX2_cartTurfs 111 = .ok (.aload 4, 2) := by decide +kernel
theorem dX2_cartTurfs_113 : decode cX2_cartTurfs 113 = .ok (.dup, 1) := by decide +kernel
theorem dX2_cartTurfs_114 : decode cX2_cartTurfs 114 = .ok (.getfield 178, 3) := by decide +kernel
theorem dX2_cartTurfs_117 : decode cX2_cartTurfs 117 = .ok (.iload_n 2, 1) := by decide +kernel
theorem dX2_cartTurfs_118 : decode cX2_cartTurfs 118 = .ok (.iadd, 1) := by decide +kernel
theorem dX2_cartTurfs_119 : decode cX2_cartTurfs 119 = .ok (.putfield 178, 3) := by decide +kernel
theorem dX2_cartTurfs_122 : decode cX2_cartTurfs 122 = .ok (.aload 4, 2) := by decide +kernel
theorem dX2_cartTurfs_124 : decode cX2_cartTurfs 124 = .ok (.dup, 1) := by decide +kernel
theorem dX2_cartTurfs_125 : decode cX2_cartTurfs 125 = .ok (.getfield 159, 3) := by decide +kernel
theorem dX2_cartTurfs_128 : decode cX2_cartTurfs 128 = .ok (.iload 5, 2) := by decide +kernel
theorem dX2_cartTurfs_130 : decode cX2_cartTurfs 130 = .ok (.invokestatic 181, 3) := by decide +kernel
theorem dX2_cartTurfs_133 : decode cX2_cartTurfs 133 = .ok (.iadd, 1) := by decide +kernel
theorem dX2_cartTurfs_134 : decode cX2_cartTurfs 134 = .ok (.putfield 159, 3) := by decide +kernel
theorem dX2_cartTurfs_137 : decode cX2_cartTurfs 137 = .ok (.aload_n 3, 1) := by decide +kernel
theorem dX2_cartTurfs_138 : decode cX2_cartTurfs 138 = .ok (.dup, 1) := by decide +kernel
theorem dX2_cartTurfs_139 : decode cX2_cartTurfs 139 = .ok (.getfield 119, 3) := by decide +kernel
theorem dX2_cartTurfs_142 : decode cX2_cartTurfs 142 = .ok (.iload_n 2, 1) := by decide +kernel
theorem dX2_cartTurfs_143 : decode cX2_cartTurfs 143 = .ok (.isub, 1) := by decide +kernel
theorem dX2_cartTurfs_144 : decode cX2_cartTurfs 144 = .ok (.putfield 119, 3) := by decide +kernel
theorem dX2_cartTurfs_147 : decode cX2_cartTurfs 147 = .ok (.aload_n 3, 1) := by decide +kernel
theorem dX2_cartTurfs_148 : decode cX2_cartTurfs 148 = .ok (.getfield 119, 3) := by decide +kernel
theorem dX2_cartTurfs_151 : decode cX2_cartTurfs 151 = .ok (.ifCond .ne 8, 3) := by decide +kernel
theorem dX2_cartTurfs_154 : decode cX2_cartTurfs 154 = .ok (.aload_n 0, 1) := by decide +kernel
theorem dX2_cartTurfs_155 : decode cX2_cartTurfs 155 = .ok (.iload_n 1, 1) := by decide +kernel
theorem dX2_cartTurfs_156 : decode cX2_cartTurfs 156 = .ok (.invokevirtual 135, 3) := by decide +kernel
theorem dX2_cartTurfs_159 : decode cX2_cartTurfs 159 = .ok (.iload 5, 2) := by decide +kernel
theorem dX2_cartTurfs_161 : decode cX2_cartTurfs 161 = .ok (.ireturn, 1) := by decide +kernel
theorem dX2_householdProperty_0 : decode cX2_householdProperty 0 = .ok (.aload_n 0, 1) := by decide +kernel
theorem dX2_householdProperty_1 : decode cX2_householdProperty 1 = .ok (.iload_n 1, 1) := by decide +kernel
theorem dX2_householdProperty_2 : decode cX2_householdProperty 2 = .ok (.invokevirtual 68, 3) := by decide +kernel
theorem dX2_householdProperty_5 : decode cX2_householdProperty 5 = .ok (.ifCond .ne 5, 3) := by decide +kernel
theorem dX2_householdProperty_8 : decode cX2_householdProperty 8 = .ok (.iconst (-1), 1) := by decide +kernel
theorem dX2_householdProperty_9 : decode cX2_householdProperty 9 = .ok (.ireturn, 1) := by decide +kernel
theorem dX2_householdProperty_10 : decode cX2_householdProperty 10 = .ok (.iload_n 2, 1) := by decide +kernel
theorem dX2_householdProperty_11 : decode cX2_householdProperty 11 = .ok (.tableswitch 85 0 5 #[37, 47, 57, 67, 73, 79], 37) := by decide +kernel
theorem dX2_householdProperty_48 : decode cX2_householdProperty 48 = .ok (.aload_n 0, 1) := by decide +kernel
theorem dX2_householdProperty_49 : decode cX2_householdProperty 49 = .ok (.getfield 32, 3) := by decide +kernel
theorem dX2_householdProperty_52 : decode cX2_householdProperty 52 = .ok (.iload_n 1, 1) := by decide +kernel
theorem dX2_householdProperty_53 : decode cX2_householdProperty 53 = .ok (.aaload, 1) := by decide +kernel
theorem dX2_householdProperty_54 : decode cX2_householdProperty 54 = .ok (.getfield 65, 3) := by decide +kernel
theorem dX2_householdProperty_57 : decode cX2_householdProperty 57 = .ok (.ireturn, 1) := by decide +kernel
theorem dX2_householdProperty_58 : decode cX2_householdProperty 58 = .ok (.aload_n 0, 1) := by decide +kernel
theorem dX2_householdProperty_59 : decode cX2_householdProperty 59 = .ok (.getfield 32, 3) := by decide +kernel
theorem dX2_householdProperty_62 : decode cX2_householdProperty 62 = .ok (.iload_n 1, 1) := by decide +kernel
theorem dX2_householdProperty_63 : decode cX2_householdProperty 63 = .ok (.aaload, 1) := by decide +kernel
theorem dX2_householdProperty_64 : decode cX2_householdProperty 64 = .ok (.getfield 172, 3) := by decide +kernel
theorem dX2_householdProperty_67 : decode cX2_householdProperty 67 = .ok (.ireturn, 1) := by decide +kernel
theorem dX2_householdProperty_68 : decode cX2_householdProperty 68 = .ok (.aload_n 0, 1) := by decide +kernel
theorem dX2_householdProperty_69 : decode cX2_householdProperty 69 = .ok (.getfield 32, 3) := by decide +kernel
theorem dX2_householdProperty_72 : decode cX2_householdProperty 72 = .ok (.iload_n 1, 1) := by decide +kernel
theorem dX2_householdProperty_73 : decode cX2_householdProperty 73 = .ok (.aaload, 1) := by decide +kernel
theorem dX2_householdProperty_74 : decode cX2_householdProperty 74 = .ok (.getfield 175, 3) := by decide +kernel
theorem dX2_householdProperty_77 : decode cX2_householdProperty 77 = .ok (.ireturn, 1) := by decide +kernel
theorem dX2_householdProperty_78 : decode cX2_householdProperty 78 = .ok (.aload_n 0, 1) := by decide +kernel
theorem dX2_householdProperty_79 : decode cX2_householdProperty 79 = .ok (.iload_n 1, 1) := by decide +kernel
theorem dX2_householdProperty_80 : decode cX2_householdProperty 80 = .ok (.invokevirtual 187, 3) := by decide +kernel
theorem dX2_householdProperty_83 : decode cX2_householdProperty 83 = .ok (.ireturn, 1) := by decide +kernel
theorem dX2_householdProperty_84 : decode cX2_householdProperty 84 = .ok (.aload_n 0, 1) := by decide +kernel
theorem dX2_householdProperty_85 : decode cX2_householdProperty 85 = .ok (.iload_n 1, 1) := by decide +kernel
theorem dX2_householdProperty_86 : decode cX2_householdProperty 86 = .ok (.invokevirtual 190, 3) := by decide +kernel
theorem dX2_householdProperty_89 : decode cX2_householdProperty 89 = .ok (.ireturn, 1) := by decide +kernel
theorem dX2_householdProperty_90 : decode cX2_householdProperty 90 = .ok (.aload_n 0, 1) := by decide +kernel
theorem dX2_householdProperty_91 : decode cX2_householdProperty 91 = .ok (.iload_n 1, 1) := by decide +kernel
theorem dX2_householdProperty_92 : decode cX2_householdProperty 92 = .ok (.invokevirtual 193, 3) := by decide +kernel
theorem dX2_householdProperty_95 : decode cX2_householdProperty 95 = .ok (.ireturn, 1) := by decide +kernel
theorem dX2_householdProperty_96 : decode cX2_householdProperty 96 = .ok (.iconst (-1), 1) := by decide +kernel
theorem dX2_householdProperty_97 : decode cX2_householdProperty 97 = .ok (.ireturn, 1) := by decide +kernel
theorem dX2_rightsOf_0 : decode cX2_rightsOf 0 = .ok (.iconst 0, 1) := by decide +kernel
theorem dX2_rightsOf_1 : decode cX2_rightsOf 1 = .ok (.istore_n 2, 1) := by decide +kernel
theorem dX2_rightsOf_2 : decode cX2_rightsOf 2 = .ok (.iconst 0, 1) := by decide +kernel
theorem dX2_rightsOf_3 : decode cX2_rightsOf 3 = .ok (.istore_n 3, 1) := by decide +kernel
theorem dX2_rightsOf_4 : decode cX2_rightsOf 4 = .ok (.iload_n 3, 1) := by decide +kernel
theorem dX2_rightsOf_5 : decode cX2_rightsOf 5 = .ok (.aload_n 0, 1) := by decide +kernel
theorem dX2_rightsOf_6 : decode cX2_rightsOf 6 = .ok (.getfield 24, 3) := by decide +kernel
theorem dX2_rightsOf_9 : decode cX2_rightsOf 9 = .ok (.if_icmp .ge 26, 3) := by decide +kernel
theorem dX2_rightsOf_12 : decode cX2_rightsOf 12 = .ok (.aload_n 0, 1) := by decide +kernel
theorem dX2_rightsOf_13 : decode cX2_rightsOf 13 = .ok (.getfield 38, 3) := by decide +kernel
theorem dX2_rightsOf_16 : decode cX2_rightsOf 16 = .ok (.iload_n 3, 1) := by decide +kernel
theorem dX2_rightsOf_17 : decode cX2_rightsOf 17 = .ok (.aaload, 1) := by decide +kernel
theorem dX2_rightsOf_18 : decode cX2_rightsOf 18 = .ok (.getfield 81, 3) := by decide +kernel
theorem dX2_rightsOf_21 : decode cX2_rightsOf 21 = .ok (.iload_n 1, 1) := by decide +kernel
theorem dX2_rightsOf_22 : decode cX2_rightsOf 22 = .ok (.baload, 1) := by decide +kernel
theorem dX2_rightsOf_23 : decode cX2_rightsOf 23 = .ok (.ifCond .eq 6, 3) := by decide +kernel
theorem dX2_rightsOf_26 : decode cX2_rightsOf 26 = .ok (.iinc 2 1, 3) := by decide +kernel
theorem dX2_rightsOf_29 : decode cX2_rightsOf 29 = .ok (.iinc 3 1, 3) := by decide +kernel
theorem dX2_rightsOf_32 : decode cX2_rightsOf 32 = .ok (.goto (-28), 3) := by decide +kernel
theorem dX2_rightsOf_35 : decode cX2_rightsOf 35 = .ok (.iload_n 2, 1) := by decide +kernel
theorem dX2_rightsOf_36 : decode cX2_rightsOf 36 = .ok (.ireturn, 1) := by decide +kernel
theorem dX2_stacksOf_0 : decode cX2_stacksOf 0 = .ok (.iconst 0, 1) := by decide +kernel
theorem dX2_stacksOf_1 : decode cX2_stacksOf 1 = .ok (.istore_n 2, 1) := by decide +kernel
theorem dX2_stacksOf_2 : decode cX2_stacksOf 2 = .ok (.iconst 0, 1) := by decide +kernel
theorem dX2_stacksOf_3 : decode cX2_stacksOf 3 = .ok (.istore_n 3, 1) := by decide +kernel
theorem dX2_stacksOf_4 : decode cX2_stacksOf 4 = .ok (.iload_n 3, 1) := by decide +kernel
theorem dX2_stacksOf_5 : decode cX2_stacksOf 5 = .ok (.aload_n 0, 1) := by decide +kernel
theorem dX2_stacksOf_6 : decode cX2_stacksOf 6 = .ok (.getfield 27, 3) := by decide +kernel
theorem dX2_stacksOf_9 : decode cX2_stacksOf 9 = .ok (.if_icmp .ge 25, 3) := by decide +kernel
theorem dX2_stacksOf_12 : decode cX2_stacksOf 12 = .ok (.aload_n 0, 1) := by decide +kernel
theorem dX2_stacksOf_13 : decode cX2_stacksOf 13 = .ok (.getfield 44, 3) := by decide +kernel
theorem dX2_stacksOf_16 : decode cX2_stacksOf 16 = .ok (.iload_n 3, 1) := by decide +kernel
theorem dX2_stacksOf_17 : decode cX2_stacksOf 17 = .ok (.aaload, 1) := by decide +kernel
theorem dX2_stacksOf_18 : decode cX2_stacksOf 18 = .ok (.getfield 113, 3) := by decide +kernel
theorem dX2_stacksOf_21 : decode cX2_stacksOf 21 = .ok (.iload_n 1, 1) := by decide +kernel
theorem dX2_stacksOf_22 : decode cX2_stacksOf 22 = .ok (.if_icmp .ne 6, 3) := by decide +kernel
theorem dX2_stacksOf_25 : decode cX2_stacksOf 25 = .ok (.iinc 2 1, 3) := by decide +kernel
theorem dX2_stacksOf_28 : decode cX2_stacksOf 28 = .ok (.iinc 3 1, 3) := by decide +kernel
theorem dX2_stacksOf_31 : decode cX2_stacksOf 31 = .ok (.goto (-27), 3) := by decide +kernel
theorem dX2_stacksOf_34 : decode cX2_stacksOf 34 = .ok (.iload_n 2, 1) := by decide +kernel
theorem dX2_stacksOf_35 : decode cX2_stacksOf 35 = .ok (.ireturn, 1) := by decide +kernel
theorem dX2_turfsInStacksOf_0 : decode cX2_turfsInStacksOf 0 = .ok (.iconst 0, 1) := by decide +kernel
theorem dX2_turfsInStacksOf_1 : decode cX2_turfsInStacksOf 1 = .ok (.istore_n 2, 1) := by decide +kernel
theorem dX2_turfsInStacksOf_2 : decode cX2_turfsInStacksOf 2 = .ok (.iconst 0, 1) := by decide +kernel
theorem dX2_turfsInStacksOf_3 : decode cX2_turfsInStacksOf 3 = .ok (.istore_n 3, 1) := by decide +kernel
theorem dX2_turfsInStacksOf_4 : decode cX2_turfsInStacksOf 4 = .ok (.iload_n 3, 1) := by decide +kernel
theorem dX2_turfsInStacksOf_5 : decode cX2_turfsInStacksOf 5 = .ok (.aload_n 0, 1) := by decide +kernel
theorem dX2_turfsInStacksOf_6 : decode cX2_turfsInStacksOf 6 = .ok (.getfield 27, 3) := by decide +kernel
theorem dX2_turfsInStacksOf_9 : decode cX2_turfsInStacksOf 9 = .ok (.if_icmp .ge 34, 3) := by decide +kernel
theorem dX2_turfsInStacksOf_12 : decode cX2_turfsInStacksOf 12 = .ok (.aload_n 0, 1) := by decide +kernel
theorem dX2_turfsInStacksOf_13 : decode cX2_turfsInStacksOf 13 = .ok (.getfield 44, 3) := by decide +kernel
theorem dX2_turfsInStacksOf_16 : decode cX2_turfsInStacksOf 16 = .ok (.iload_n 3, 1) := by decide +kernel
theorem dX2_turfsInStacksOf_17 : decode cX2_turfsInStacksOf 17 = .ok (.aaload, 1) := by decide +kernel
theorem dX2_turfsInStacksOf_18 : decode cX2_turfsInStacksOf 18 = .ok (.getfield 113, 3) := by decide +kernel
theorem dX2_turfsInStacksOf_21 : decode cX2_turfsInStacksOf 21 = .ok (.iload_n 1, 1) := by decide +kernel
theorem dX2_turfsInStacksOf_22 : decode cX2_turfsInStacksOf 22 = .ok (.if_icmp .ne 15, 3) := by decide +kernel
theorem dX2_turfsInStacksOf_25 : decode cX2_turfsInStacksOf 25 = .ok (.iload_n 2, 1) := by decide +kernel
theorem dX2_turfsInStacksOf_26 : decode cX2_turfsInStacksOf 26 = .ok (.aload_n 0, 1) := by decide +kernel
theorem dX2_turfsInStacksOf_27 : decode cX2_turfsInStacksOf 27 = .ok (.getfield 44, 3) := by decide +kernel
theorem dX2_turfsInStacksOf_30 : decode cX2_turfsInStacksOf 30 = .ok (.iload_n 3, 1) := by decide +kernel
theorem dX2_turfsInStacksOf_31 : decode cX2_turfsInStacksOf 31 = .ok (.aaload, 1) := by decide +kernel
theorem dX2_turfsInStacksOf_32 : decode cX2_turfsInStacksOf 32 = .ok (.getfield 119, 3) := by decide +kernel
theorem dX2_turfsInStacksOf_35 : decode cX2_turfsInStacksOf 35 = .ok (.iadd, 1) := by decide +kernel
theorem dX2_turfsInStacksOf_36 : decode cX2_turfsInStacksOf 36 = .ok (.istore_n 2, 1) := by decide +kernel
theorem dX2_turfsInStacksOf_37 : decode cX2_turfsInStacksOf 37 = .ok (.iinc 3 1, 3) := by decide +kernel
theorem dX2_turfsInStacksOf_40 : decode cX2_turfsInStacksOf 40 = .ok (.goto (-36), 3) := by decide +kernel
theorem dX2_turfsInStacksOf_43 : decode cX2_turfsInStacksOf 43 = .ok (.iload_n 2, 1) := by decide +kernel
theorem dX2_turfsInStacksOf_44 : decode cX2_turfsInStacksOf 44 = .ok (.ireturn, 1) := by decide +kernel
theorem dX2_bankProperty_0 : decode cX2_bankProperty 0 = .ok (.aload_n 0, 1) := by decide +kernel
theorem dX2_bankProperty_1 : decode cX2_bankProperty 1 = .ok (.iload_n 1, 1) := by decide +kernel
theorem dX2_bankProperty_2 : decode cX2_bankProperty 2 = .ok (.invokevirtual 78, 3) := by decide +kernel
theorem dX2_bankProperty_5 : decode cX2_bankProperty 5 = .ok (.ifCond .ne 5, 3) := by decide +kernel
theorem dX2_bankProperty_8 : decode cX2_bankProperty 8 = .ok (.iconst (-1), 1) := by decide +kernel
theorem dX2_bankProperty_9 : decode cX2_bankProperty 9 = .ok (.ireturn, 1) := by decide +kernel
theorem dX2_bankProperty_10 : decode cX2_bankProperty 10 = .ok (.aload_n 0, 1) := by decide +kernel
theorem dX2_bankProperty_11 : decode cX2_bankProperty 11 = .ok (.getfield 38, 3) := by decide +kernel
theorem dX2_bankProperty_14 : decode cX2_bankProperty 14 = .ok (.iload_n 1, 1) := by decide +kernel
theorem dX2_bankProperty_15 : decode cX2_bankProperty 15 = .ok (.aaload, 1) := by decide +kernel
theorem dX2_bankProperty_16 : decode cX2_bankProperty 16 = .ok (.astore_n 3, 1) := by decide +kernel
theorem dX2_bankProperty_17 : decode cX2_bankProperty 17 = .ok (.iload_n 2, 1) := by decide +kernel
theorem dX2_bankProperty_18 : decode cX2_bankProperty 18 = .ok (.tableswitch 97 0 8 #[50, 55, 60, 65, 71, 76, 81, 87, 92], 50) := by decide +kernel
theorem dX2_bankProperty_68 : decode cX2_bankProperty 68 = .ok (.aload_n 3, 1) := by decide +kernel
theorem dX2_bankProperty_69 : decode cX2_bankProperty 69 = .ok (.getfield 72, 3) := by decide +kernel
theorem dX2_bankProperty_72 : decode cX2_bankProperty 72 = .ok (.ireturn, 1) := by decide +kernel
theorem dX2_bankProperty_73 : decode cX2_bankProperty 73 = .ok (.aload_n 3, 1) := by decide +kernel
theorem dX2_bankProperty_74 : decode cX2_bankProperty 74 = .ok (.getfield 75, 3) := by decide +kernel
theorem dX2_bankProperty_77 : decode cX2_bankProperty 77 = .ok (.ireturn, 1) := by decide +kernel
theorem dX2_bankProperty_78 : decode cX2_bankProperty 78 = .ok (.aload_n 3, 1) := by decide +kernel
theorem dX2_bankProperty_79 : decode cX2_bankProperty 79 = .ok (.getfield 159, 3) := by decide +kernel
theorem dX2_bankProperty_82 : decode cX2_bankProperty 82 = .ok (.ireturn, 1) := by decide +kernel
theorem dX2_bankProperty_83 : decode cX2_bankProperty 83 = .ok (.aload_n 0, 1) := by decide +kernel
theorem dX2_bankProperty_84 : decode cX2_bankProperty 84 = .ok (.aload_n 3, 1) := by decide +kernel
theorem dX2_bankProperty_85 : decode cX2_bankProperty 85 = .ok (.invokevirtual 169, 3) := by decide +kernel
theorem dX2_bankProperty_88 : decode cX2_bankProperty 88 = .ok (.ireturn, 1) := by decide +kernel
theorem dX2_bankProperty_89 : decode cX2_bankProperty 89 = .ok (.aload_n 3, 1) := by decide +kernel
theorem dX2_bankProperty_90 : decode cX2_bankProperty 90 = .ok (.invokevirtual 196, 3) := by decide +kernel
theorem dX2_bankProperty_93 : decode cX2_bankProperty 93 = .ok (.ireturn, 1) := by decide +kernel
theorem dX2_bankProperty_94 : decode cX2_bankProperty 94 = .ok (.aload_n 3, 1) := by decide +kernel
theorem dX2_bankProperty_95 : decode cX2_bankProperty 95 = .ok (.getfield 110, 3) := by decide +kernel
theorem dX2_bankProperty_98 : decode cX2_bankProperty 98 = .ok (.ireturn, 1) := by decide +kernel
theorem dX2_bankProperty_99 : decode cX2_bankProperty 99 = .ok (.aload_n 0, 1) := by decide +kernel
theorem dX2_bankProperty_100 : decode cX2_bankProperty 100 = .ok (.iload_n 1, 1) := by decide +kernel
theorem dX2_bankProperty_101 : decode cX2_bankProperty 101 = .ok (.invokevirtual 199, 3) := by decide +kernel
theorem dX2_bankProperty_104 : decode cX2_bankProperty 104 = .ok (.ireturn, 1) := by decide +kernel
theorem dX2_bankProperty_105 : decode cX2_bankProperty 105 = .ok (.aload_n 3, 1) := by decide +kernel
theorem dX2_bankProperty_106 : decode cX2_bankProperty 106 = .ok (.getfield 178, 3) := by decide +kernel
theorem dX2_bankProperty_109 : decode cX2_bankProperty 109 = .ok (.ireturn, 1) := by decide +kernel
theorem dX2_bankProperty_110 : decode cX2_bankProperty 110 = .ok (.aload_n 3, 1) := by decide +kernel
theorem dX2_bankProperty_111 : decode cX2_bankProperty 111 = .ok (.getfield 153, 3) := by decide +kernel
theorem dX2_bankProperty_114 : decode cX2_bankProperty 114 = .ok (.ireturn, 1) := by decide +kernel
theorem dX2_bankProperty_115 : decode cX2_bankProperty 115 = .ok (.iconst (-1), 1) := by decide +kernel
theorem dX2_bankProperty_116 : decode cX2_bankProperty 116 = .ok (.ireturn, 1) := by decide +kernel
theorem dX2_turfsInStacksAt_0 : decode cX2_turfsInStacksAt 0 = .ok (.iconst 0, 1) := by decide +kernel
theorem dX2_turfsInStacksAt_1 : decode cX2_turfsInStacksAt 1 = .ok (.istore_n 2, 1) := by decide +kernel
theorem dX2_turfsInStacksAt_2 : decode cX2_turfsInStacksAt 2 = .ok (.iconst 0, 1) := by decide +kernel
theorem dX2_turfsInStacksAt_3 : decode cX2_turfsInStacksAt 3 = .ok (.istore_n 3, 1) := by decide +kernel
theorem dX2_turfsInStacksAt_4 : decode cX2_turfsInStacksAt 4 = .ok (.iload_n 3, 1) := by decide +kernel
theorem dX2_turfsInStacksAt_5 : decode cX2_turfsInStacksAt 5 = .ok (.aload_n 0, 1) := by decide +kernel
theorem dX2_turfsInStacksAt_6 : decode cX2_turfsInStacksAt 6 = .ok (.getfield 27, 3) := by decide +kernel
theorem dX2_turfsInStacksAt_9 : decode cX2_turfsInStacksAt 9 = .ok (.if_icmp .ge 34, 3) := by decide +kernel
theorem dX2_turfsInStacksAt_12 : decode cX2_turfsInStacksAt 12 = .ok (.aload_n 0, 1) := by decide +kernel
theorem dX2_turfsInStacksAt_13 : decode cX2_turfsInStacksAt 13 = .ok (.getfield 44, 3) := by decide +kernel
theorem dX2_turfsInStacksAt_16 : decode cX2_turfsInStacksAt 16 = .ok (.iload_n 3, 1) := by decide +kernel
theorem dX2_turfsInStacksAt_17 : decode cX2_turfsInStacksAt 17 = .ok (.aaload, 1) := by decide +kernel
theorem dX2_turfsInStacksAt_18 : decode cX2_turfsInStacksAt 18 = .ok (.getfield 116, 3) := by decide +kernel
theorem dX2_turfsInStacksAt_21 : decode cX2_turfsInStacksAt 21 = .ok (.iload_n 1, 1) := by decide +kernel
theorem dX2_turfsInStacksAt_22 : decode cX2_turfsInStacksAt 22 = .ok (.if_icmp .ne 15, 3) := by decide +kernel
theorem dX2_turfsInStacksAt_25 : decode cX2_turfsInStacksAt 25 = .ok (.iload_n 2, 1) := by decide +kernel
theorem dX2_turfsInStacksAt_26 : decode cX2_turfsInStacksAt 26 = .ok (.aload_n 0, 1) := by decide +kernel
theorem dX2_turfsInStacksAt_27 : decode cX2_turfsInStacksAt 27 = .ok (.getfield 44, 3) := by decide +kernel
theorem dX2_turfsInStacksAt_30 : decode cX2_turfsInStacksAt 30 = .ok (.iload_n 3, 1) := by decide +kernel
theorem dX2_turfsInStacksAt_31 : decode cX2_turfsInStacksAt 31 = .ok (.aaload, 1) := by decide +kernel
theorem dX2_turfsInStacksAt_32 : decode cX2_turfsInStacksAt 32 = .ok (.getfield 119, 3) := by decide +kernel
theorem dX2_turfsInStacksAt_35 : decode cX2_turfsInStacksAt 35 = .ok (.iadd, 1) := by decide +kernel
theorem dX2_turfsInStacksAt_36 : decode cX2_turfsInStacksAt 36 = .ok (.istore_n 2, 1) := by decide +kernel
theorem dX2_turfsInStacksAt_37 : decode cX2_turfsInStacksAt 37 = .ok (.iinc 3 1, 3) := by decide +kernel
theorem dX2_turfsInStacksAt_40 : decode cX2_turfsInStacksAt 40 = .ok (.goto (-36), 3) := by decide +kernel
theorem dX2_turfsInStacksAt_43 : decode cX2_turfsInStacksAt 43 = .ok (.iload_n 2, 1) := by decide +kernel
theorem dX2_turfsInStacksAt_44 : decode cX2_turfsInStacksAt 44 = .ok (.ireturn, 1) := by decide +kernel
theorem dX3_init_0 : decode cX3_init 0 = .ok (.aload_n 0, 1) := by decide +kernel
theorem dX3_init_1 : decode cX3_init 1 = .ok (.invokespecial 3, 3) := by decide +kernel
theorem dX3_init_4 : decode cX3_init 4 = .ok (.aload_n 0, 1) := by decide +kernel
theorem dX3_init_5 : decode cX3_init 5 = .ok (.sipush 140, 3) := by decide +kernel
theorem dX3_init_8 : decode cX3_init 8 = .ok (.newarray .char, 2) := by decide +kernel
theorem dX3_init_10 : decode cX3_init 10 = .ok (.putfield 9, 3) := by decide +kernel
theorem dX3_init_13 : decode cX3_init 13 = .ok (.aload_n 0, 1) := by decide +kernel
theorem dX3_init_14 : decode cX3_init 14 = .ok (.iconst 0, 1) := by decide +kernel
theorem dX3_init_15 : decode cX3_init 15 = .ok (.putfield 15, 3) := by decide +kernel
theorem dX3_init_18 : decode cX3_init 18 = .ok (.aload_n 0, 1) := by decide +kernel
theorem dX3_init_19 : decode cX3_init 19 = .ok (.iconst 0, 1) := by decide +kernel
theorem dX3_init_20 : decode cX3_init 20 = .ok (.putfield 19, 3) := by decide +kernel
theorem dX3_init_23 : decode cX3_init 23 = .ok (.aload_n 0, 1) := by decide +kernel
theorem dX3_init_24 : decode cX3_init 24 = .ok (.iconst 0, 1) := by decide +kernel
theorem dX3_init_25 : decode cX3_init 25 = .ok (.putfield 22, 3) := by decide +kernel
theorem dX3_init_28 : decode cX3_init 28 = .ok (.aload_n 0, 1) := by decide +kernel
theorem dX3_init_29 : decode cX3_init 29 = .ok (.iconst 3, 1) := by decide +kernel
theorem dX3_init_30 : decode cX3_init 30 = .ok (.newarray .int, 2) := by decide +kernel
theorem dX3_init_32 : decode cX3_init 32 = .ok (.putfield 25, 3) := by decide +kernel
theorem dX3_init_35 : decode cX3_init 35 = .ok (.return_, 1) := by decide +kernel
theorem dX4_init_0 : decode cX4_init 0 = .ok (.aload_n 0, 1) := by decide +kernel
theorem dX4_init_1 : decode cX4_init 1 = .ok (.invokespecial 3, 3) := by decide +kernel
theorem dX4_init_4 : decode cX4_init 4 = .ok (.aload_n 0, 1) := by decide +kernel
theorem dX4_init_5 : decode cX4_init 5 = .ok (.new 9, 3) := by decide +kernel
theorem dX4_init_8 : decode cX4_init 8 = .ok (.dup, 1) := by decide +kernel
theorem dX4_init_9 : decode cX4_init 9 = .ok (.invokespecial 11, 3) := by decide +kernel
theorem dX4_init_12 : decode cX4_init 12 = .ok (.putfield 12, 3) := by decide +kernel
theorem dX4_init_15 : decode cX4_init 15 = .ok (.aload_n 0, 1) := by decide +kernel
theorem dX4_init_16 : decode cX4_init 16 = .ok (.iconst 2, 1) := by decide +kernel
theorem dX4_init_17 : decode cX4_init 17 = .ok (.anewarray 9, 3) := by decide +kernel
theorem dX4_init_20 : decode cX4_init 20 = .ok (.putfield 18, 3) := by decide +kernel
theorem dX4_init_23 : decode cX4_init 23 = .ok (.aload_n 0, 1) := by decide +kernel
theorem dX4_init_24 : decode cX4_init 24 = .ok (.iconst 2, 1) := by decide +kernel
theorem dX4_init_25 : decode cX4_init 25 = .ok (.newarray .boolean, 2) := by decide +kernel
theorem dX4_init_27 : decode cX4_init 27 = .ok (.putfield 22, 3) := by decide +kernel
theorem dX4_init_30 : decode cX4_init 30 = .ok (.iconst 0, 1) := by decide +kernel
theorem dX4_init_31 : decode cX4_init 31 = .ok (.istore_n 1, 1) := by decide +kernel
theorem dX4_init_32 : decode cX4_init 32 = .ok (.iload_n 1, 1) := by decide +kernel
theorem dX4_init_33 : decode cX4_init 33 = .ok (.iconst 2, 1) := by decide +kernel
theorem dX4_init_34 : decode cX4_init 34 = .ok (.if_icmp .ge 22, 3) := by decide +kernel
theorem dX4_init_37 : decode cX4_init 37 = .ok (.aload_n 0, 1) := by decide +kernel
theorem dX4_init_38 : decode cX4_init 38 = .ok (.getfield 18, 3) := by decide +kernel
theorem dX4_init_41 : decode cX4_init 41 = .ok (.iload_n 1, 1) := by decide +kernel
theorem dX4_init_42 : decode cX4_init 42 = .ok (.new 9, 3) := by decide +kernel
theorem dX4_init_45 : decode cX4_init 45 = .ok (.dup, 1) := by decide +kernel
theorem dX4_init_46 : decode cX4_init 46 = .ok (.invokespecial 11, 3) := by decide +kernel
theorem dX4_init_49 : decode cX4_init 49 = .ok (.aastore, 1) := by decide +kernel
theorem dX4_init_50 : decode cX4_init 50 = .ok (.iinc 1 1, 3) := by decide +kernel
theorem dX4_init_53 : decode cX4_init 53 = .ok (.goto (-21), 3) := by decide +kernel
theorem dX4_init_56 : decode cX4_init 56 = .ok (.return_, 1) := by decide +kernel
theorem dX4_copyFrom_0 : decode cX4_copyFrom 0 = .ok (.aload_n 0, 1) := by decide +kernel
theorem dX4_copyFrom_1 : decode cX4_copyFrom 1 = .ok (.getfield 12, 3) := by decide +kernel
theorem dX4_copyFrom_4 : decode cX4_copyFrom 4 = .ok (.aload_n 1, 1) := by decide +kernel
theorem dX4_copyFrom_5 : decode cX4_copyFrom 5 = .ok (.getfield 12, 3) := by decide +kernel
theorem dX4_copyFrom_8 : decode cX4_copyFrom 8 = .ok (.invokevirtual 26, 3) := by decide +kernel
theorem dX4_copyFrom_11 : decode cX4_copyFrom 11 = .ok (.iconst 0, 1) := by decide +kernel
theorem dX4_copyFrom_12 : decode cX4_copyFrom 12 = .ok (.istore_n 2, 1) := by decide +kernel
theorem dX4_copyFrom_13 : decode cX4_copyFrom 13 = .ok (.iload_n 2, 1) := by decide +kernel
theorem dX4_copyFrom_14 : decode cX4_copyFrom 14 = .ok (.iconst 2, 1) := by decide +kernel
theorem dX4_copyFrom_15 : decode cX4_copyFrom 15 = .ok (.if_icmp .ge 45, 3) := by decide +kernel
theorem dX4_copyFrom_18 : decode cX4_copyFrom 18 = .ok (.aload_n 0, 1) := by decide +kernel
theorem dX4_copyFrom_19 : decode cX4_copyFrom 19 = .ok (.getfield 22, 3) := by decide +kernel
theorem dX4_copyFrom_22 : decode cX4_copyFrom 22 = .ok (.iload_n 2, 1) := by decide +kernel
theorem dX4_copyFrom_23 : decode cX4_copyFrom 23 = .ok (.aload_n 1, 1) := by decide +kernel
theorem dX4_copyFrom_24 : decode cX4_copyFrom 24 = .ok (.getfield 22, 3) := by decide +kernel
theorem dX4_copyFrom_27 : decode cX4_copyFrom 27 = .ok (.iload_n 2, 1) := by decide +kernel
theorem dX4_copyFrom_28 : decode cX4_copyFrom 28 = .ok (.baload, 1) := by decide +kernel
theorem dX4_copyFrom_29 : decode cX4_copyFrom 29 = .ok (.bastore, 1) := by decide +kernel
theorem dX4_copyFrom_30 : decode cX4_copyFrom 30 = .ok (.aload_n 0, 1) := by decide +kernel
theorem dX4_copyFrom_31 : decode cX4_copyFrom 31 = .ok (.getfield 22, 3) := by decide +kernel
theorem dX4_copyFrom_34 : decode cX4_copyFrom 34 = .ok (.iload_n 2, 1) := by decide +kernel
theorem dX4_copyFrom_35 : decode cX4_copyFrom 35 = .ok (.baload, 1) := by decide +kernel
theorem dX4_copyFrom_36 : decode cX4_copyFrom 36 = .ok (.ifCond .eq 18, 3) := by decide +kernel
theorem dX4_copyFrom_39 : decode cX4_copyFrom 39 = .ok (.aload_n 0, 1) := by decide +kernel
theorem dX4_copyFrom_40 : decode cX4_copyFrom 40 = .ok (.getfield 18, 3) := by decide +kernel
theorem dX4_copyFrom_43 : decode cX4_copyFrom 43 = .ok (.iload_n 2, 1) := by decide +kernel
theorem dX4_copyFrom_44 : decode cX4_copyFrom 44 = .ok (.aaload, 1) := by decide +kernel
theorem dX4_copyFrom_45 : decode cX4_copyFrom 45 = .ok (.aload_n 1, 1) := by decide +kernel
theorem dX4_copyFrom_46 : decode cX4_copyFrom 46 = .ok (.getfield 18, 3) := by decide +kernel
theorem dX4_copyFrom_49 : decode cX4_copyFrom 49 = .ok (.iload_n 2, 1) := by decide +kernel
theorem dX4_copyFrom_50 : decode cX4_copyFrom 50 = .ok (.aaload, 1) := by decide +kernel
theorem dX4_copyFrom_51 : decode cX4_copyFrom 51 = .ok (.invokevirtual 26, 3) := by decide +kernel
theorem dX4_copyFrom_54 : decode cX4_copyFrom 54 = .ok (.iinc 2 1, 3) := by decide +kernel
theorem dX4_copyFrom_57 : decode cX4_copyFrom 57 = .ok (.goto (-44), 3) := by decide +kernel
theorem dX4_copyFrom_60 : decode cX4_copyFrom 60 = .ok (.return_, 1) := by decide +kernel
theorem dX4_snapshots_0 : decode cX4_snapshots 0 = .ok (.iconst 0, 1) := by decide +kernel
theorem dX4_snapshots_1 : decode cX4_snapshots 1 = .ok (.istore_n 1, 1) := by decide +kernel
theorem dX4_snapshots_2 : decode cX4_snapshots 2 = .ok (.iconst 0, 1) := by decide +kernel
theorem dX4_snapshots_3 : decode cX4_snapshots 3 = .ok (.istore_n 2, 1) := by decide +kernel
theorem dX4_snapshots_4 : decode cX4_snapshots 4 = .ok (.iload_n 2, 1) := by decide +kernel
theorem dX4_snapshots_5 : decode cX4_snapshots 5 = .ok (.iconst 2, 1) := by decide +kernel
theorem dX4_snapshots_6 : decode cX4_snapshots 6 = .ok (.if_icmp .ge 21, 3) := by decide +kernel
theorem dX4_snapshots_9 : decode cX4_snapshots 9 = .ok (.aload_n 0, 1) := by decide +kernel
theorem dX4_snapshots_10 : decode cX4_snapshots 10 = .ok (.getfield 22, 3) := by decide +kernel
theorem dX4_snapshots_13 : decode cX4_snapshots 13 = .ok (.iload_n 2, 1) := by decide +kernel
theorem dX4_snapshots_14 : decode cX4_snapshots 14 = .ok (.baload, 1) := by decide +kernel
theorem dX4_snapshots_15 : decode cX4_snapshots 15 = .ok (.ifCond .eq 6, 3) := by decide +kernel
theorem dX4_snapshots_18 : decode cX4_snapshots 18 = .ok (.iinc 1 1, 3) := by decide +kernel
theorem dX4_snapshots_21 : decode cX4_snapshots 21 = .ok (.iinc 2 1, 3) := by decide +kernel
theorem dX4_snapshots_24 : decode cX4_snapshots 24 = .ok (.goto (-20), 3) := by decide +kernel
theorem dX4_snapshots_27 : decode cX4_snapshots 27 = .ok (.iload_n 1, 1) := by decide +kernel
theorem dX4_snapshots_28 : decode cX4_snapshots 28 = .ok (.ireturn, 1) := by decide +kernel
theorem dX5_init_0 : decode cX5_init 0 = .ok (.aload_n 0, 1) := by decide +kernel
theorem dX5_init_1 : decode cX5_init 1 = .ok (.invokespecial 3, 3) := by decide +kernel
theorem dX5_init_4 : decode cX5_init 4 = .ok (.aload_n 0, 1) := by decide +kernel
theorem dX5_init_5 : decode cX5_init 5 = .ok (.iconst 0, 1) := by decide +kernel
theorem dX5_init_6 : decode cX5_init 6 = .ok (.putfield 9, 3) := by decide +kernel
theorem dX5_init_9 : decode cX5_init 9 = .ok (.aload_n 0, 1) := by decide +kernel
theorem dX5_init_10 : decode cX5_init 10 = .ok (.iconst 0, 1) := by decide +kernel
theorem dX5_init_11 : decode cX5_init 11 = .ok (.putfield 15, 3) := by decide +kernel
theorem dX5_init_14 : decode cX5_init 14 = .ok (.aload_n 0, 1) := by decide +kernel
theorem dX5_init_15 : decode cX5_init 15 = .ok (.iconst 0, 1) := by decide +kernel
theorem dX5_init_16 : decode cX5_init 16 = .ok (.putfield 18, 3) := by decide +kernel
theorem dX5_init_19 : decode cX5_init 19 = .ok (.aload_n 0, 1) := by decide +kernel
theorem dX5_init_20 : decode cX5_init 20 = .ok (.iconst 0, 1) := by decide +kernel
theorem dX5_init_21 : decode cX5_init 21 = .ok (.putfield 21, 3) := by decide +kernel
theorem dX5_init_24 : decode cX5_init 24 = .ok (.aload_n 0, 1) := by decide +kernel
theorem dX5_init_25 : decode cX5_init 25 = .ok (.iconst 0, 1) := by decide +kernel
theorem dX5_init_26 : decode cX5_init 26 = .ok (.putfield 24, 3) := by decide +kernel
theorem dX5_init_29 : decode cX5_init 29 = .ok (.return_, 1) := by decide +kernel
theorem dX5_copyFrom_0 : decode cX5_copyFrom 0 = .ok (.aload_n 0, 1) := by decide +kernel
theorem dX5_copyFrom_1 : decode cX5_copyFrom 1 = .ok (.aload_n 1, 1) := by decide +kernel
theorem dX5_copyFrom_2 : decode cX5_copyFrom 2 = .ok (.getfield 9, 3) := by decide +kernel
theorem dX5_copyFrom_5 : decode cX5_copyFrom 5 = .ok (.putfield 9, 3) := by decide +kernel
theorem dX5_copyFrom_8 : decode cX5_copyFrom 8 = .ok (.aload_n 0, 1) := by decide +kernel
theorem dX5_copyFrom_9 : decode cX5_copyFrom 9 = .ok (.aload_n 1, 1) := by decide +kernel
theorem dX5_copyFrom_10 : decode cX5_copyFrom 10 = .ok (.getfield 15, 3) := by decide +kernel
theorem dX5_copyFrom_13 : decode cX5_copyFrom 13 = .ok (.putfield 15, 3) := by decide +kernel
theorem dX5_copyFrom_16 : decode cX5_copyFrom 16 = .ok (.aload_n 0, 1) := by decide +kernel
theorem dX5_copyFrom_17 : decode cX5_copyFrom 17 = .ok (.aload_n 1, 1) := by decide +kernel
theorem dX5_copyFrom_18 : decode cX5_copyFrom 18 = .ok (.getfield 18, 3) := by decide +kernel
theorem dX5_copyFrom_21 : decode cX5_copyFrom 21 = .ok (.putfield 18, 3) := by decide +kernel
theorem dX5_copyFrom_24 : decode cX5_copyFrom 24 = .ok (.aload_n 0, 1) := by decide +kernel
theorem dX5_copyFrom_25 : decode cX5_copyFrom 25 = .ok (.aload_n 1, 1) := by decide +kernel
theorem dX5_copyFrom_26 : decode cX5_copyFrom 26 = .ok (.getfield 21, 3) := by decide +kernel
theorem dX5_copyFrom_29 : decode cX5_copyFrom 29 = .ok (.putfield 21, 3) := by decide +kernel
theorem dX5_copyFrom_32 : decode cX5_copyFrom 32 = .ok (.aload_n 0, 1) := by decide +kernel
theorem dX5_copyFrom_33 : decode cX5_copyFrom 33 = .ok (.aload_n 1, 1) := by decide +kernel
theorem dX5_copyFrom_34 : decode cX5_copyFrom 34 = .ok (.getfield 24, 3) := by decide +kernel
theorem dX5_copyFrom_37 : decode cX5_copyFrom 37 = .ok (.putfield 24, 3) := by decide +kernel
theorem dX5_copyFrom_40 : decode cX5_copyFrom 40 = .ok (.return_, 1) := by decide +kernel
theorem dX5_isDry_0 : decode cX5_isDry 0 = .ok (.aload_n 0, 1) := by decide +kernel
theorem dX5_isDry_1 : decode cX5_isDry 1 = .ok (.getfield 21, 3) := by decide +kernel
theorem dX5_isDry_4 : decode cX5_isDry 4 = .ok (.sipush 30000, 3) := by decide +kernel
theorem dX5_isDry_7 : decode cX5_isDry 7 = .ok (.if_icmp .gt 7, 3) := by decide +kernel
theorem dX5_isDry_10 : decode cX5_isDry 10 = .ok (.iconst 1, 1) := by decide +kernel
theorem dX5_isDry_11 : decode cX5_isDry 11 = .ok (.goto 4, 3) := by decide +kernel
theorem dX5_isDry_14 : decode cX5_isDry 14 = .ok (.iconst 0, 1) := by decide +kernel
theorem dX5_isDry_15 : decode cX5_isDry 15 = .ok (.ireturn, 1) := by decide +kernel
theorem dX5_turfWeight_0 : decode cX5_turfWeight 0 = .ok (.sipush 1000, 3) := by decide +kernel
theorem dX5_turfWeight_3 : decode cX5_turfWeight 3 = .ok (.aload_n 0, 1) := by decide +kernel
theorem dX5_turfWeight_4 : decode cX5_turfWeight 4 = .ok (.getfield 21, 3) := by decide +kernel
theorem dX5_turfWeight_7 : decode cX5_turfWeight 7 = .ok (.bipush 100, 2) := by decide +kernel
theorem dX5_turfWeight_9 : decode cX5_turfWeight 9 = .ok (.idiv, 1) := by decide +kernel
theorem dX5_turfWeight_10 : decode cX5_turfWeight 10 = .ok (.iadd, 1) := by decide +kernel
theorem dX5_turfWeight_11 : decode cX5_turfWeight 11 = .ok (.ireturn, 1) := by decide +kernel
theorem dX5_loadOf_0 : decode cX5_loadOf 0 = .ok (.iload_n 1, 1) := by decide +kernel
theorem dX5_loadOf_1 : decode cX5_loadOf 1 = .ok (.aload_n 0, 1) := by decide +kernel
theorem dX5_loadOf_2 : decode cX5_loadOf 2 = .ok (.invokevirtual 27, 3) := by decide +kernel
theorem dX5_loadOf_5 : decode cX5_loadOf 5 = .ok (.imul, 1) := by decide +kernel
theorem dX5_loadOf_6 : decode cX5_loadOf 6 = .ok (.sipush 999, 3) := by decide +kernel
theorem dX5_loadOf_9 : decode cX5_loadOf 9 = .ok (.iadd, 1) := by decide +kernel
theorem dX5_loadOf_10 : decode cX5_loadOf 10 = .ok (.sipush 1000, 3) := by decide +kernel
theorem dX5_loadOf_13 : decode cX5_loadOf 13 = .ok (.idiv, 1) := by decide +kernel
theorem dX5_loadOf_14 : decode cX5_loadOf 14 = .ok (.ireturn, 1) := by decide +kernel
theorem dX5_wetnessAfterDay_0 : decode cX5_wetnessAfterDay 0 = .ok (.iload_n 2, 1) := by decide +kernel
theorem dX5_wetnessAfterDay_1 : decode cX5_wetnessAfterDay 1 = .ok (.aload_n 0, 1) := by decide +kernel
theorem dX5_wetnessAfterDay_2 : decode cX5_wetnessAfterDay 2 = .ok (.getfield 24, 3) := by decide +kernel
theorem dX5_wetnessAfterDay_5 : decode cX5_wetnessAfterDay 5 = .ok (.iconst 1, 1) := by decide +kernel
theorem dX5_wetnessAfterDay_6 : decode cX5_wetnessAfterDay 6 = .ok (.iadd, 1) := by decide +kernel
theorem dX5_wetnessAfterDay_7 : decode cX5_wetnessAfterDay 7 = .ok (.imul, 1) := by decide +kernel
theorem dX5_wetnessAfterDay_8 : decode cX5_wetnessAfterDay 8 = .ok (.istore 4, 2) := by decide +kernel
theorem dX5_wetnessAfterDay_10 : decode cX5_wetnessAfterDay 10 = .ok (.iload_n 1, 1) := by decide +kernel
theorem dX5_wetnessAfterDay_11 : decode cX5_wetnessAfterDay 11 = .ok (.i2d, 1) := by decide +kernel
theorem dX5_wetnessAfterDay_12 : decode cX5_wetnessAfterDay 12 = .ok (.dconst 1, 1) := by decide +kernel
theorem dX5_wetnessAfterDay_13 : decode cX5_wetnessAfterDay 13 = .ok (.iload 4, 2) := by decide +kernel
theorem dX5_wetnessAfterDay_15 : decode cX5_wetnessAfterDay 15 = .ok (.i2d, 1) := by decide +kernel
theorem dX5_wetnessAfterDay_16 : decode cX5_wetnessAfterDay 16 = .ok (.ldc2_w 37, 3) := by decide +kernel
theorem dX5_wetnessAfterDay_19 : decode cX5_wetnessAfterDay 19 = .ok (.ddiv, 1) := by decide +kernel
theorem dX5_wetnessAfterDay_20 : decode cX5_wetnessAfterDay 20 = .ok (.dsub, 1) := by decide +kernel
theorem dX5_wetnessAfterDay_21 : decode cX5_wetnessAfterDay 21 = .ok (.dmul, 1) := by decide +kernel
theorem dX5_wetnessAfterDay_22 : decode cX5_wetnessAfterDay 22 = .ok (.d2i, 1) := by decide +kernel
theorem dX5_wetnessAfterDay_23 : decode cX5_wetnessAfterDay 23 = .ok (.istore 5, 2) := by decide +kernel
theorem dX5_wetnessAfterDay_25 : decode cX5_wetnessAfterDay 25 = .ok (.ldc 39, 2) := by decide +kernel
theorem dX5_wetnessAfterDay_27 : decode cX5_wetnessAfterDay 27 = .ok (.iload 5, 2) := by decide +kernel
theorem dX5_wetnessAfterDay_29 : decode cX5_wetnessAfterDay 29 = .ok (.sipush 1500, 3) := by decide +kernel
theorem dX5_wetnessAfterDay_32 : decode cX5_wetnessAfterDay 32 = .ok (.iload_n 3, 1) := by decide +kernel
theorem dX5_wetnessAfterDay_33 : decode cX5_wetnessAfterDay 33 = .ok (.imul, 1) := by decide +kernel
theorem dX5_wetnessAfterDay_34 : decode cX5_wetnessAfterDay 34 = .ok (.iadd, 1) := by decide +kernel
theorem dX5_wetnessAfterDay_35 : decode cX5_wetnessAfterDay 35 = .ok (.invokestatic 31, 3) := by decide +kernel
theorem dX5_wetnessAfterDay_38 : decode cX5_wetnessAfterDay 38 = .ok (.ireturn, 1) := by decide +kernel
theorem dX5_takeAllOf_0 : decode cX5_takeAllOf 0 = .ok (.aload_n 0, 1) := by decide +kernel
theorem dX5_takeAllOf_1 : decode cX5_takeAllOf 1 = .ok (.getfield 18, 3) := by decide +kernel
theorem dX5_takeAllOf_4 : decode cX5_takeAllOf 4 = .ok (.aload_n 1, 1) := by decide +kernel
theorem dX5_takeAllOf_5 : decode cX5_takeAllOf 5 = .ok (.getfield 18, 3) := by decide +kernel
theorem dX5_takeAllOf_8 : decode cX5_takeAllOf 8 = .ok (.iadd, 1) := by decide +kernel
theorem dX5_takeAllOf_9 : decode cX5_takeAllOf 9 = .ok (.istore_n 2, 1) := by decide +kernel
theorem dX5_takeAllOf_10 : decode cX5_takeAllOf 10 = .ok (.iload_n 2, 1) := by decide +kernel
theorem dX5_takeAllOf_11 : decode cX5_takeAllOf 11 = .ok (.ifCond .le 41, 3) := by decide +kernel
theorem dX5_takeAllOf_14 : decode cX5_takeAllOf 14 = .ok (.aload_n 0, 1) := by decide +kernel
theorem dX5_takeAllOf_15 : decode cX5_takeAllOf 15 = .ok (.getfield 18, 3) := by decide +kernel
theorem dX5_takeAllOf_18 : decode cX5_takeAllOf 18 = .ok (.i2l, 1) := by decide +kernel
theorem dX5_takeAllOf_19 : decode cX5_takeAllOf 19 = .ok (.aload_n 0, 1) := by decide +kernel
theorem dX5_takeAllOf_20 : decode cX5_takeAllOf 20 = .ok (.getfield 21, 3) := by decide +kernel
theorem dX5_takeAllOf_23 : decode cX5_takeAllOf 23 = .ok (.i2l, 1) := by decide +kernel
theorem dX5_takeAllOf_24 : decode cX5_takeAllOf 24 = .ok (.lmul, 1) := by decide +kernel
theorem dX5_takeAllOf_25 : decode cX5_takeAllOf 25 = .ok (.aload_n 1, 1) := by decide +kernel
theorem dX5_takeAllOf_26 : decode cX5_takeAllOf 26 = .ok (.getfield 18, 3) := by decide +kernel
theorem dX5_takeAllOf_29 : decode cX5_takeAllOf 29 = .ok (.i2l, 1) := by decide +kernel
theorem dX5_takeAllOf_30 : decode cX5_takeAllOf 30 = .ok (.aload_n 1, 1) := by decide +kernel
theorem dX5_takeAllOf_31 : decode cX5_takeAllOf 31 = .ok (.getfield 21, 3) := by decide +kernel
theorem dX5_takeAllOf_34 : decode cX5_takeAllOf 34 = .ok (.i2l, 1) := by decide +kernel
theorem dX5_takeAllOf_35 : decode cX5_takeAllOf 35 = .ok (.lmul, 1) := by decide +kernel
theorem dX5_takeAllOf_36 : decode cX5_takeAllOf 36 = .ok (.ladd, 1) := by decide +kernel
theorem dX5_takeAllOf_37 : decode cX5_takeAllOf 37 = .ok (.lstore_n 3, 1) := by decide +kernel
theorem dX5_takeAllOf_38 : decode cX5_takeAllOf 38 = .ok (.aload_n 0, 1) := by decide +kernel
theorem dX5_takeAllOf_39 : decode cX5_takeAllOf 39 = .ok (.lload_n 3, 1) := by decide +kernel
theorem dX5_takeAllOf_40 : decode cX5_takeAllOf 40 = .ok (.iload_n 2, 1) := by decide +kernel
theorem dX5_takeAllOf_41 : decode cX5_takeAllOf 41 = .ok (.i2l, 1) := by decide +kernel
theorem dX5_takeAllOf_42 : decode cX5_takeAllOf 42 = .ok (.ladd, 1) := by decide +kernel
theorem dX5_takeAllOf_43 : decode cX5_takeAllOf 43 = .ok (.lconst 1, 1) := by decide +kernel
theorem dX5_takeAllOf_44 : decode cX5_takeAllOf 44 = .ok (.lsub, 1) := by decide +kernel
theorem dX5_takeAllOf_45 : decode cX5_takeAllOf 45 = .ok (.iload_n 2, 1) := by decide +kernel
theorem dX5_takeAllOf_46 : decode cX5_takeAllOf 46 = .ok (.i2l, 1) := by decide +kernel
theorem dX5_takeAllOf_47 : decode cX5_takeAllOf 47 = .ok (.ldiv, 1) := by decide +kernel
theorem dX5_takeAllOf_48 : decode cX5_takeAllOf 48 = .ok (.l2i, 1) := by decide +kernel
theorem dX5_takeAllOf_49 : decode cX5_takeAllOf 49 = .ok (.putfield 21, 3) := by decide +kernel
theorem dX5_takeAllOf_52 : decode cX5_takeAllOf 52 = .ok (.aload_n 0, 1) := by decide +kernel
theorem dX5_takeAllOf_53 : decode cX5_takeAllOf 53 = .ok (.iload_n 2, 1) := by decide +kernel
theorem dX5_takeAllOf_54 : decode cX5_takeAllOf 54 = .ok (.putfield 18, 3) := by decide +kernel
theorem dX5_takeAllOf_57 : decode cX5_takeAllOf 57 = .ok (.aload_n 0, 1) := by decide +kernel
theorem dX5_takeAllOf_58 : decode cX5_takeAllOf 58 = .ok (.aload_n 0, 1) := by decide +kernel
theorem dX5_takeAllOf_59 : decode cX5_takeAllOf 59 = .ok (.getfield 24, 3) := by decide +kernel
theorem dX5_takeAllOf_62 : decode cX5_takeAllOf 62 = .ok (.aload_n 1, 1) := by decide +kernel
theorem dX5_takeAllOf_63 : decode cX5_takeAllOf 63 = .ok (.getfield 24, 3) := by decide +kernel
theorem dX5_takeAllOf_66 : decode cX5_takeAllOf 66 = .ok (.invokestatic 31, 3) := by decide +kernel
theorem dX5_takeAllOf_69 : decode cX5_takeAllOf 69 = .ok (.putfield 24, 3) := by decide +kernel
theorem dX5_takeAllOf_72 : decode cX5_takeAllOf 72 = .ok (.return_, 1) := by decide +kernel
theorem dX6_init_0 : decode cX6_init 0 = .ok (.aload_n 0, 1) := by decide +kernel
theorem dX6_init_1 : decode cX6_init 1 = .ok (.invokespecial 1, 3) := by decide +kernel
theorem dX6_init_4 : decode cX6_init 4 = .ok (.aload_n 0, 1) := by decide +kernel
theorem dX6_init_5 : decode cX6_init 5 = .ok (.new 7, 3) := by decide +kernel
theorem dX6_init_8 : decode cX6_init 8 = .ok (.dup, 1) := by decide +kernel
theorem dX6_init_9 : decode cX6_init 9 = .ok (.invokespecial 9, 3) := by decide +kernel
theorem dX6_init_12 : decode cX6_init 12 = .ok (.putfield 10, 3) := by decide +kernel
theorem dX6_init_15 : decode cX6_init 15 = .ok (.aload_n 0, 1) := by decide +kernel
theorem dX6_init_16 : decode cX6_init 16 = .ok (.new 7, 3) := by decide +kernel
theorem dX6_init_19 : decode cX6_init 19 = .ok (.dup, 1) := by decide +kernel
theorem dX6_init_20 : decode cX6_init 20 = .ok (.invokespecial 9, 3) := by decide +kernel
theorem dX6_init_23 : decode cX6_init 23 = .ok (.putfield 16, 3) := by decide +kernel
theorem dX6_init_26 : decode cX6_init 26 = .ok (.aload_n 0, 1) := by decide +kernel
theorem dX6_init_27 : decode cX6_init 27 = .ok (.iconst 5, 1) := by decide +kernel
theorem dX6_init_28 : decode cX6_init 28 = .ok (.anewarray 7, 3) := by decide +kernel
theorem dX6_init_31 : decode cX6_init 31 = .ok (.putfield 19, 3) := by decide +kernel
theorem dX6_init_34 : decode cX6_init 34 = .ok (.aload_n 0, 1) := by decide +kernel
theorem dX6_init_35 : decode cX6_init 35 = .ok (.iconst 0, 1) := by decide +kernel
theorem dX6_init_36 : decode cX6_init 36 = .ok (.putfield 23, 3) := by decide +kernel
theorem dX6_init_39 : decode cX6_init 39 = .ok (.aload_n 0, 1) := by decide +kernel
theorem dX6_init_40 : decode cX6_init 40 = .ok (.new 27, 3) := by decide +kernel
theorem dX6_init_43 : decode cX6_init 43 = .ok (.dup, 1) := by decide +kernel
theorem dX6_init_44 : decode cX6_init 44 = .ok (.invokespecial 29, 3) := by decide +kernel
theorem dX6_init_47 : decode cX6_init 47 = .ok (.putfield 30, 3) := by decide +kernel
theorem dX6_init_50 : decode cX6_init 50 = .ok (.iconst 0, 1) := by decide +kernel
theorem dX6_init_51 : decode cX6_init 51 = .ok (.istore_n 1, 1) := by decide +kernel
theorem dX6_init_52 : decode cX6_init 52 = .ok (.iload_n 1, 1) := by decide +kernel
theorem dX6_init_53 : decode cX6_init 53 = .ok (.iconst 5, 1) := by decide +kernel
theorem dX6_init_54 : decode cX6_init 54 = .ok (.if_icmp .ge 22, 3) := by decide +kernel
theorem dX6_init_57 : decode cX6_init 57 = .ok (.aload_n 0, 1) := by decide +kernel
theorem dX6_init_58 : decode cX6_init 58 = .ok (.getfield 19, 3) := by decide +kernel
theorem dX6_init_61 : decode cX6_init 61 = .ok (.iload_n 1, 1) := by decide +kernel
theorem dX6_init_62 : decode cX6_init 62 = .ok (.new 7, 3) := by decide +kernel
theorem dX6_init_65 : decode cX6_init 65 = .ok (.dup, 1) := by decide +kernel
theorem dX6_init_66 : decode cX6_init 66 = .ok (.invokespecial 9, 3) := by decide +kernel
theorem dX6_init_69 : decode cX6_init 69 = .ok (.aastore, 1) := by decide +kernel
theorem dX6_init_70 : decode cX6_init 70 = .ok (.iinc 1 1, 3) := by decide +kernel
theorem dX6_init_73 : decode cX6_init 73 = .ok (.goto (-21), 3) := by decide +kernel
theorem dX6_init_76 : decode cX6_init 76 = .ok (.return_, 1) := by decide +kernel
theorem dX6_come_0 : decode cX6_come 0 = .ok (.aload_n 0, 1) := by decide +kernel
theorem dX6_come_1 : decode cX6_come 1 = .ok (.getfield 16, 3) := by decide +kernel
theorem dX6_come_4 : decode cX6_come 4 = .ok (.aload_n 0, 1) := by decide +kernel
theorem dX6_come_5 : decode cX6_come 5 = .ok (.getfield 10, 3) := by decide +kernel
theorem dX6_come_8 : decode cX6_come 8 = .ok (.invokevirtual 34, 3) := by decide +kernel
theorem dX6_come_11 : decode cX6_come 11 = .ok (.aload_n 0, 1) := by decide +kernel
theorem dX6_come_12 : decode cX6_come 12 = .ok (.aload_n 0, 1) := by decide +kernel
theorem dX6_come_13 : decode cX6_come 13 = .ok (.getfield 10, 3) := by decide +kernel
theorem dX6_come_16 : decode cX6_come 16 = .ok (.getfield 38, 3) := by decide +kernel
theorem dX6_come_19 : decode cX6_come 19 = .ok (.iload_n 1, 1) := by decide +kernel
theorem dX6_come_20 : decode cX6_come 20 = .ok (.invokevirtual 42, 3) := by decide +kernel
theorem dX6_come_23 : decode cX6_come 23 = .ok (.invokevirtual 48, 3) := by decide +kernel
theorem dX6_come_26 : decode cX6_come 26 = .ok (.ireturn, 1) := by decide +kernel
theorem dX6_setSpades_0 : decode cX6_setSpades 0 = .ok (.aload_n 0, 1) := by decide +kernel
theorem dX6_setSpades_1 : decode cX6_setSpades 1 = .ok (.getfield 16, 3) := by decide +kernel
theorem dX6_setSpades_4 : decode cX6_setSpades 4 = .ok (.aload_n 0, 1) := by decide +kernel
theorem dX6_setSpades_5 : decode cX6_setSpades 5 = .ok (.getfield 10, 3) := by decide +kernel
theorem dX6_setSpades_8 : decode cX6_setSpades 8 = .ok (.invokevirtual 34, 3) := by decide +kernel
theorem dX6_setSpades_11 : decode cX6_setSpades 11 = .ok (.aload_n 0, 1) := by decide +kernel
theorem dX6_setSpades_12 : decode cX6_setSpades 12 = .ok (.aload_n 0, 1) := by decide +kernel
theorem dX6_setSpades_13 : decode cX6_setSpades 13 = .ok (.getfield 10, 3) := by decide +kernel
theorem dX6_setSpades_16 : decode cX6_setSpades 16 = .ok (.getfield 38, 3) := by decide +kernel
theorem dX6_setSpades_19 : decode cX6_setSpades 19 = .ok (.iload_n 1, 1) := by decide +kernel
theorem dX6_setSpades_20 : decode cX6_setSpades 20 = .ok (.iload_n 2, 1) := by decide +kernel
theorem dX6_setSpades_21 : decode cX6_setSpades 21 = .ok (.invokevirtual 51, 3) := by decide +kernel
theorem dX6_setSpades_24 : decode cX6_setSpades 24 = .ok (.invokevirtual 48, 3) := by decide +kernel
theorem dX6_setSpades_27 : decode cX6_setSpades 27 = .ok (.ireturn, 1) := by decide +kernel
theorem dX6_addBank_0 : decode cX6_addBank 0 = .ok (.aload_n 0, 1) := by decide +kernel
theorem dX6_addBank_1 : decode cX6_addBank 1 = .ok (.getfield 16, 3) := by decide +kernel
theorem dX6_addBank_4 : decode cX6_addBank 4 = .ok (.aload_n 0, 1) := by decide +kernel
theorem dX6_addBank_5 : decode cX6_addBank 5 = .ok (.getfield 10, 3) := by decide +kernel
theorem dX6_addBank_8 : decode cX6_addBank 8 = .ok (.invokevirtual 34, 3) := by decide +kernel
theorem dX6_addBank_11 : decode cX6_addBank 11 = .ok (.aload_n 0, 1) := by decide +kernel
theorem dX6_addBank_12 : decode cX6_addBank 12 = .ok (.aload_n 0, 1) := by decide +kernel
theorem dX6_addBank_13 : decode cX6_addBank 13 = .ok (.getfield 10, 3) := by decide +kernel
theorem dX6_addBank_16 : decode cX6_addBank 16 = .ok (.getfield 38, 3) := by decide +kernel
theorem dX6_addBank_19 : decode cX6_addBank 19 = .ok (.iload_n 1, 1) := by decide +kernel
theorem dX6_addBank_20 : decode cX6_addBank 20 = .ok (.iload_n 2, 1) := by decide +kernel
theorem dX6_addBank_21 : decode cX6_addBank 21 = .ok (.invokevirtual 55, 3) := by decide +kernel
theorem dX6_addBank_24 : decode cX6_addBank 24 = .ok (.invokevirtual 48, 3) := by decide +kernel
theorem dX6_addBank_27 : decode cX6_addBank 27 = .ok (.ireturn, 1) := by decide +kernel
theorem dX6_setAllowance_0 : decode cX6_setAllowance 0 = .ok (.aload_n 0, 1) := by decide +kernel
theorem dX6_setAllowance_1 : decode cX6_setAllowance 1 = .ok (.getfield 16, 3) := by decide +kernel
theorem dX6_setAllowance_4 : decode cX6_setAllowance 4 = .ok (.aload_n 0, 1) := by decide +kernel
theorem dX6_setAllowance_5 : decode cX6_setAllowance 5 = .ok (.getfield 10, 3) := by decide +kernel
theorem dX6_setAllowance_8 : decode cX6_setAllowance 8 = .ok (.invokevirtual 34, 3) := by decide +kernel
theorem dX6_setAllowance_11 : decode cX6_setAllowance 11 = .ok (.aload_n 0, 1) := by decide +kernel
theorem dX6_setAllowance_12 : decode cX6_setAllowance 12 = .ok (.aload_n 0, 1) := by decide +kernel
theorem dX6_setAllowance_13 : decode cX6_setAllowance 13 = .ok (.getfield 10, 3) := by decide +kernel
theorem dX6_setAllowance_16 : decode cX6_setAllowance 16 = .ok (.getfield 38, 3) := by decide +kernel
theorem dX6_setAllowance_19 : decode cX6_setAllowance 19 = .ok (.iload_n 1, 1) := by decide +kernel
theorem dX6_setAllowance_20 : decode cX6_setAllowance 20 = .ok (.iload_n 2, 1) := by decide +kernel
theorem dX6_setAllowance_21 : decode cX6_setAllowance 21 = .ok (.invokevirtual 58, 3) := by decide +kernel
theorem dX6_setAllowance_24 : decode cX6_setAllowance 24 = .ok (.invokevirtual 48, 3) := by decide +kernel
theorem dX6_setAllowance_27 : decode cX6_setAllowance 27 = .ok (.ireturn, 1) := by decide +kernel
theorem dX6_grant_0 : decode cX6_grant 0 = .ok (.aload_n 0, 1) := by decide +kernel
theorem dX6_grant_1 : decode cX6_grant 1 = .ok (.getfield 16, 3) := by decide +kernel
theorem dX6_grant_4 : decode cX6_grant 4 = .ok (.aload_n 0, 1) := by decide +kernel
theorem dX6_grant_5 : decode cX6_grant 5 = .ok (.getfield 10, 3) := by decide +kernel
theorem dX6_grant_8 : decode cX6_grant 8 = .ok (.invokevirtual 34, 3) := by decide +kernel
theorem dX6_grant_11 : decode cX6_grant 11 = .ok (.aload_n 0, 1) := by decide +kernel
theorem dX6_grant_12 : decode cX6_grant 12 = .ok (.aload_n 0, 1) := by decide +kernel
theorem dX6_grant_13 : decode cX6_grant 13 = .ok (.getfield 10, 3) := by decide +kernel
theorem dX6_grant_16 : decode cX6_grant 16 = .ok (.getfield 38, 3) := by decide +kernel
theorem dX6_grant_19 : decode cX6_grant 19 = .ok (.iload_n 1, 1) := by decide +kernel
theorem dX6_grant_20 : decode cX6_grant 20 = .ok (.iload_n 2, 1) := by decide +kernel
theorem dX6_grant_21 : decode cX6_grant 21 = .ok (.iload_n 3, 1) := by decide +kernel
theorem dX6_grant_22 : decode cX6_grant 22 = .ok (.invokevirtual 61, 3) := by decide +kernel
theorem dX6_grant_25 : decode cX6_grant 25 = .ok (.invokevirtual 48, 3) := by decide +kernel
theorem dX6_grant_28 : decode cX6_grant 28 = .ok (.ireturn, 1) := by decide +kernel
theorem dX6_cut_0 : decode cX6_cut 0 = .ok (.aload_n 0, 1) := by decide +kernel
theorem dX6_cut_1 : decode cX6_cut 1 = .ok (.getfield 16, 3) := by decide +kernel
theorem dX6_cut_4 : decode cX6_cut 4 = .ok (.aload_n 0, 1) := by decide +kernel
theorem dX6_cut_5 : decode cX6_cut 5 = .ok (.getfield 10, 3) := by decide +kernel
theorem dX6_cut_8 : decode cX6_cut 8 = .ok (.invokevirtual 34, 3) := by decide +kernel
theorem dX6_cut_11 : decode cX6_cut 11 = .ok (.aload_n 0, 1) := by decide +kernel
theorem dX6_cut_12 : decode cX6_cut 12 = .ok (.aload_n 0, 1) := by decide +kernel
theorem dX6_cut_13 : decode cX6_cut 13 = .ok (.getfield 10, 3) := by decide +kernel
theorem dX6_cut_16 : decode cX6_cut 16 = .ok (.getfield 38, 3) := by decide +kernel
theorem dX6_cut_19 : decode cX6_cut 19 = .ok (.iload_n 1, 1) := by decide +kernel
theorem dX6_cut_20 : decode cX6_cut 20 = .ok (.iload_n 2, 1) := by decide +kernel
theorem dX6_cut_21 : decode cX6_cut 21 = .ok (.iload_n 3, 1) := by decide +kernel
theorem dX6_cut_22 : decode cX6_cut 22 = .ok (.invokevirtual 65, 3) := by decide +kernel
theorem dX6_cut_25 : decode cX6_cut 25 = .ok (.invokevirtual 48, 3) := by decide +kernel
theorem dX6_cut_28 : decode cX6_cut 28 = .ok (.ireturn, 1) := by decide +kernel
theorem dX6_turn_0 : decode cX6_turn 0 = .ok (.aload_n 0, 1) := by decide +kernel
theorem dX6_turn_1 : decode cX6_turn 1 = .ok (.getfield 16, 3) := by decide +kernel
theorem dX6_turn_4 : decode cX6_turn 4 = .ok (.aload_n 0, 1) := by decide +kernel
theorem dX6_turn_5 : decode cX6_turn 5 = .ok (.getfield 10, 3) := by decide +kernel
theorem dX6_turn_8 : decode cX6_turn 8 = .ok (.invokevirtual 34, 3) := by decide +kernel
theorem dX6_turn_11 : decode cX6_turn 11 = .ok (.aload_n 0, 1) := by decide +kernel
theorem dX6_turn_12 : decode cX6_turn 12 = .ok (.aload_n 0, 1) := by decide +kernel
theorem dX6_turn_13 : decode cX6_turn 13 = .ok (.getfield 10, 3) := by decide +kernel
theorem dX6_turn_16 : decode cX6_turn 16 = .ok (.getfield 38, 3) := by decide +kernel
theorem dX6_turn_19 : decode cX6_turn 19 = .ok (.iload_n 1, 1) := by decide +kernel
theorem dX6_turn_20 : decode cX6_turn 20 = .ok (.invokevirtual 68, 3) := by decide +kernel
theorem dX6_turn_23 : decode cX6_turn 23 = .ok (.invokevirtual 48, 3) := by decide +kernel
theorem dX6_turn_26 : decode cX6_turn 26 = .ok (.ireturn, 1) := by decide +kernel
theorem dX6_join_0 : decode cX6_join 0 = .ok (.aload_n 0, 1) := by decide +kernel
theorem dX6_join_1 : decode cX6_join 1 = .ok (.getfield 16, 3) := by decide +kernel
theorem dX6_join_4 : decode cX6_join 4 = .ok (.aload_n 0, 1) := by decide +kernel
theorem dX6_join_5 : decode cX6_join 5 = .ok (.getfield 10, 3) := by decide +kernel
theorem dX6_join_8 : decode cX6_join 8 = .ok (.invokevirtual 34, 3) := by decide +kernel
theorem dX6_join_11 : decode cX6_join 11 = .ok (.aload_n 0, 1) := by decide +kernel
theorem dX6_join_12 : decode cX6_join 12 = .ok (.aload_n 0, 1) := by decide +kernel
theorem dX6_join_13 : decode cX6_join 13 = .ok (.getfield 10, 3) := by decide +kernel
theorem dX6_join_16 : decode cX6_join 16 = .ok (.getfield 38, 3) := by decide +kernel
theorem dX6_join_19 : decode cX6_join 19 = .ok (.iload_n 1, 1) := by decide +kernel
theorem dX6_join_20 : decode cX6_join 20 = .ok (.iload_n 2, 1) := by decide +kernel
theorem dX6_join_21 : decode cX6_join 21 = .ok (.invokevirtual 71, 3) := by decide +kernel
theorem dX6_join_24 : decode cX6_join 24 = .ok (.invokevirtual 48, 3) := by decide +kernel
theorem dX6_join_27 : decode cX6_join 27 = .ok (.ireturn, 1) := by decide +kernel
theorem dX6_cart_0 : decode cX6_cart 0 = .ok (.aload_n 0, 1) := by decide +kernel
theorem dX6_cart_1 : decode cX6_cart 1 = .ok (.getfield 16, 3) := by decide +kernel
theorem dX6_cart_4 : decode cX6_cart 4 = .ok (.aload_n 0, 1) := by decide +kernel
theorem dX6_cart_5 : decode cX6_cart 5 = .ok (.getfield 10, 3) := by decide +kernel
theorem dX6_cart_8 : decode cX6_cart 8 = .ok (.invokevirtual 34, 3) := by decide +kernel
theorem dX6_cart_11 : decode cX6_cart 11 = .ok (.aload_n 0, 1) := by decide +kernel
theorem dX6_cart_12 : decode cX6_cart 12 = .ok (.aload_n 0, 1) := by decide +kernel
theorem dX6_cart_13 : decode cX6_cart 13 = .ok (.getfield 10, 3) := by decide +kernel
theorem dX6_cart_16 : decode cX6_cart 16 = .ok (.getfield 38, 3) := by decide +kernel
theorem dX6_cart_19 : decode cX6_cart 19 = .ok (.iload_n 1, 1) := by decide +kernel
theorem dX6_cart_20 : decode cX6_cart 20 = .ok (.iload_n 2, 1) := by decide +kernel
theorem dX6_cart_21 : decode cX6_cart 21 = .ok (.invokevirtual 74, 3) := by decide +kernel
theorem dX6_cart_24 : decode cX6_cart 24 = .ok (.invokevirtual 48, 3) := by decide +kernel
theorem dX6_cart_27 : decode cX6_cart 27 = .ok (.ireturn, 1) := by decide +kernel
theorem dX6_repair_0 : decode cX6_repair 0 = .ok (.aload_n 0, 1) := by decide +kernel
theorem dX6_repair_1 : decode cX6_repair 1 = .ok (.getfield 16, 3) := by decide +kernel
theorem dX6_repair_4 : decode cX6_repair 4 = .ok (.aload_n 0, 1) := by decide +kernel
theorem dX6_repair_5 : decode cX6_repair 5 = .ok (.getfield 10, 3) := by decide +kernel
theorem dX6_repair_8 : decode cX6_repair 8 = .ok (.invokevirtual 34, 3) := by decide +kernel
theorem dX6_repair_11 : decode cX6_repair 11 = .ok (.aload_n 0, 1) := by decide +kernel
theorem dX6_repair_12 : decode cX6_repair 12 = .ok (.aload_n 0, 1) := by decide +kernel
theorem dX6_repair_13 : decode cX6_repair 13 = .ok (.getfield 10, 3) := by decide +kernel
theorem dX6_repair_16 : decode cX6_repair 16 = .ok (.getfield 38, 3) := by decide +kernel
theorem dX6_repair_19 : decode cX6_repair 19 = .ok (.iload_n 1, 1) := by decide +kernel
theorem dX6_repair_20 : decode cX6_repair 20 = .ok (.invokevirtual 77, 3) := by decide +kernel
theorem dX6_repair_23 : decode cX6_repair 23 = .ok (.invokevirtual 48, 3) := by decide +kernel
theorem dX6_repair_26 : decode cX6_repair 26 = .ok (.ireturn, 1) := by decide +kernel
theorem dX6_day_0 : decode cX6_day 0 = .ok (.aload_n 0, 1) := by decide +kernel
theorem dX6_day_1 : decode cX6_day 1 = .ok (.getfield 16, 3) := by decide +kernel
theorem dX6_day_4 : decode cX6_day 4 = .ok (.aload_n 0, 1) := by decide +kernel
theorem dX6_day_5 : decode cX6_day 5 = .ok (.getfield 10, 3) := by decide +kernel
theorem dX6_day_8 : decode cX6_day 8 = .ok (.invokevirtual 34, 3) := by decide +kernel
theorem dX6_day_11 : decode cX6_day 11 = .ok (.aload_n 0, 1) := by decide +kernel
theorem dX6_day_12 : decode cX6_day 12 = .ok (.aload_n 0, 1) := by decide +kernel
theorem dX6_day_13 : decode cX6_day 13 = .ok (.getfield 10, 3) := by decide +kernel
theorem dX6_day_16 : decode cX6_day 16 = .ok (.getfield 38, 3) := by decide +kernel
theorem dX6_day_19 : decode cX6_day 19 = .ok (.iload_n 1, 1) := by decide +kernel
theorem dX6_day_20 : decode cX6_day 20 = .ok (.iload_n 2, 1) := by decide +kernel
theorem dX6_day_21 : decode cX6_day 21 = .ok (.invokevirtual 80, 3) := by decide +kernel
theorem dX6_day_24 : decode cX6_day 24 = .ok (.invokevirtual 48, 3) := by decide +kernel
theorem dX6_day_27 : decode cX6_day 27 = .ok (.ireturn, 1) := by decide +kernel
theorem dX6_endYear_0 : decode cX6_endYear 0 = .ok (.aload_n 0, 1) := by decide +kernel
theorem dX6_endYear_1 : decode cX6_endYear 1 = .ok (.getfield 16, 3) := by decide +kernel
theorem dX6_endYear_4 : decode cX6_endYear 4 = .ok (.aload_n 0, 1) := by decide +kernel
theorem dX6_endYear_5 : decode cX6_endYear 5 = .ok (.getfield 10, 3) := by decide +kernel
theorem dX6_endYear_8 : decode cX6_endYear 8 = .ok (.invokevirtual 34, 3) := by decide +kernel
theorem dX6_endYear_11 : decode cX6_endYear 11 = .ok (.aload_n 0, 1) := by decide +kernel
theorem dX6_endYear_12 : decode cX6_endYear 12 = .ok (.aload_n 0, 1) := by decide +kernel
theorem dX6_endYear_13 : decode cX6_endYear 13 = .ok (.getfield 10, 3) := by decide +kernel
theorem dX6_endYear_16 : decode cX6_endYear 16 = .ok (.getfield 38, 3) := by decide +kernel
theorem dX6_endYear_19 : decode cX6_endYear 19 = .ok (.invokevirtual 83, 3) := by decide +kernel
theorem dX6_endYear_22 : decode cX6_endYear 22 = .ok (.invokevirtual 48, 3) := by decide +kernel
theorem dX6_endYear_25 : decode cX6_endYear 25 = .ok (.ireturn, 1) := by decide +kernel
theorem dX6_count_0 : decode cX6_count 0 = .ok (.iload_n 1, 1) := by decide +kernel
theorem dX6_count_1 : decode cX6_count 1 = .ok (.tableswitch 153 0 9 #[55, 66, 77, 88, 99, 110, 121, 132, 140, 145], 55) := by decide +kernel
theorem dX6_count_56 : decode cX6_count 56 = .ok (.aload_n 0, 1) := by decide +kernel
theorem dX6_count_57 : decode cX6_count 57 = .ok (.getfield 10, 3) := by decide +kernel
theorem dX6_count_60 : decode cX6_count 60 = .ok (.getfield 38, 3) := by decide +kernel
theorem dX6_count_63 : decode cX6_count 63 = .ok (.getfield 103, 3) := by decide +kernel
theorem dX6_count_66 : decode cX6_count 66 = .ok (.ireturn, 1) := by decide +kernel
theorem dX6_count_67 : decode cX6_count 67 = .ok (.aload_n 0, 1) := by decide +kernel
theorem dX6_count_68 : decode cX6_count 68 = .ok (.getfield 10, 3) := by decide +kernel
theorem dX6_count_71 : decode cX6_count 71 = .ok (.getfield 38, 3) := by decide +kernel
theorem dX6_count_74 : decode cX6_count 74 = .ok (.getfield 106, 3) := by decide +kernel
theorem dX6_count_77 : decode cX6_count 77 = .ok (.ireturn, 1) := by decide +kernel
theorem dX6_count_78 : decode cX6_count 78 = .ok (.aload_n 0, 1) := by decide +kernel
theorem dX6_count_79 : decode cX6_count 79 = .ok (.getfield 10, 3) := by decide +kernel
theorem dX6_count_82 : decode cX6_count 82 = .ok (.getfield 38, 3) := by decide +kernel
theorem dX6_count_85 : decode cX6_count 85 = .ok (.getfield 109, 3) := by decide +kernel
theorem dX6_count_88 : decode cX6_count 88 = .ok (.ireturn, 1) := by decide +kernel
theorem dX6_count_89 : decode cX6_count 89 = .ok (.aload_n 0, 1) := by decide +kernel
theorem dX6_count_90 : decode cX6_count 90 = .ok (.getfield 10, 3) := by decide +kernel
theorem dX6_count_93 : decode cX6_count 93 = .ok (.getfield 38, 3) := by decide +kernel
theorem dX6_count_96 : decode cX6_count 96 = .ok (.getfield 112, 3) := by decide +kernel
theorem dX6_count_99 : decode cX6_count 99 = .ok (.ireturn, 1) := by decide +kernel
theorem dX6_count_100 : decode cX6_count 100 = .ok (.aload_n 0, 1) := by decide +kernel
theorem dX6_count_101 : decode cX6_count 101 = .ok (.getfield 10, 3) := by decide +kernel
theorem dX6_count_104 : decode cX6_count 104 = .ok (.getfield 38, 3) := by decide +kernel
theorem dX6_count_107 : decode cX6_count 107 = .ok (.invokevirtual 115, 3) := by decide +kernel
theorem dX6_count_110 : decode cX6_count 110 = .ok (.ireturn, 1) := by decide +kernel
theorem dX6_count_111 : decode cX6_count 111 = .ok (.aload_n 0, 1) := by decide +kernel
theorem dX6_count_112 : decode cX6_count 112 = .ok (.getfield 10, 3) := by decide +kernel
theorem dX6_count_115 : decode cX6_count 115 = .ok (.getfield 38, 3) := by decide +kernel
theorem dX6_count_118 : decode cX6_count 118 = .ok (.getfield 118, 3) := by decide +kernel
theorem dX6_count_121 : decode cX6_count 121 = .ok (.ireturn, 1) := by decide +kernel
theorem dX6_count_122 : decode cX6_count 122 = .ok (.aload_n 0, 1) := by decide +kernel
theorem dX6_count_123 : decode cX6_count 123 = .ok (.getfield 10, 3) := by decide +kernel
theorem dX6_count_126 : decode cX6_count 126 = .ok (.getfield 38, 3) := by decide +kernel
theorem dX6_count_129 : decode cX6_count 129 = .ok (.getfield 121, 3) := by decide +kernel
theorem dX6_count_132 : decode cX6_count 132 = .ok (.ireturn, 1) := by decide +kernel
theorem dX6_count_133 : decode cX6_count 133 = .ok (.aload_n 0, 1) := by decide +kernel
theorem dX6_count_134 : decode cX6_count 134 = .ok (.getfield 10, 3) := by decide +kernel
theorem dX6_count_137 : decode cX6_count 137 = .ok (.invokevirtual 124, 3) := by decide +kernel
theorem dX6_count_140 : decode cX6_count 140 = .ok (.ireturn, 1) := by decide +kernel
theorem dX6_count_141 : decode cX6_count 141 = .ok (.aload_n 0, 1) := by decide +kernel
theorem dX6_count_142 : decode cX6_count 142 = .ok (.getfield 23, 3) := by decide +kernel
theorem dX6_count_145 : decode cX6_count 145 = .ok (.ireturn, 1) := by decide +kernel
theorem dX6_count_146 : decode cX6_count 146 = .ok (.aload_n 0, 1) := by decide +kernel
theorem dX6_count_147 : decode cX6_count 147 = .ok (.getfield 30, 3) := by decide +kernel
theorem dX6_count_150 : decode cX6_count 150 = .ok (.getfield 127, 3) := by decide +kernel
theorem dX6_count_153 : decode cX6_count 153 = .ok (.ireturn, 1) := by decide +kernel
theorem dX6_count_154 : decode cX6_count 154 = .ok (.iconst (-1), 1) := by decide +kernel
theorem dX6_count_155 : decode cX6_count 155 = .ok (.ireturn, 1) := by decide +kernel
theorem dX6_household_0 : decode cX6_household 0 = .ok (.aload_n 0, 1) := by decide +kernel
theorem dX6_household_1 : decode cX6_household 1 = .ok (.getfield 10, 3) := by decide +kernel
theorem dX6_household_4 : decode cX6_household 4 = .ok (.getfield 38, 3) := by decide +kernel
theorem dX6_household_7 : decode cX6_household 7 = .ok (.iload_n 1, 1) := by decide +kernel
theorem dX6_household_8 : decode cX6_household 8 = .ok (.iload_n 2, 1) := by decide +kernel
theorem dX6_household_9 : decode cX6_household 9 = .ok (.invokevirtual 130, 3) := by decide +kernel
theorem dX6_household_12 : decode cX6_household 12 = .ok (.ireturn, 1) := by decide +kernel
theorem dX6_bank_0 : decode cX6_bank 0 = .ok (.aload_n 0, 1) := by decide +kernel
theorem dX6_bank_1 : decode cX6_bank 1 = .ok (.getfield 10, 3) := by decide +kernel
theorem dX6_bank_4 : decode cX6_bank 4 = .ok (.getfield 38, 3) := by decide +kernel
theorem dX6_bank_7 : decode cX6_bank 7 = .ok (.iload_n 1, 1) := by decide +kernel
theorem dX6_bank_8 : decode cX6_bank 8 = .ok (.iload_n 2, 1) := by decide +kernel
theorem dX6_bank_9 : decode cX6_bank 9 = .ok (.invokevirtual 133, 3) := by decide +kernel
theorem dX6_bank_12 : decode cX6_bank 12 = .ok (.ireturn, 1) := by decide +kernel
theorem dX6_right_0 : decode cX6_right 0 = .ok (.aload_n 0, 1) := by decide +kernel
theorem dX6_right_1 : decode cX6_right 1 = .ok (.getfield 10, 3) := by decide +kernel
theorem dX6_right_4 : decode cX6_right 4 = .ok (.getfield 38, 3) := by decide +kernel
theorem dX6_right_7 : decode cX6_right 7 = .ok (.iload_n 1, 1) := by decide +kernel
theorem dX6_right_8 : decode cX6_right 8 = .ok (.iload_n 2, 1) := by decide +kernel
theorem dX6_right_9 : decode cX6_right 9 = .ok (.iload_n 3, 1) := by decide +kernel
theorem dX6_right_10 : decode cX6_right 10 = .ok (.invokevirtual 136, 3) := by decide +kernel
theorem dX6_right_13 : decode cX6_right 13 = .ok (.ireturn, 1) := by decide +kernel
theorem dX6_stack_0 : decode cX6_stack 0 = .ok (.aload_n 0, 1) := by decide +kernel
theorem dX6_stack_1 : decode cX6_stack 1 = .ok (.getfield 10, 3) := by decide +kernel
theorem dX6_stack_4 : decode cX6_stack 4 = .ok (.getfield 38, 3) := by decide +kernel
theorem dX6_stack_7 : decode cX6_stack 7 = .ok (.iload_n 1, 1) := by decide +kernel
theorem dX6_stack_8 : decode cX6_stack 8 = .ok (.iload_n 2, 1) := by decide +kernel
theorem dX6_stack_9 : decode cX6_stack 9 = .ok (.invokevirtual 139, 3) := by decide +kernel
theorem dX6_stack_12 : decode cX6_stack 12 = .ok (.ireturn, 1) := by decide +kernel
theorem dX6_recorded_0 : decode cX6_recorded 0 = .ok (.iload_n 1, 1) := by decide +kernel
theorem dX6_recorded_1 : decode cX6_recorded 1 = .ok (.ifCond .ge 5, 3) := by decide +kernel
theorem dX6_recorded_4 : decode cX6_recorded 4 = .ok (.iload_n 1, 1) := by decide +kernel
theorem dX6_recorded_5 : decode cX6_recorded 5 = .ok (.ireturn, 1) := by decide +kernel
theorem dX6_recorded_6 : decode cX6_recorded 6 = .ok (.aload_n 0, 1) := by decide +kernel
theorem dX6_recorded_7 : decode cX6_recorded 7 = .ok (.getfield 23, 3) := by decide +kernel
theorem dX6_recorded_10 : decode cX6_recorded 10 = .ok (.iconst 5, 1) := by decide +kernel
theorem dX6_recorded_11 : decode cX6_recorded 11 = .ok (.if_icmp .ne 7, 3) := by decide +kernel
theorem dX6_recorded_14 : decode cX6_recorded 14 = .ok (.aload_n 0, 1) := by decide +kernel
theorem dX6_recorded_15 : decode cX6_recorded 15 = .ok (.invokevirtual 157, 3) := by decide +kernel
theorem dX6_recorded_18 : decode cX6_recorded 18 = .ok (.aload_n 0, 1) := by decide +kernel
theorem dX6_recorded_19 : decode cX6_recorded 19 = .ok (.getfield 19, 3) := by decide +kernel
theorem dX6_recorded_22 : decode cX6_recorded 22 = .ok (.aload_n 0, 1) := by decide +kernel
theorem dX6_recorded_23 : decode cX6_recorded 23 = .ok (.getfield 23, 3) := by decide +kernel
theorem dX6_recorded_26 : decode cX6_recorded 26 = .ok (.aaload, 1) := by decide +kernel
theorem dX6_recorded_27 : decode cX6_recorded 27 = .ok (.astore_n 2, 1) := by decide +kernel
theorem dX6_recorded_28 : decode cX6_recorded 28 = .ok (.aload_n 0, 1) := by decide +kernel
theorem dX6_recorded_29 : decode cX6_recorded 29 = .ok (.getfield 19, 3) := by decide +kernel
theorem dX6_recorded_32 : decode cX6_recorded 32 = .ok (.aload_n 0, 1) := by decide +kernel
theorem dX6_recorded_33 : decode cX6_recorded 33 = .ok (.getfield 23, 3) := by decide +kernel
theorem dX6_recorded_36 : decode cX6_recorded 36 = .ok (.aload_n 0, 1) := by decide +kernel
theorem dX6_recorded_37 : decode cX6_recorded 37 = .ok (.getfield 16, 3) := by decide +kernel
theorem dX6_recorded_40 : decode cX6_recorded 40 = .ok (.aastore, 1) := by decide +kernel
theorem dX6_recorded_41 : decode cX6_recorded 41 = .ok (.aload_n 0, 1) := by decide +kernel
theorem dX6_recorded_42 : decode cX6_recorded 42 = .ok (.aload_n 2, 1) := by decide +kernel
theorem dX6_recorded_43 : decode cX6_recorded 43 = .ok (.putfield 16, 3) := by decide +kernel
theorem dX6_recorded_46 : decode cX6_recorded 46 = .ok (.aload_n 0, 1) := by decide +kernel
theorem dX6_recorded_47 : decode cX6_recorded 47 = .ok (.dup, 1) := by decide +kernel
theorem dX6_recorded_48 : decode cX6_recorded 48 = .ok (.getfield 23, 3) := by decide +kernel
theorem dX6_recorded_51 : decode cX6_recorded 51 = .ok (.iconst 1, 1) := by decide +kernel
theorem dX6_recorded_52 : decode cX6_recorded 52 = .ok (.iadd, 1) := by decide +kernel
theorem dX6_recorded_53 : decode cX6_recorded 53 = .ok (.putfield 23, 3) := by decide +kernel
theorem dX6_recorded_56 : decode cX6_recorded 56 = .ok (.iload_n 1, 1) := by decide +kernel
theorem dX6_recorded_57 : decode cX6_recorded 57 = .ok (.ireturn, 1) := by decide +kernel
theorem dX6_dropOldestState_0 : decode cX6_dropOldestState 0 = .ok (.aload_n 0, 1) := by decide +kernel
theorem dX6_dropOldestState_1 : decode cX6_dropOldestState 1 = .ok (.getfield 19, 3) := by decide +kernel
theorem dX6_dropOldestState_4 : decode cX6_dropOldestState 4 = .ok (.iconst 0, 1) := by decide +kernel
theorem dX6_dropOldestState_5 : decode cX6_dropOldestState 5 = .ok (.aaload, 1) := by decide +kernel
theorem dX6_dropOldestState_6 : decode cX6_dropOldestState 6 = .ok (.astore_n 1, 1) := by decide +kernel
theorem dX6_dropOldestState_7 : decode cX6_dropOldestState 7 = .ok (.iconst 1, 1) := by decide +kernel
theorem dX6_dropOldestState_8 : decode cX6_dropOldestState 8 = .ok (.istore_n 2, 1) := by decide +kernel
theorem dX6_dropOldestState_9 : decode cX6_dropOldestState 9 = .ok (.iload_n 2, 1) := by decide +kernel
theorem dX6_dropOldestState_10 : decode cX6_dropOldestState 10 = .ok (.iconst 5, 1) := by decide +kernel
theorem dX6_dropOldestState_11 : decode cX6_dropOldestState 11 = .ok (.if_icmp .ge 23, 3) := by decide +kernel
theorem dX6_dropOldestState_14 : decode cX6_dropOldestState 14 = .ok (.aload_n 0, 1) := by decide +kernel
theorem dX6_dropOldestState_15 : decode cX6_dropOldestState 15 = .ok (.getfield 19, 3) := by decide +kernel
theorem dX6_dropOldestState_18 : decode cX6_dropOldestState 18 = .ok (.iload_n 2, 1) := by decide +kernel
theorem dX6_dropOldestState_19 : decode cX6_dropOldestState 19 = .ok (.iconst 1, 1) := by decide +kernel
theorem dX6_dropOldestState_20 : decode cX6_dropOldestState 20 = .ok (.isub, 1) := by decide +kernel
theorem dX6_dropOldestState_21 : decode cX6_dropOldestState 21 = .ok (.aload_n 0, 1) := by decide +kernel
theorem dX6_dropOldestState_22 : decode cX6_dropOldestState 22 = .ok (.getfield 19, 3) := by decide +kernel
theorem dX6_dropOldestState_25 : decode cX6_dropOldestState 25 = .ok (.iload_n 2, 1) := by decide +kernel
theorem dX6_dropOldestState_26 : decode cX6_dropOldestState 26 = .ok (.aaload, 1) := by decide +kernel
theorem dX6_dropOldestState_27 : decode cX6_dropOldestState 27 = .ok (.aastore, 1) := by decide +kernel
theorem dX6_dropOldestState_28 : decode cX6_dropOldestState 28 = .ok (.iinc 2 1, 3) := by decide +kernel
theorem dX6_dropOldestState_31 : decode cX6_dropOldestState 31 = .ok (.goto (-22), 3) := by decide +kernel
theorem dX6_dropOldestState_34 : decode cX6_dropOldestState 34 = .ok (.aload_n 0, 1) := by decide +kernel
theorem dX6_dropOldestState_35 : decode cX6_dropOldestState 35 = .ok (.iconst 4, 1) := by decide +kernel
theorem dX6_dropOldestState_36 : decode cX6_dropOldestState 36 = .ok (.putfield 23, 3) := by decide +kernel
theorem dX6_dropOldestState_39 : decode cX6_dropOldestState 39 = .ok (.aload_n 0, 1) := by decide +kernel
theorem dX6_dropOldestState_40 : decode cX6_dropOldestState 40 = .ok (.getfield 19, 3) := by decide +kernel
theorem dX6_dropOldestState_43 : decode cX6_dropOldestState 43 = .ok (.aload_n 0, 1) := by decide +kernel
theorem dX6_dropOldestState_44 : decode cX6_dropOldestState 44 = .ok (.getfield 23, 3) := by decide +kernel
theorem dX6_dropOldestState_47 : decode cX6_dropOldestState 47 = .ok (.aload_n 1, 1) := by decide +kernel
theorem dX6_dropOldestState_48 : decode cX6_dropOldestState 48 = .ok (.aastore, 1) := by decide +kernel
theorem dX6_dropOldestState_49 : decode cX6_dropOldestState 49 = .ok (.return_, 1) := by decide +kernel
theorem dX6_isWithin_0 : decode cX6_isWithin 0 = .ok (.iload_n 0, 1) := by decide +kernel
theorem dX6_isWithin_1 : decode cX6_isWithin 1 = .ok (.iload_n 1, 1) := by decide +kernel
theorem dX6_isWithin_2 : decode cX6_isWithin 2 = .ok (.if_icmp .lt 12, 3) := by decide +kernel
theorem dX6_isWithin_5 : decode cX6_isWithin 5 = .ok (.iload_n 0, 1) := by decide +kernel
theorem dX6_isWithin_6 : decode cX6_isWithin 6 = .ok (.iload_n 2, 1) := by decide +kernel
theorem dX6_isWithin_7 : decode cX6_isWithin 7 = .ok (.if_icmp .gt 7, 3) := by decide +kernel
theorem dX6_isWithin_10 : decode cX6_isWithin 10 = .ok (.iconst 1, 1) := by decide +kernel
theorem dX6_isWithin_11 : decode cX6_isWithin 11 = .ok (.goto 4, 3) := by decide +kernel
theorem dX6_isWithin_14 : decode cX6_isWithin 14 = .ok (.iconst 0, 1) := by decide +kernel
theorem dX6_isWithin_15 : decode cX6_isWithin 15 = .ok (.ireturn, 1) := by decide +kernel
theorem dJ9_max_7cf53_0 : decode cJ9_max_7cf53 0 = .ok (.iload_n 0, 1) := by decide +kernel
theorem dJ9_max_7cf53_1 : decode cJ9_max_7cf53 1 = .ok (.iload_n 1, 1) := by decide +kernel
theorem dJ9_max_7cf53_2 : decode cJ9_max_7cf53 2 = .ok (.if_icmp .lt 7, 3) := by decide +kernel
theorem dJ9_max_7cf53_5 : decode cJ9_max_7cf53 5 = .ok (.iload_n 0, 1) := by decide +kernel
theorem dJ9_max_7cf53_6 : decode cJ9_max_7cf53 6 = .ok (.goto 4, 3) := by decide +kernel
theorem dJ9_max_7cf53_9 : decode cJ9_max_7cf53 9 = .ok (.iload_n 1, 1) := by decide +kernel
theorem dJ9_max_7cf53_10 : decode cJ9_max_7cf53 10 = .ok (.ireturn, 1) := by decide +kernel
theorem dJ9_min_7cf53_0 : decode cJ9_min_7cf53 0 = .ok (.iload_n 0, 1) := by decide +kernel
theorem dJ9_min_7cf53_1 : decode cJ9_min_7cf53 1 = .ok (.iload_n 1, 1) := by decide +kernel
theorem dJ9_min_7cf53_2 : decode cJ9_min_7cf53 2 = .ok (.if_icmp .gt 7, 3) := by decide +kernel
theorem dJ9_min_7cf53_5 : decode cJ9_min_7cf53 5 = .ok (.iload_n 0, 1) := by decide +kernel
theorem dJ9_min_7cf53_6 : decode cJ9_min_7cf53 6 = .ok (.goto 4, 3) := by decide +kernel
theorem dJ9_min_7cf53_9 : decode cJ9_min_7cf53 9 = .ok (.iload_n 1, 1) := by decide +kernel
theorem dJ9_min_7cf53_10 : decode cJ9_min_7cf53 10 = .ok (.ireturn, 1) := by decide +kernel
