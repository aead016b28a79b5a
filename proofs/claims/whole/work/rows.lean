section
-- ===== PART A: goes FIRST, ahead of the names: the tables' words, and 'selects' of the private methods out of them =====
/-- a private method of a class that the tables say can be made, by its rows of tables_1 -/
def lw_okq (q : MethodName × Nat) : Prop := (q.1.cls ≠ "java/lang/invoke/MethodHandle" ∧ q.1.cls ≠ "java/lang/invoke/VarHandle") ∧ Cond.instantiable q.1.cls q.2 ∈ tables_1 ∧ Cond.privateMethod q.1 ∈ tables_1 ∧ Cond.instanceMethod q.1 ∈ tables_1
theorem lw_p0 : lw_okq (⟨"PeatShares", "recorded", "(I)I"⟩, 5) := ⟨⟨by decide +kernel, by decide +kernel⟩, List.mem_of_getElem? (i := 15) (by decide +kernel), List.mem_of_getElem? (i := 244) (by decide +kernel), List.mem_of_getElem? (i := 245) (by decide +kernel)⟩
theorem lw_p1 : lw_okq (⟨"PeatShares", "dropOldestState", "()V"⟩, 5) := ⟨⟨by decide +kernel, by decide +kernel⟩, List.mem_of_getElem? (i := 15) (by decide +kernel), List.mem_of_getElem? (i := 248) (by decide +kernel), List.mem_of_getElem? (i := 249) (by decide +kernel)⟩
theorem lw_p2 : lw_okq (⟨"PeatSharesModel", "acts", "()V"⟩, 12) := ⟨⟨by decide +kernel, by decide +kernel⟩, List.mem_of_getElem? (i := 673) (by decide +kernel), List.mem_of_getElem? (i := 723) (by decide +kernel), List.mem_of_getElem? (i := 724) (by decide +kernel)⟩
theorem lw_p3 : lw_okq (⟨"PeatSharesModel", "isHouse", "(I)Z"⟩, 12) := ⟨⟨by decide +kernel, by decide +kernel⟩, List.mem_of_getElem? (i := 673) (by decide +kernel), List.mem_of_getElem? (i := 731) (by decide +kernel), List.mem_of_getElem? (i := 732) (by decide +kernel)⟩
theorem lw_p4 : lw_okq (⟨"PeatSharesModel", "inHouse", "(II)I"⟩, 12) := ⟨⟨by decide +kernel, by decide +kernel⟩, List.mem_of_getElem? (i := 673) (by decide +kernel), List.mem_of_getElem? (i := 735) (by decide +kernel), List.mem_of_getElem? (i := 736) (by decide +kernel)⟩
theorem lw_p5 : lw_okq (⟨"PeatSharesModel", "isBank", "(I)Z"⟩, 12) := ⟨⟨by decide +kernel, by decide +kernel⟩, List.mem_of_getElem? (i := 673) (by decide +kernel), List.mem_of_getElem? (i := 747) (by decide +kernel), List.mem_of_getElem? (i := 748) (by decide +kernel)⟩
theorem lw_p6 : lw_okq (⟨"PeatSharesModel", "inBank", "(II)I"⟩, 12) := ⟨⟨by decide +kernel, by decide +kernel⟩, List.mem_of_getElem? (i := 673) (by decide +kernel), List.mem_of_getElem? (i := 751) (by decide +kernel), List.mem_of_getElem? (i := 752) (by decide +kernel)⟩
theorem lw_p7 : lw_okq (⟨"PeatSharesModel", "mayCut", "(II)I"⟩, 12) := ⟨⟨by decide +kernel, by decide +kernel⟩, List.mem_of_getElem? (i := 673) (by decide +kernel), List.mem_of_getElem? (i := 766) (by decide +kernel), List.mem_of_getElem? (i := 767) (by decide +kernel)⟩
theorem lw_p8 : lw_okq (⟨"PeatSharesModel", "shareOf", "(II)I"⟩, 12) := ⟨⟨by decide +kernel, by decide +kernel⟩, List.mem_of_getElem? (i := 673) (by decide +kernel), List.mem_of_getElem? (i := 770) (by decide +kernel), List.mem_of_getElem? (i := 771) (by decide +kernel)⟩
theorem lw_p9 : lw_okq (⟨"PeatSharesModel", "spadesOf", "(I)I"⟩, 12) := ⟨⟨by decide +kernel, by decide +kernel⟩, List.mem_of_getElem? (i := 673) (by decide +kernel), List.mem_of_getElem? (i := 774) (by decide +kernel), List.mem_of_getElem? (i := 775) (by decide +kernel)⟩
theorem lw_p10 : lw_okq (⟨"PeatSharesModel", "hasRight", "(II)Z"⟩, 12) := ⟨⟨by decide +kernel, by decide +kernel⟩, List.mem_of_getElem? (i := 673) (by decide +kernel), List.mem_of_getElem? (i := 778) (by decide +kernel), List.mem_of_getElem? (i := 779) (by decide +kernel)⟩
theorem lw_p11 : lw_okq (⟨"PeatSharesModel", "isStack", "(I)Z"⟩, 12) := ⟨⟨by decide +kernel, by decide +kernel⟩, List.mem_of_getElem? (i := 673) (by decide +kernel), List.mem_of_getElem? (i := 787) (by decide +kernel), List.mem_of_getElem? (i := 788) (by decide +kernel)⟩
theorem lw_p12 : lw_okq (⟨"PeatSharesModel", "inStack", "(II)I"⟩, 12) := ⟨⟨by decide +kernel, by decide +kernel⟩, List.mem_of_getElem? (i := 673) (by decide +kernel), List.mem_of_getElem? (i := 791) (by decide +kernel), List.mem_of_getElem? (i := 792) (by decide +kernel)⟩
theorem lw_p13 : lw_okq (⟨"PeatSharesModel", "goes", "(I)V"⟩, 12) := ⟨⟨by decide +kernel, by decide +kernel⟩, List.mem_of_getElem? (i := 673) (by decide +kernel), List.mem_of_getElem? (i := 799) (by decide +kernel), List.mem_of_getElem? (i := 800) (by decide +kernel)⟩
theorem lw_p14 : lw_okq (⟨"PeatSharesModel", "load", "(II)I"⟩, 12) := ⟨⟨by decide +kernel, by decide +kernel⟩, List.mem_of_getElem? (i := 673) (by decide +kernel), List.mem_of_getElem? (i := 807) (by decide +kernel), List.mem_of_getElem? (i := 808) (by decide +kernel)⟩
theorem lw_p15 : lw_okq (⟨"PeatSharesModel", "weight", "(I)I"⟩, 12) := ⟨⟨by decide +kernel, by decide +kernel⟩, List.mem_of_getElem? (i := 673) (by decide +kernel), List.mem_of_getElem? (i := 811) (by decide +kernel), List.mem_of_getElem? (i := 812) (by decide +kernel)⟩
def lw_privs_1 : List (MethodName × Nat) := [(⟨"PeatShares", "recorded", "(I)I"⟩, 5), (⟨"PeatShares", "dropOldestState", "()V"⟩, 5), (⟨"PeatSharesModel", "acts", "()V"⟩, 12), (⟨"PeatSharesModel", "isHouse", "(I)Z"⟩, 12), (⟨"PeatSharesModel", "inHouse", "(II)I"⟩, 12), (⟨"PeatSharesModel", "isBank", "(I)Z"⟩, 12), (⟨"PeatSharesModel", "inBank", "(II)I"⟩, 12), (⟨"PeatSharesModel", "mayCut", "(II)I"⟩, 12), (⟨"PeatSharesModel", "shareOf", "(II)I"⟩, 12), (⟨"PeatSharesModel", "spadesOf", "(I)I"⟩, 12), (⟨"PeatSharesModel", "hasRight", "(II)Z"⟩, 12), (⟨"PeatSharesModel", "isStack", "(I)Z"⟩, 12), (⟨"PeatSharesModel", "inStack", "(II)I"⟩, 12), (⟨"PeatSharesModel", "goes", "(I)V"⟩, 12), (⟨"PeatSharesModel", "load", "(II)I"⟩, 12), (⟨"PeatSharesModel", "weight", "(I)I"⟩, 12)]
theorem lw_r1 : ∀ q ∈ lw_privs_1, lw_okq q := List.forall_mem_cons.mpr ⟨lw_p0, List.forall_mem_cons.mpr ⟨lw_p1, List.forall_mem_cons.mpr ⟨lw_p2, List.forall_mem_cons.mpr ⟨lw_p3, List.forall_mem_cons.mpr ⟨lw_p4, List.forall_mem_cons.mpr ⟨lw_p5, List.forall_mem_cons.mpr ⟨lw_p6, List.forall_mem_cons.mpr ⟨lw_p7, List.forall_mem_cons.mpr ⟨lw_p8, List.forall_mem_cons.mpr ⟨lw_p9, List.forall_mem_cons.mpr ⟨lw_p10, List.forall_mem_cons.mpr ⟨lw_p11, List.forall_mem_cons.mpr ⟨lw_p12, List.forall_mem_cons.mpr ⟨lw_p13, List.forall_mem_cons.mpr ⟨lw_p14, List.forall_mem_cons.mpr ⟨lw_p15, fun _ h => absurd h List.not_mem_nil⟩⟩⟩⟩⟩⟩⟩⟩⟩⟩⟩⟩⟩⟩⟩⟩
theorem lw_p16 : lw_okq (⟨"PeatSharesModel", "bears", "(I)I"⟩, 12) := ⟨⟨by decide +kernel, by decide +kernel⟩, List.mem_of_getElem? (i := 673) (by decide +kernel), List.mem_of_getElem? (i := 815) (by decide +kernel), List.mem_of_getElem? (i := 816) (by decide +kernel)⟩
theorem lw_p17 : lw_okq (⟨"PeatSharesModel", "isDry", "(I)Z"⟩, 12) := ⟨⟨by decide +kernel, by decide +kernel⟩, List.mem_of_getElem? (i := 673) (by decide +kernel), List.mem_of_getElem? (i := 819) (by decide +kernel), List.mem_of_getElem? (i := 820) (by decide +kernel)⟩
theorem lw_p18 : lw_okq (⟨"PeatSharesModel", "dryStacks", "()I"⟩, 12) := ⟨⟨by decide +kernel, by decide +kernel⟩, List.mem_of_getElem? (i := 673) (by decide +kernel), List.mem_of_getElem? (i := 834) (by decide +kernel), List.mem_of_getElem? (i := 835) (by decide +kernel)⟩
theorem lw_p19 : lw_okq (⟨"PeatSharesModel", "readsAll", "()I"⟩, 12) := ⟨⟨by decide +kernel, by decide +kernel⟩, List.mem_of_getElem? (i := 673) (by decide +kernel), List.mem_of_getElem? (i := 866) (by decide +kernel), List.mem_of_getElem? (i := 867) (by decide +kernel)⟩
theorem lw_p20 : lw_okq (⟨"PeatSharesModel", "token", "()V"⟩, 12) := ⟨⟨by decide +kernel, by decide +kernel⟩, List.mem_of_getElem? (i := 673) (by decide +kernel), List.mem_of_getElem? (i := 870) (by decide +kernel), List.mem_of_getElem? (i := 871) (by decide +kernel)⟩
theorem lw_p21 : lw_okq (⟨"PeatSharesModel", "readsOne", "()I"⟩, 12) := ⟨⟨by decide +kernel, by decide +kernel⟩, List.mem_of_getElem? (i := 673) (by decide +kernel), List.mem_of_getElem? (i := 877) (by decide +kernel), List.mem_of_getElem? (i := 878) (by decide +kernel)⟩
theorem lw_p22 : lw_okq (⟨"PeatSharesModel", "command", "()I"⟩, 12) := ⟨⟨by decide +kernel, by decide +kernel⟩, List.mem_of_getElem? (i := 673) (by decide +kernel), List.mem_of_getElem? (i := 881) (by decide +kernel), List.mem_of_getElem? (i := 882) (by decide +kernel)⟩
theorem lw_p23 : lw_okq (⟨"PeatSharesModel", "isWord", "(IIIII)Z"⟩, 12) := ⟨⟨by decide +kernel, by decide +kernel⟩, List.mem_of_getElem? (i := 673) (by decide +kernel), List.mem_of_getElem? (i := 885) (by decide +kernel), List.mem_of_getElem? (i := 886) (by decide +kernel)⟩
theorem lw_p24 : lw_okq (⟨"PeatSharesModel", "isNumber", "(I)Z"⟩, 12) := ⟨⟨by decide +kernel, by decide +kernel⟩, List.mem_of_getElem? (i := 673) (by decide +kernel), List.mem_of_getElem? (i := 889) (by decide +kernel), List.mem_of_getElem? (i := 890) (by decide +kernel)⟩
theorem lw_p25 : lw_okq (⟨"PeatSharesModel", "does", "(I)I"⟩, 12) := ⟨⟨by decide +kernel, by decide +kernel⟩, List.mem_of_getElem? (i := 673) (by decide +kernel), List.mem_of_getElem? (i := 893) (by decide +kernel), List.mem_of_getElem? (i := 894) (by decide +kernel)⟩
theorem lw_p26 : lw_okq (⟨"PeatSharesModel", "banksOf", "(I)I"⟩, 12) := ⟨⟨by decide +kernel, by decide +kernel⟩, List.mem_of_getElem? (i := 673) (by decide +kernel), List.mem_of_getElem? (i := 912) (by decide +kernel), List.mem_of_getElem? (i := 913) (by decide +kernel)⟩
theorem lw_p27 : lw_okq (⟨"PeatSharesModel", "stacksOf", "(IZ)I"⟩, 12) := ⟨⟨by decide +kernel, by decide +kernel⟩, List.mem_of_getElem? (i := 673) (by decide +kernel), List.mem_of_getElem? (i := 916) (by decide +kernel), List.mem_of_getElem? (i := 917) (by decide +kernel)⟩
theorem lw_p28 : lw_okq (⟨"PeatSharesModel", "turfsAt", "(I)I"⟩, 12) := ⟨⟨by decide +kernel, by decide +kernel⟩, List.mem_of_getElem? (i := 673) (by decide +kernel), List.mem_of_getElem? (i := 924) (by decide +kernel), List.mem_of_getElem? (i := 925) (by decide +kernel)⟩
theorem lw_p29 : lw_okq (⟨"PeatSharesModel", "most", "(III)I"⟩, 12) := ⟨⟨by decide +kernel, by decide +kernel⟩, List.mem_of_getElem? (i := 673) (by decide +kernel), List.mem_of_getElem? (i := 944) (by decide +kernel), List.mem_of_getElem? (i := 945) (by decide +kernel)⟩
def lw_privs_2 : List (MethodName × Nat) := [(⟨"PeatSharesModel", "bears", "(I)I"⟩, 12), (⟨"PeatSharesModel", "isDry", "(I)Z"⟩, 12), (⟨"PeatSharesModel", "dryStacks", "()I"⟩, 12), (⟨"PeatSharesModel", "readsAll", "()I"⟩, 12), (⟨"PeatSharesModel", "token", "()V"⟩, 12), (⟨"PeatSharesModel", "readsOne", "()I"⟩, 12), (⟨"PeatSharesModel", "command", "()I"⟩, 12), (⟨"PeatSharesModel", "isWord", "(IIIII)Z"⟩, 12), (⟨"PeatSharesModel", "isNumber", "(I)Z"⟩, 12), (⟨"PeatSharesModel", "does", "(I)I"⟩, 12), (⟨"PeatSharesModel", "banksOf", "(I)I"⟩, 12), (⟨"PeatSharesModel", "stacksOf", "(IZ)I"⟩, 12), (⟨"PeatSharesModel", "turfsAt", "(I)I"⟩, 12), (⟨"PeatSharesModel", "most", "(III)I"⟩, 12)]
theorem lw_r2 : ∀ q ∈ lw_privs_2, lw_okq q := List.forall_mem_cons.mpr ⟨lw_p16, List.forall_mem_cons.mpr ⟨lw_p17, List.forall_mem_cons.mpr ⟨lw_p18, List.forall_mem_cons.mpr ⟨lw_p19, List.forall_mem_cons.mpr ⟨lw_p20, List.forall_mem_cons.mpr ⟨lw_p21, List.forall_mem_cons.mpr ⟨lw_p22, List.forall_mem_cons.mpr ⟨lw_p23, List.forall_mem_cons.mpr ⟨lw_p24, List.forall_mem_cons.mpr ⟨lw_p25, List.forall_mem_cons.mpr ⟨lw_p26, List.forall_mem_cons.mpr ⟨lw_p27, List.forall_mem_cons.mpr ⟨lw_p28, List.forall_mem_cons.mpr ⟨lw_p29, fun _ h => absurd h List.not_mem_nil⟩⟩⟩⟩⟩⟩⟩⟩⟩⟩⟩⟩⟩⟩
def lw_privs : List (MethodName × Nat) := lw_privs_1 ++ (lw_privs_2)
def lw_tbl : List Cond := k2_sels lw_privs ++ tables_1
theorem lw_privs_ok : ∀ q ∈ lw_privs, lw_okq q := by
  show ∀ q ∈ lw_privs_1 ++ (lw_privs_2), lw_okq q
  exact List.forall_mem_append.mpr ⟨lw_r1, lw_r2⟩
/-- the streams that the claim lets the run draw from -/
abbrev lw_cs : List Choice := [Jvm.Choice.named "NaN.bits"]
theorem lw_bits : nanBits ∈ lw_cs := by first | decide | exact List.mem_cons_self | simp [lw_cs, nanBits]
def RX0 : String := "PeatShares$Bank"
def TX0 : u_T := fun k => match k with
  | 0 => ("PeatShares$Bank", "allowance", "I", false)
  | 1 => ("PeatShares$Bank", "strength", "I", false)
  | 2 => ("PeatShares$Bank", "wear", "I", false)
  | 3 => ("PeatShares$Bank", "turfsCut", "I", false)
  | 4 => ("PeatShares$Bank", "turfsCarted", "I", false)
  | 5 => ("PeatShares$Bank", "turfsLeft", "I", false)
  | 6 => ("PeatShares$Bank", "granted", "[Z", true)
  | _ => ("PeatShares$Bank", "cutThisYear", "[I", true)
def tyX0 : Nat → FieldType := fun k => match k with
  | 0 => .int
  | 1 => .int
  | 2 => .int
  | 3 => .int
  | 4 => .int
  | 5 => .int
  | 6 => .array .boolean
  | _ => .array .int
abbrev wsX00 : List Cond := u_ws RX0 TX0 8
theorem nmX0 : ∀ a, a < 8 → ∀ b, b < 8 → a ≠ b → (TX0 a).2.1 ≠ (TX0 b).2.1 := by decide +kernel
theorem tyX0_ok : ∀ k, k < 8 → parseFieldDescriptor (TX0 k).2.2.1 = some (tyX0 k) := by decide +kernel
abbrev cX0_init : ByteArray := prog_2_method_1_code
def yX0_init : MethodName := ⟨RX0, "<init>", "()V"⟩
abbrev cX0_copyFrom : ByteArray := prog_2_method_2_code
def yX0_copyFrom : MethodName := ⟨RX0, "copyFrom", "(LPeatShares$Bank;)V"⟩
abbrev cX0_bearing : ByteArray := prog_2_method_3_code
def yX0_bearing : MethodName := ⟨RX0, "bearing", "(II)I"⟩
abbrev cX0_holders : ByteArray := prog_2_method_4_code
def yX0_holders : MethodName := ⟨RX0, "holders", "()I"⟩
abbrev cX0_holdersAsBits : ByteArray := prog_2_method_5_code
def yX0_holdersAsBits : MethodName := ⟨RX0, "holdersAsBits", "()I"⟩
abbrev cX0_forgetYear : ByteArray := prog_2_method_6_code
def yX0_forgetYear : MethodName := ⟨RX0, "forgetYear", "()V"⟩
abbrev cX0_wearBy : ByteArray := prog_2_method_7_code
def yX0_wearBy : MethodName := ⟨RX0, "wearBy", "(I)I"⟩
def RX1 : String := "PeatShares$Household"
def TX1 : u_T := fun k => match k with
  | 0 => ("PeatShares$Household", "spades", "I", false)
  | 1 => ("PeatShares$Household", "dryTurfs", "I", false)
  | _ => ("PeatShares$Household", "dampTurfs", "I", false)
def tyX1 : Nat → FieldType := fun k => match k with
  | 0 => .int
  | 1 => .int
  | _ => .int
abbrev wsX10 : List Cond := u_ws RX1 TX1 3
theorem nmX1 : ∀ a, a < 3 → ∀ b, b < 3 → a ≠ b → (TX1 a).2.1 ≠ (TX1 b).2.1 := by decide +kernel
theorem tyX1_ok : ∀ k, k < 3 → parseFieldDescriptor (TX1 k).2.2.1 = some (tyX1 k) := by decide +kernel
abbrev cX1_init : ByteArray := prog_3_method_1_code
def yX1_init : MethodName := ⟨RX1, "<init>", "()V"⟩
abbrev cX1_copyFrom : ByteArray := prog_3_method_2_code
def yX1_copyFrom : MethodName := ⟨RX1, "copyFrom", "(LPeatShares$Household;)V"⟩
def RX2 : String := "PeatShares$Parish"
def TX2 : u_T := fun k => match k with
  | 0 => ("PeatShares$Parish", "year", "I", false)
  | 1 => ("PeatShares$Parish", "days", "I", false)
  | 2 => ("PeatShares$Parish", "rain", "I", false)
  | 3 => ("PeatShares$Parish", "households", "I", false)
  | 4 => ("PeatShares$Parish", "banks", "I", false)
  | 5 => ("PeatShares$Parish", "stacks", "I", false)
  | 6 => ("PeatShares$Parish", "householdRows", "[LPeatShares$Household;", true)
  | 7 => ("PeatShares$Parish", "bankRows", "[LPeatShares$Bank;", true)
  | _ => ("PeatShares$Parish", "stackRows", "[LPeatShares$TurfStack;", true)
def tyX2 : Nat → FieldType := fun k => match k with
  | 0 => .int
  | 1 => .int
  | 2 => .int
  | 3 => .int
  | 4 => .int
  | 5 => .int
  | 6 => .array (.object "PeatShares$Household")
  | 7 => .array (.object "PeatShares$Bank")
  | _ => .array (.object "PeatShares$TurfStack")
abbrev wsX20 : List Cond := u_ws RX2 TX2 9
theorem nmX2 : ∀ a, a < 9 → ∀ b, b < 9 → a ≠ b → (TX2 a).2.1 ≠ (TX2 b).2.1 := by decide +kernel
theorem tyX2_ok : ∀ k, k < 9 → parseFieldDescriptor (TX2 k).2.2.1 = some (tyX2 k) := by decide +kernel
abbrev cX2_init : ByteArray := prog_4_method_1_code
def yX2_init : MethodName := ⟨RX2, "<init>", "()V"⟩
abbrev cX2_copyFrom : ByteArray := prog_4_method_2_code
def yX2_copyFrom : MethodName := ⟨RX2, "copyFrom", "(LPeatShares$Parish;)V"⟩
abbrev cX2_hasHousehold : ByteArray := prog_4_method_3_code
def yX2_hasHousehold : MethodName := ⟨RX2, "hasHousehold", "(I)Z"⟩
abbrev cX2_hasBank : ByteArray := prog_4_method_4_code
def yX2_hasBank : MethodName := ⟨RX2, "hasBank", "(I)Z"⟩
abbrev cX2_hasStack : ByteArray := prog_4_method_5_code
def yX2_hasStack : MethodName := ⟨RX2, "hasStack", "(I)Z"⟩
abbrev cX2_addHousehold : ByteArray := prog_4_method_6_code
def yX2_addHousehold : MethodName := ⟨RX2, "addHousehold", "(I)I"⟩
abbrev cX2_changeSpades : ByteArray := prog_4_method_7_code
def yX2_changeSpades : MethodName := ⟨RX2, "changeSpades", "(II)I"⟩
abbrev cX2_openBank : ByteArray := prog_4_method_8_code
def yX2_openBank : MethodName := ⟨RX2, "openBank", "(II)I"⟩
abbrev cX2_changeAllowance : ByteArray := prog_4_method_9_code
def yX2_changeAllowance : MethodName := ⟨RX2, "changeAllowance", "(II)I"⟩
abbrev cX2_changeRight : ByteArray := prog_4_method_10_code
def yX2_changeRight : MethodName := ⟨RX2, "changeRight", "(III)I"⟩
abbrev cX2_spadesAt : ByteArray := prog_4_method_11_code
def yX2_spadesAt : MethodName := ⟨RX2, "spadesAt", "(LPeatShares$Bank;)I"⟩
abbrev cX2_shareOf : ByteArray := prog_4_method_12_code
def yX2_shareOf : MethodName := ⟨RX2, "shareOf", "(ILPeatShares$Bank;)I"⟩
abbrev cX2_stillToCut : ByteArray := prog_4_method_13_code
def yX2_stillToCut : MethodName := ⟨RX2, "stillToCut", "(ILPeatShares$Bank;)I"⟩
abbrev cX2_rightPart : ByteArray := prog_4_method_14_code
def yX2_rightPart : MethodName := ⟨RX2, "rightPart", "(III)I"⟩
abbrev cX2_mostToCut : ByteArray := prog_4_method_15_code
def yX2_mostToCut : MethodName := ⟨RX2, "mostToCut", "(I)I"⟩
abbrev cX2_cutTurfs : ByteArray := prog_4_method_16_code
def yX2_cutTurfs : MethodName := ⟨RX2, "cutTurfs", "(III)I"⟩
abbrev cX2_turnStack : ByteArray := prog_4_method_17_code
def yX2_turnStack : MethodName := ⟨RX2, "turnStack", "(I)I"⟩
abbrev cX2_joinStacks : ByteArray := prog_4_method_18_code
def yX2_joinStacks : MethodName := ⟨RX2, "joinStacks", "(II)I"⟩
abbrev cX2_removeStack : ByteArray := prog_4_method_19_code
def yX2_removeStack : MethodName := ⟨RX2, "removeStack", "(I)V"⟩
abbrev cX2_dryStacks : ByteArray := prog_4_method_20_code
def yX2_dryStacks : MethodName := ⟨RX2, "dryStacks", "()I"⟩
abbrev cX2_stackProperty : ByteArray := prog_4_method_21_code
def yX2_stackProperty : MethodName := ⟨RX2, "stackProperty", "(II)I"⟩
abbrev cX2_passDay : ByteArray := prog_4_method_22_code
def yX2_passDay : MethodName := ⟨RX2, "passDay", "(II)I"⟩
abbrev cX2_daysUntilDry : ByteArray := prog_4_method_23_code
def yX2_daysUntilDry : MethodName := ⟨RX2, "daysUntilDry", "(III)I"⟩
abbrev cX2_closeYear : ByteArray := prog_4_method_24_code
def yX2_closeYear : MethodName := ⟨RX2, "closeYear", "()I"⟩
abbrev cX2_repairRoad : ByteArray := prog_4_method_25_code
def yX2_repairRoad : MethodName := ⟨RX2, "repairRoad", "(I)I"⟩
abbrev cX2_bearingToday : ByteArray := prog_4_method_26_code
def yX2_bearingToday : MethodName := ⟨RX2, "bearingToday", "(LPeatShares$Bank;)I"⟩
abbrev cX2_cartTurfs : ByteArray := prog_4_method_27_code
def yX2_cartTurfs : MethodName := ⟨RX2, "cartTurfs", "(II)I"⟩
abbrev cX2_greatestCartOf : ByteArray := prog_4_method_28_code
def yX2_greatestCartOf : MethodName := ⟨RX2, "greatestCartOf", "(I)I"⟩
abbrev cX2_cartsNeeded : ByteArray := prog_4_method_29_code
def yX2_cartsNeeded : MethodName := ⟨RX2, "cartsNeeded", "(I)I"⟩
abbrev cX2_householdProperty : ByteArray := prog_4_method_30_code
def yX2_householdProperty : MethodName := ⟨RX2, "householdProperty", "(II)I"⟩
abbrev cX2_rightsOf : ByteArray := prog_4_method_31_code
def yX2_rightsOf : MethodName := ⟨RX2, "rightsOf", "(I)I"⟩
abbrev cX2_stacksOf : ByteArray := prog_4_method_32_code
def yX2_stacksOf : MethodName := ⟨RX2, "stacksOf", "(I)I"⟩
abbrev cX2_turfsInStacksOf : ByteArray := prog_4_method_33_code
def yX2_turfsInStacksOf : MethodName := ⟨RX2, "turfsInStacksOf", "(I)I"⟩
abbrev cX2_bankProperty : ByteArray := prog_4_method_34_code
def yX2_bankProperty : MethodName := ⟨RX2, "bankProperty", "(II)I"⟩
abbrev cX2_turfsInStacksAt : ByteArray := prog_4_method_35_code
def yX2_turfsInStacksAt : MethodName := ⟨RX2, "turfsInStacksAt", "(I)I"⟩
abbrev cX2_worthOfShed : ByteArray := prog_4_method_36_code
def yX2_worthOfShed : MethodName := ⟨RX2, "worthOfShed", "(II)I"⟩
def RX3 : String := "PeatShares$Program"
def TX3 : u_T := fun k => match k with
  | 0 => ("PeatShares$Program", "text", "[C", true)
  | 1 => ("PeatShares$Program", "length", "I", false)
  | 2 => ("PeatShares$Program", "start", "I", false)
  | 3 => ("PeatShares$Program", "end", "I", false)
  | _ => ("PeatShares$Program", "numbers", "[I", true)
def tyX3 : Nat → FieldType := fun k => match k with
  | 0 => .array .char
  | 1 => .int
  | 2 => .int
  | 3 => .int
  | _ => .array .int
abbrev wsX30 : List Cond := u_ws RX3 TX3 5
theorem nmX3 : ∀ a, a < 5 → ∀ b, b < 5 → a ≠ b → (TX3 a).2.1 ≠ (TX3 b).2.1 := by decide +kernel
theorem tyX3_ok : ∀ k, k < 5 → parseFieldDescriptor (TX3 k).2.2.1 = some (tyX3 k) := by decide +kernel
abbrev cX3_init : ByteArray := prog_5_method_1_code
def yX3_init : MethodName := ⟨RX3, "<init>", "()V"⟩
abbrev cX3_addCharacter : ByteArray := prog_5_method_2_code
def yX3_addCharacter : MethodName := ⟨RX3, "addCharacter", "(I)I"⟩
abbrev cX3_clearCharacters : ByteArray := prog_5_method_3_code
def yX3_clearCharacters : MethodName := ⟨RX3, "clearCharacters", "()I"⟩
abbrev cX3_runOn : ByteArray := prog_5_method_4_code
def yX3_runOn : MethodName := ⟨RX3, "runOn", "(LPeatShares$Parish;)I"⟩
abbrev cX3_runCommand : ByteArray := prog_5_method_5_code
def yX3_runCommand : MethodName := ⟨RX3, "runCommand", "(LPeatShares$Parish;)I"⟩
abbrev cX3_readToken : ByteArray := prog_5_method_6_code
def yX3_readToken : MethodName := ⟨RX3, "readToken", "()V"⟩
abbrev cX3_kindOf : ByteArray := prog_5_method_7_code
def yX3_kindOf : MethodName := ⟨RX3, "kindOf", "(C)I"⟩
abbrev cX3_isToken : ByteArray := prog_5_method_8_code
def yX3_isToken : MethodName := ⟨RX3, "isToken", "(Ljava/lang/String;)Z"⟩
abbrev cX3_isNumber : ByteArray := prog_5_method_9_code
def yX3_isNumber : MethodName := ⟨RX3, "isNumber", "()Z"⟩
abbrev cX3_valueOfToken : ByteArray := prog_5_method_10_code
def yX3_valueOfToken : MethodName := ⟨RX3, "valueOfToken", "()I"⟩
abbrev cX3_commandOfToken : ByteArray := prog_5_method_11_code
def yX3_commandOfToken : MethodName := ⟨RX3, "commandOfToken", "()I"⟩
abbrev cX3_numbersOf : ByteArray := prog_5_method_12_code
def yX3_numbersOf : MethodName := ⟨RX3, "numbersOf", "(I)I"⟩
abbrev cX3_perform : ByteArray := prog_5_method_13_code
def yX3_perform : MethodName := ⟨RX3, "perform", "(ILPeatShares$Parish;)I"⟩
def RX4 : String := "PeatShares$State"
def TX4 : u_T := fun k => match k with
  | 0 => ("PeatShares$State", "parish", "LPeatShares$Parish;", true)
  | 1 => ("PeatShares$State", "slots", "[LPeatShares$Parish;", true)
  | _ => ("PeatShares$State", "taken", "[Z", true)
def tyX4 : Nat → FieldType := fun k => match k with
  | 0 => .object "PeatShares$Parish"
  | 1 => .array (.object "PeatShares$Parish")
  | _ => .array .boolean
abbrev wsX40 : List Cond := u_ws RX4 TX4 3
theorem nmX4 : ∀ a, a < 3 → ∀ b, b < 3 → a ≠ b → (TX4 a).2.1 ≠ (TX4 b).2.1 := by decide +kernel
theorem tyX4_ok : ∀ k, k < 3 → parseFieldDescriptor (TX4 k).2.2.1 = some (tyX4 k) := by decide +kernel
abbrev cX4_init : ByteArray := prog_6_method_1_code
def yX4_init : MethodName := ⟨RX4, "<init>", "()V"⟩
abbrev cX4_copyFrom : ByteArray := prog_6_method_2_code
def yX4_copyFrom : MethodName := ⟨RX4, "copyFrom", "(LPeatShares$State;)V"⟩
abbrev cX4_snapshots : ByteArray := prog_6_method_3_code
def yX4_snapshots : MethodName := ⟨RX4, "snapshots", "()I"⟩
abbrev cX4_takeSnapshot : ByteArray := prog_6_method_4_code
def yX4_takeSnapshot : MethodName := ⟨RX4, "takeSnapshot", "(I)I"⟩
abbrev cX4_restoreSnapshot : ByteArray := prog_6_method_5_code
def yX4_restoreSnapshot : MethodName := ⟨RX4, "restoreSnapshot", "(I)I"⟩
def RX5 : String := "PeatShares$TurfStack"
def TX5 : u_T := fun k => match k with
  | 0 => ("PeatShares$TurfStack", "household", "I", false)
  | 1 => ("PeatShares$TurfStack", "bank", "I", false)
  | 2 => ("PeatShares$TurfStack", "turfs", "I", false)
  | 3 => ("PeatShares$TurfStack", "wetness", "I", false)
  | _ => ("PeatShares$TurfStack", "turns", "I", false)
def tyX5 : Nat → FieldType := fun k => match k with
  | 0 => .int
  | 1 => .int
  | 2 => .int
  | 3 => .int
  | _ => .int
abbrev wsX50 : List Cond := u_ws RX5 TX5 5
theorem nmX5 : ∀ a, a < 5 → ∀ b, b < 5 → a ≠ b → (TX5 a).2.1 ≠ (TX5 b).2.1 := by decide +kernel
theorem tyX5_ok : ∀ k, k < 5 → parseFieldDescriptor (TX5 k).2.2.1 = some (tyX5 k) := by decide +kernel
abbrev cX5_init : ByteArray := prog_7_method_1_code
def yX5_init : MethodName := ⟨RX5, "<init>", "()V"⟩
abbrev cX5_copyFrom : ByteArray := prog_7_method_2_code
def yX5_copyFrom : MethodName := ⟨RX5, "copyFrom", "(LPeatShares$TurfStack;)V"⟩
abbrev cX5_isDry : ByteArray := prog_7_method_3_code
def yX5_isDry : MethodName := ⟨RX5, "isDry", "()Z"⟩
abbrev cX5_turfWeight : ByteArray := prog_7_method_4_code
def yX5_turfWeight : MethodName := ⟨RX5, "turfWeight", "()I"⟩
abbrev cX5_loadOf : ByteArray := prog_7_method_5_code
def yX5_loadOf : MethodName := ⟨RX5, "loadOf", "(I)I"⟩
abbrev cX5_greatestCart : ByteArray := prog_7_method_6_code
def yX5_greatestCart : MethodName := ⟨RX5, "greatestCart", "(II)I"⟩
abbrev cX5_wetnessAfterDay : ByteArray := prog_7_method_7_code
def yX5_wetnessAfterDay : MethodName := ⟨RX5, "wetnessAfterDay", "(III)I"⟩
abbrev cX5_takeAllOf : ByteArray := prog_7_method_8_code
def yX5_takeAllOf : MethodName := ⟨RX5, "takeAllOf", "(LPeatShares$TurfStack;)V"⟩
def RX6 : String := "PeatShares"
def TX6 : u_T := fun k => match k with
  | 0 => ("PeatShares", "now", "LPeatShares$State;", false)
  | 1 => ("PeatShares", "before", "LPeatShares$State;", false)
  | 2 => ("PeatShares", "history", "[LPeatShares$State;", true)
  | 3 => ("PeatShares", "states", "I", false)
  | _ => ("PeatShares", "program", "LPeatShares$Program;", true)
def tyX6 : Nat → FieldType := fun k => match k with
  | 0 => .object "PeatShares$State"
  | 1 => .object "PeatShares$State"
  | 2 => .array (.object "PeatShares$State")
  | 3 => .int
  | _ => .object "PeatShares$Program"
abbrev wsX60 : List Cond := u_ws RX6 TX6 5
theorem nmX6 : ∀ a, a < 5 → ∀ b, b < 5 → a ≠ b → (TX6 a).2.1 ≠ (TX6 b).2.1 := by decide +kernel
theorem tyX6_ok : ∀ k, k < 5 → parseFieldDescriptor (TX6 k).2.2.1 = some (tyX6 k) := by decide +kernel
abbrev cX6_init : ByteArray := prog_1_method_1_code
def yX6_init : MethodName := ⟨RX6, "<init>", "()V"⟩
abbrev cX6_come : ByteArray := prog_1_method_2_code
def yX6_come : MethodName := ⟨RX6, "come", "(I)I"⟩
abbrev cX6_setSpades : ByteArray := prog_1_method_3_code
def yX6_setSpades : MethodName := ⟨RX6, "setSpades", "(II)I"⟩
abbrev cX6_addBank : ByteArray := prog_1_method_4_code
def yX6_addBank : MethodName := ⟨RX6, "addBank", "(II)I"⟩
abbrev cX6_setAllowance : ByteArray := prog_1_method_5_code
def yX6_setAllowance : MethodName := ⟨RX6, "setAllowance", "(II)I"⟩
abbrev cX6_grant : ByteArray := prog_1_method_6_code
def yX6_grant : MethodName := ⟨RX6, "grant", "(III)I"⟩
abbrev cX6_cut : ByteArray := prog_1_method_7_code
def yX6_cut : MethodName := ⟨RX6, "cut", "(III)I"⟩
abbrev cX6_turn : ByteArray := prog_1_method_8_code
def yX6_turn : MethodName := ⟨RX6, "turn", "(I)I"⟩
abbrev cX6_join : ByteArray := prog_1_method_9_code
def yX6_join : MethodName := ⟨RX6, "join", "(II)I"⟩
abbrev cX6_cart : ByteArray := prog_1_method_10_code
def yX6_cart : MethodName := ⟨RX6, "cart", "(II)I"⟩
abbrev cX6_repair : ByteArray := prog_1_method_11_code
def yX6_repair : MethodName := ⟨RX6, "repair", "(I)I"⟩
abbrev cX6_day : ByteArray := prog_1_method_12_code
def yX6_day : MethodName := ⟨RX6, "day", "(II)I"⟩
abbrev cX6_endYear : ByteArray := prog_1_method_13_code
def yX6_endYear : MethodName := ⟨RX6, "endYear", "()I"⟩
abbrev cX6_take : ByteArray := prog_1_method_14_code
def yX6_take : MethodName := ⟨RX6, "take", "(I)I"⟩
abbrev cX6_restore : ByteArray := prog_1_method_15_code
def yX6_restore : MethodName := ⟨RX6, "restore", "(I)I"⟩
abbrev cX6_undo : ByteArray := prog_1_method_16_code
def yX6_undo : MethodName := ⟨RX6, "undo", "()I"⟩
abbrev cX6_append : ByteArray := prog_1_method_17_code
def yX6_append : MethodName := ⟨RX6, "append", "(I)I"⟩
abbrev cX6_clearText : ByteArray := prog_1_method_18_code
def yX6_clearText : MethodName := ⟨RX6, "clearText", "()I"⟩
abbrev cX6_run : ByteArray := prog_1_method_19_code
def yX6_run : MethodName := ⟨RX6, "run", "()I"⟩
abbrev cX6_count : ByteArray := prog_1_method_20_code
def yX6_count : MethodName := ⟨RX6, "count", "(I)I"⟩
abbrev cX6_household : ByteArray := prog_1_method_21_code
def yX6_household : MethodName := ⟨RX6, "household", "(II)I"⟩
abbrev cX6_bank : ByteArray := prog_1_method_22_code
def yX6_bank : MethodName := ⟨RX6, "bank", "(II)I"⟩
abbrev cX6_right : ByteArray := prog_1_method_23_code
def yX6_right : MethodName := ⟨RX6, "right", "(III)I"⟩
abbrev cX6_stack : ByteArray := prog_1_method_24_code
def yX6_stack : MethodName := ⟨RX6, "stack", "(II)I"⟩
abbrev cX6_dryIn : ByteArray := prog_1_method_25_code
def yX6_dryIn : MethodName := ⟨RX6, "dryIn", "(III)I"⟩
abbrev cX6_cartLoad : ByteArray := prog_1_method_26_code
def yX6_cartLoad : MethodName := ⟨RX6, "cartLoad", "(I)I"⟩
abbrev cX6_carts : ByteArray := prog_1_method_27_code
def yX6_carts : MethodName := ⟨RX6, "carts", "(I)I"⟩
abbrev cX6_worth : ByteArray := prog_1_method_28_code
def yX6_worth : MethodName := ⟨RX6, "worth", "(II)I"⟩
abbrev cX6_nextToCut : ByteArray := prog_1_method_29_code
def yX6_nextToCut : MethodName := ⟨RX6, "nextToCut", "(I)I"⟩
abbrev cX6_recorded : ByteArray := prog_1_method_30_code
def yX6_recorded : MethodName := ⟨RX6, "recorded", "(I)I"⟩
abbrev cX6_dropOldestState : ByteArray := prog_1_method_31_code
def yX6_dropOldestState : MethodName := ⟨RX6, "dropOldestState", "()V"⟩
abbrev cX6_isWithin : ByteArray := prog_1_method_32_code
def yX6_isWithin : MethodName := ⟨RX6, "isWithin", "(III)Z"⟩
def RX7 : String := "PeatSharesModel"
def TX7 : u_T := fun k => match k with
  | 0 => ("PeatSharesModel", "s", "[I", true)
  | 1 => ("PeatSharesModel", "past", "[I", true)
  | 2 => ("PeatSharesModel", "held", "[I", true)
  | 3 => ("PeatSharesModel", "pasts", "I", false)
  | 4 => ("PeatSharesModel", "runs", "Z", false)
  | 5 => ("PeatSharesModel", "text", "[I", true)
  | 6 => ("PeatSharesModel", "typed", "I", false)
  | 7 => ("PeatSharesModel", "at", "I", false)
  | 8 => ("PeatSharesModel", "start", "I", false)
  | 9 => ("PeatSharesModel", "kind", "I", false)
  | 10 => ("PeatSharesModel", "read", "[I", true)
  | _ => ("PeatSharesModel", "commands", "I", false)
def tyX7 : Nat → FieldType := fun k => match k with
  | 0 => .array .int
  | 1 => .array .int
  | 2 => .array .int
  | 3 => .int
  | 4 => .boolean
  | 5 => .array .int
  | 6 => .int
  | 7 => .int
  | 8 => .int
  | 9 => .int
  | 10 => .array .int
  | _ => .int
abbrev wsX70 : List Cond := u_ws RX7 TX7 12
theorem nmX7 : ∀ a, a < 12 → ∀ b, b < 12 → a ≠ b → (TX7 a).2.1 ≠ (TX7 b).2.1 := by decide +kernel
theorem tyX7_ok : ∀ k, k < 12 → parseFieldDescriptor (TX7 k).2.2.1 = some (tyX7 k) := by decide +kernel
abbrev cX7_init : ByteArray := prog_9_method_1_code
def yX7_init : MethodName := ⟨RX7, "<init>", "()V"⟩
abbrev cX7_in : ByteArray := prog_9_method_3_code
def yX7_in : MethodName := ⟨RX7, "in", "(III)Z"⟩
abbrev cX7_acts : ByteArray := prog_9_method_4_code
def yX7_acts : MethodName := ⟨RX7, "acts", "()V"⟩
abbrev cX7_isHouse : ByteArray := prog_9_method_5_code
def yX7_isHouse : MethodName := ⟨RX7, "isHouse", "(I)Z"⟩
abbrev cX7_isBank : ByteArray := prog_9_method_6_code
def yX7_isBank : MethodName := ⟨RX7, "isBank", "(I)Z"⟩
abbrev cX7_isStack : ByteArray := prog_9_method_7_code
def yX7_isStack : MethodName := ⟨RX7, "isStack", "(I)Z"⟩
abbrev cX7_inHouse : ByteArray := prog_9_method_8_code
def yX7_inHouse : MethodName := ⟨RX7, "inHouse", "(II)I"⟩
abbrev cX7_inBank : ByteArray := prog_9_method_9_code
def yX7_inBank : MethodName := ⟨RX7, "inBank", "(II)I"⟩
abbrev cX7_inStack : ByteArray := prog_9_method_10_code
def yX7_inStack : MethodName := ⟨RX7, "inStack", "(II)I"⟩
abbrev cX7_come : ByteArray := prog_9_method_11_code
def yX7_come : MethodName := ⟨RX7, "come", "(I)I"⟩
abbrev cX7_setSpades : ByteArray := prog_9_method_12_code
def yX7_setSpades : MethodName := ⟨RX7, "setSpades", "(II)I"⟩
abbrev cX7_addBank : ByteArray := prog_9_method_13_code
def yX7_addBank : MethodName := ⟨RX7, "addBank", "(II)I"⟩
abbrev cX7_setAllowance : ByteArray := prog_9_method_14_code
def yX7_setAllowance : MethodName := ⟨RX7, "setAllowance", "(II)I"⟩
abbrev cX7_hasRight : ByteArray := prog_9_method_15_code
def yX7_hasRight : MethodName := ⟨RX7, "hasRight", "(II)Z"⟩
abbrev cX7_ones : ByteArray := prog_9_method_16_code
def yX7_ones : MethodName := ⟨RX7, "ones", "(I)I"⟩
abbrev cX7_grant : ByteArray := prog_9_method_17_code
def yX7_grant : MethodName := ⟨RX7, "grant", "(III)I"⟩
abbrev cX7_spadesOf : ByteArray := prog_9_method_18_code
def yX7_spadesOf : MethodName := ⟨RX7, "spadesOf", "(I)I"⟩
abbrev cX7_shareOf : ByteArray := prog_9_method_19_code
def yX7_shareOf : MethodName := ⟨RX7, "shareOf", "(II)I"⟩
abbrev cX7_mayCut : ByteArray := prog_9_method_20_code
def yX7_mayCut : MethodName := ⟨RX7, "mayCut", "(II)I"⟩
abbrev cX7_cut : ByteArray := prog_9_method_21_code
def yX7_cut : MethodName := ⟨RX7, "cut", "(III)I"⟩
abbrev cX7_turn : ByteArray := prog_9_method_22_code
def yX7_turn : MethodName := ⟨RX7, "turn", "(I)I"⟩
abbrev cX7_goes : ByteArray := prog_9_method_23_code
def yX7_goes : MethodName := ⟨RX7, "goes", "(I)V"⟩
abbrev cX7_join : ByteArray := prog_9_method_24_code
def yX7_join : MethodName := ⟨RX7, "join", "(II)I"⟩
abbrev cX7_isDry : ByteArray := prog_9_method_25_code
def yX7_isDry : MethodName := ⟨RX7, "isDry", "(I)Z"⟩
abbrev cX7_weight : ByteArray := prog_9_method_26_code
def yX7_weight : MethodName := ⟨RX7, "weight", "(I)I"⟩
abbrev cX7_load : ByteArray := prog_9_method_27_code
def yX7_load : MethodName := ⟨RX7, "load", "(II)I"⟩
abbrev cX7_bears : ByteArray := prog_9_method_28_code
def yX7_bears : MethodName := ⟨RX7, "bears", "(I)I"⟩
abbrev cX7_cart : ByteArray := prog_9_method_29_code
def yX7_cart : MethodName := ⟨RX7, "cart", "(II)I"⟩
abbrev cX7_repair : ByteArray := prog_9_method_30_code
def yX7_repair : MethodName := ⟨RX7, "repair", "(I)I"⟩
abbrev cX7_dried : ByteArray := prog_9_method_31_code
def yX7_dried : MethodName := ⟨RX7, "dried", "(IIII)I"⟩
abbrev cX7_dryStacks : ByteArray := prog_9_method_32_code
def yX7_dryStacks : MethodName := ⟨RX7, "dryStacks", "()I"⟩
abbrev cX7_day : ByteArray := prog_9_method_33_code
def yX7_day : MethodName := ⟨RX7, "day", "(II)I"⟩
abbrev cX7_endYear : ByteArray := prog_9_method_34_code
def yX7_endYear : MethodName := ⟨RX7, "endYear", "()I"⟩
abbrev cX7_take : ByteArray := prog_9_method_35_code
def yX7_take : MethodName := ⟨RX7, "take", "(I)I"⟩
abbrev cX7_restore : ByteArray := prog_9_method_36_code
def yX7_restore : MethodName := ⟨RX7, "restore", "(I)I"⟩
abbrev cX7_undo : ByteArray := prog_9_method_37_code
def yX7_undo : MethodName := ⟨RX7, "undo", "()I"⟩
abbrev cX7_append : ByteArray := prog_9_method_38_code
def yX7_append : MethodName := ⟨RX7, "append", "(I)I"⟩
abbrev cX7_clearText : ByteArray := prog_9_method_39_code
def yX7_clearText : MethodName := ⟨RX7, "clearText", "()I"⟩
abbrev cX7_kindOf : ByteArray := prog_9_method_40_code
def yX7_kindOf : MethodName := ⟨RX7, "kindOf", "(I)I"⟩
abbrev cX7_token : ByteArray := prog_9_method_41_code
def yX7_token : MethodName := ⟨RX7, "token", "()V"⟩
abbrev cX7_isWord : ByteArray := prog_9_method_42_code
def yX7_isWord : MethodName := ⟨RX7, "isWord", "(IIIII)Z"⟩
abbrev cX7_command : ByteArray := prog_9_method_43_code
def yX7_command : MethodName := ⟨RX7, "command", "()I"⟩
abbrev cX7_isNumber : ByteArray := prog_9_method_44_code
def yX7_isNumber : MethodName := ⟨RX7, "isNumber", "(I)Z"⟩
abbrev cX7_does : ByteArray := prog_9_method_45_code
def yX7_does : MethodName := ⟨RX7, "does", "(I)I"⟩
abbrev cX7_readsOne : ByteArray := prog_9_method_46_code
def yX7_readsOne : MethodName := ⟨RX7, "readsOne", "()I"⟩
abbrev cX7_readsAll : ByteArray := prog_9_method_47_code
def yX7_readsAll : MethodName := ⟨RX7, "readsAll", "()I"⟩
abbrev cX7_run : ByteArray := prog_9_method_48_code
def yX7_run : MethodName := ⟨RX7, "run", "()I"⟩
abbrev cX7_count : ByteArray := prog_9_method_49_code
def yX7_count : MethodName := ⟨RX7, "count", "(I)I"⟩
abbrev cX7_banksOf : ByteArray := prog_9_method_50_code
def yX7_banksOf : MethodName := ⟨RX7, "banksOf", "(I)I"⟩
abbrev cX7_stacksOf : ByteArray := prog_9_method_51_code
def yX7_stacksOf : MethodName := ⟨RX7, "stacksOf", "(IZ)I"⟩
abbrev cX7_household : ByteArray := prog_9_method_52_code
def yX7_household : MethodName := ⟨RX7, "household", "(II)I"⟩
abbrev cX7_turfsAt : ByteArray := prog_9_method_53_code
def yX7_turfsAt : MethodName := ⟨RX7, "turfsAt", "(I)I"⟩
abbrev cX7_bank : ByteArray := prog_9_method_54_code
def yX7_bank : MethodName := ⟨RX7, "bank", "(II)I"⟩
abbrev cX7_right : ByteArray := prog_9_method_55_code
def yX7_right : MethodName := ⟨RX7, "right", "(III)I"⟩
abbrev cX7_stack : ByteArray := prog_9_method_56_code
def yX7_stack : MethodName := ⟨RX7, "stack", "(II)I"⟩
abbrev cX7_dryIn : ByteArray := prog_9_method_57_code
def yX7_dryIn : MethodName := ⟨RX7, "dryIn", "(III)I"⟩
abbrev cX7_most : ByteArray := prog_9_method_58_code
def yX7_most : MethodName := ⟨RX7, "most", "(III)I"⟩
abbrev cX7_cartLoad : ByteArray := prog_9_method_59_code
def yX7_cartLoad : MethodName := ⟨RX7, "cartLoad", "(I)I"⟩
abbrev cX7_carts : ByteArray := prog_9_method_60_code
def yX7_carts : MethodName := ⟨RX7, "carts", "(I)I"⟩
abbrev cX7_worth : ByteArray := prog_9_method_61_code
def yX7_worth : MethodName := ⟨RX7, "worth", "(II)I"⟩
abbrev cX7_nextToCut : ByteArray := prog_9_method_62_code
def yX7_nextToCut : MethodName := ⟨RX7, "nextToCut", "(I)I"⟩
def RJ9 : String := "java/lang/Math"
def TJ9 : u_T := fun k => match k with
  | _ => ("", "", "", false)
def tyJ9 : Nat → FieldType := fun k => match k with
  | _ => .int
theorem nmJ9 : ∀ a, a < 0 → ∀ b, b < 0 → a ≠ b → (TJ9 a).2.1 ≠ (TJ9 b).2.1 := by decide +kernel
theorem tyJ9_ok : ∀ k, k < 0 → parseFieldDescriptor (TJ9 k).2.2.1 = some (tyJ9 k) := by decide +kernel
abbrev cJ9_max_7cf53 : ByteArray := prog_10_method_65_code
def yJ9_max_7cf53 : MethodName := ⟨RJ9, "max", "(II)I"⟩
abbrev cJ9_min_7cf53 : ByteArray := prog_10_method_69_code
def yJ9_min_7cf53 : MethodName := ⟨RJ9, "min", "(II)I"⟩
def RJ0 : String := "java/lang/String"
def TJ0 : u_T := fun k => match k with
  | _ => ("", "", "", false)
def tyJ0 : Nat → FieldType := fun k => match k with
  | _ => .int
theorem nmJ0 : ∀ a, a < 0 → ∀ b, b < 0 → a ≠ b → (TJ0 a).2.1 ≠ (TJ0 b).2.1 := by decide +kernel
theorem tyJ0_ok : ∀ k, k < 0 → parseFieldDescriptor (TJ0 k).2.2.1 = some (tyJ0 k) := by decide +kernel
abbrev cJ0_length_8abf5 : ByteArray := prog_11_method_54_code
def yJ0_length_8abf5 : MethodName := ⟨RJ0, "length", "()I"⟩
abbrev cJ0_charAt_5068e : ByteArray := prog_11_method_56_code
def yJ0_charAt_5068e : MethodName := ⟨RJ0, "charAt", "(I)C"⟩
abbrev cJ0_coder_7d493 : ByteArray := prog_11_method_152_code
def yJ0_coder_7d493 : MethodName := ⟨RJ0, "coder", "()B"⟩
abbrev cJ0_isLatin1_aae02 : ByteArray := prog_11_method_154_code
def yJ0_isLatin1_aae02 : MethodName := ⟨RJ0, "isLatin1", "()Z"⟩
abbrev cJ0_checkIndex_df160 : ByteArray := prog_11_method_155_code
def yJ0_checkIndex_df160 : MethodName := ⟨RJ0, "checkIndex", "(II)V"⟩
def RJ1 : String := "java/lang/StringLatin1"
def TJ1 : u_T := fun k => match k with
  | _ => ("", "", "", false)
def tyJ1 : Nat → FieldType := fun k => match k with
  | _ => .int
theorem nmJ1 : ∀ a, a < 0 → ∀ b, b < 0 → a ≠ b → (TJ1 a).2.1 ≠ (TJ1 b).2.1 := by decide +kernel
theorem tyJ1_ok : ∀ k, k < 0 → parseFieldDescriptor (TJ1 k).2.2.1 = some (tyJ1 k) := by decide +kernel
abbrev cJ1_charAt_3b067 : ByteArray := prog_12_method_2_code
def yJ1_charAt_3b067 : MethodName := ⟨RJ1, "charAt", "([BI)C"⟩
def RJ2 : String := "java/lang/StringUTF16"
def TJ2 : u_T := fun k => match k with
  | _ => ("", "", "", false)
def tyJ2 : Nat → FieldType := fun k => match k with
  | _ => .int
theorem nmJ2 : ∀ a, a < 0 → ∀ b, b < 0 → a ≠ b → (TJ2 a).2.1 ≠ (TJ2 b).2.1 := by decide +kernel
theorem tyJ2_ok : ∀ k, k < 0 → parseFieldDescriptor (TJ2 k).2.2.1 = some (tyJ2 k) := by decide +kernel
abbrev cJ2_getChar_3b067 : ByteArray := prog_13_method_5_code
def yJ2_getChar_3b067 : MethodName := ⟨RJ2, "getChar", "([BI)C"⟩
abbrev cJ2_length_9d52b : ByteArray := prog_13_method_6_code
def yJ2_length_9d52b : MethodName := ⟨RJ2, "length", "([B)I"⟩
abbrev cJ2_charAt_3b067 : ByteArray := prog_13_method_83_code
def yJ2_charAt_3b067 : MethodName := ⟨RJ2, "charAt", "([BI)C"⟩
abbrev cJ2_checkIndex_2214a : ByteArray := prog_13_method_91_code
def yJ2_checkIndex_2214a : MethodName := ⟨RJ2, "checkIndex", "(I[B)V"⟩
def RJ3 : String := "jdk/internal/util/Preconditions"
def TJ3 : u_T := fun k => match k with
  | _ => ("", "", "", false)
def tyJ3 : Nat → FieldType := fun k => match k with
  | _ => .int
theorem nmJ3 : ∀ a, a < 0 → ∀ b, b < 0 → a ≠ b → (TJ3 a).2.1 ≠ (TJ3 b).2.1 := by decide +kernel
theorem tyJ3_ok : ∀ k, k < 0 → parseFieldDescriptor (TJ3 k).2.2.1 = some (tyJ3 k) := by decide +kernel
abbrev cJ3_checkIndex_8e157 : ByteArray := prog_14_method_11_code
def yJ3_checkIndex_8e157 : MethodName := ⟨RJ3, "checkIndex", "(IILjava/util/function/BiFunction;)I"⟩
def RL : String := "PeatSharesLaw"
abbrev cL_law : ByteArray := code
def yL_law : MethodName := ⟨RL, "law", "([I)Z"⟩
abbrev vwCl : List vw_C := [(RX0, TX0, 8), (RX1, TX1, 3), (RX2, TX2, 9), (RX3, TX3, 5), (RX4, TX4, 3), (RX5, TX5, 5), (RX6, TX6, 5), (RX7, TX7, 12)]
theorem dX0_init_0 : decode cX0_init 0 = .ok (.aload_n 0, 1) := by decide +kernel
theorem dX0_init_1 : decode cX0_init 1 = .ok (.invokespecial 3, 3) := by decide +kernel
theorem dX0_init_4 : decode cX0_init 4 = .ok (.aload_n 0, 1) := by decide +kernel
theorem dX0_init_5 : decode cX0_init 5 = .ok (.iconst 0, 1) := by decide +kernel
theorem dX0_init_6 : decode cX0_init 6 = .ok (.putfield 9, 3) := by decide +kernel
theorem dX0_init_9 : decode cX0_init 9 = .ok (.aload_n 0, 1) := by decide +kernel
theorem dX0_init_10 : decode cX0_init 10 = .ok (.iconst 0, 1) := by decide +kernel
theorem dX0_init_11 : decode cX0_init 11 = .ok (.putfield 15, 3) := by decide +kernel
theorem dX0_init_14 : decode cX0_init 14 = .ok (.aload_n 0, 1) := by decide +kernel
theorem dX0_init_15 : decode cX0_init 15 = .ok (.iconst 0, 1) := by decide +kernel
theorem dX0_init_16 : decode cX0_init 16 = .ok (.putfield 18, 3) := by decide +kernel
theorem dX0_init_19 : decode cX0_init 19 = .ok (.aload_n 0, 1) := by decide +kernel
theorem dX0_init_20 : decode cX0_init 20 = .ok (.iconst 0, 1) := by decide +kernel
theorem dX0_init_21 : decode cX0_init 21 = .ok (.putfield 21, 3) := by decide +kernel
theorem dX0_init_24 : decode cX0_init 24 = .ok (.aload_n 0, 1) := by decide +kernel
theorem dX0_init_25 : decode cX0_init 25 = .ok (.iconst 0, 1) := by decide +kernel
theorem dX0_init_26 : decode cX0_init 26 = .ok (.putfield 24, 3) := by decide +kernel
theorem dX0_init_29 : decode cX0_init 29 = .ok (.aload_n 0, 1) := by decide +kernel
theorem dX0_init_30 : decode cX0_init 30 = .ok (.iconst 0, 1) := by decide +kernel
theorem dX0_init_31 : decode cX0_init 31 = .ok (.putfield 27, 3) := by decide +kernel
theorem dX0_init_34 : decode cX0_init 34 = .ok (.aload_n 0, 1) := by decide +kernel
theorem dX0_init_35 : decode cX0_init 35 = .ok (.bipush 6, 2) := by decide +kernel
theorem dX0_init_37 : decode cX0_init 37 = .ok (.newarray .boolean, 2) := by decide +kernel
theorem dX0_init_39 : decode cX0_init 39 = .ok (.putfield 30, 3) := by decide +kernel
theorem dX0_init_42 : decode cX0_init 42 = .ok (.aload_n 0, 1) := by decide +kernel
theorem dX0_init_43 : decode cX0_init 43 = .ok (.bipush 6, 2) := by decide +kernel
theorem dX0_init_45 : decode cX0_init 45 = .ok (.newarray .int, 2) := by decide +kernel
theorem dX0_init_47 : decode cX0_init 47 = .ok (.putfield 34, 3) := by decide +kernel
theorem dX0_init_50 : decode cX0_init 50 = .ok (.return_, 1) := by decide +kernel
theorem dX0_copyFrom_0 : decode cX0_copyFrom 0 = .ok (.aload_n 0, 1) := by decide +kernel
theorem dX0_copyFrom_1 : decode cX0_copyFrom 1 = .ok (.aload_n 1, 1) := by decide +kernel
theorem dX0_copyFrom_2 : decode cX0_copyFrom 2 = .ok (.getfield 9, 3) := by decide +kernel
theorem dX0_copyFrom_5 : decode cX0_copyFrom 5 = .ok (.putfield 9, 3) := by decide +kernel
theorem dX0_copyFrom_8 : decode cX0_copyFrom 8 = .ok (.aload_n 0, 1) := by decide +kernel
theorem dX0_copyFrom_9 : decode cX0_copyFrom 9 = .ok (.aload_n 1, 1) := by decide +kernel
theorem dX0_copyFrom_10 : decode cX0_copyFrom 10 = .ok (.getfield 15, 3) := by decide +kernel
theorem dX0_copyFrom_13 : decode cX0_copyFrom 13 = .ok (.putfield 15, 3) := by decide +kernel
theorem dX0_copyFrom_16 : decode cX0_copyFrom 16 = .ok (.aload_n 0, 1) := by decide +kernel
theorem dX0_copyFrom_17 : decode cX0_copyFrom 17 = .ok (.aload_n 1, 1) := by decide +kernel
theorem dX0_copyFrom_18 : decode cX0_copyFrom 18 = .ok (.getfield 18, 3) := by decide +kernel
theorem dX0_copyFrom_21 : decode cX0_copyFrom 21 = .ok (.putfield 18, 3) := by decide +kernel
theorem dX0_copyFrom_24 : decode cX0_copyFrom 24 = .ok (.aload_n 0, 1) := by decide +kernel
theorem dX0_copyFrom_25 : decode cX0_copyFrom 25 = .ok (.aload_n 1, 1) := by decide +kernel
theorem dX0_copyFrom_26 : decode cX0_copyFrom 26 = .ok (.getfield 21, 3) := by decide +kernel
theorem dX0_copyFrom_29 : decode cX0_copyFrom 29 = .ok (.putfield 21, 3) := by decide +kernel
theorem dX0_copyFrom_32 : decode cX0_copyFrom 32 = .ok (.aload_n 0, 1) := by decide +kernel
theorem dX0_copyFrom_33 : decode cX0_copyFrom 33 = .ok (.aload_n 1, 1) := by decide +kernel
theorem dX0_copyFrom_34 : decode cX0_copyFrom 34 = .ok (.getfield 24, 3) := by decide +kernel
theorem dX0_copyFrom_37 : decode cX0_copyFrom 37 = .ok (.putfield 24, 3) := by decide +kernel
theorem dX0_copyFrom_40 : decode cX0_copyFrom 40 = .ok (.aload_n 0, 1) := by decide +kernel
theorem dX0_copyFrom_41 : decode cX0_copyFrom 41 = .ok (.aload_n 1, 1) := by decide +kernel
theorem dX0_copyFrom_42 : decode cX0_copyFrom 42 = .ok (.getfield 27, 3) := by decide +kernel
theorem dX0_copyFrom_45 : decode cX0_copyFrom 45 = .ok (.putfield 27, 3) := by decide +kernel
theorem dX0_copyFrom_48 : decode cX0_copyFrom 48 = .ok (.iconst 0, 1) := by decide +kernel
theorem dX0_copyFrom_49 : decode cX0_copyFrom 49 = .ok (.istore_n 2, 1) := by decide +kernel
theorem dX0_copyFrom_50 : decode cX0_copyFrom 50 = .ok (.iload_n 2, 1) := by decide +kernel
theorem dX0_copyFrom_51 : decode cX0_copyFrom 51 = .ok (.bipush 6, 2) := by decide +kernel
theorem dX0_copyFrom_53 : decode cX0_copyFrom 53 = .ok (.if_icmp .ge 33, 3) := by decide +kernel
theorem dX0_copyFrom_56 : decode cX0_copyFrom 56 = .ok (.aload_n 0, 1) := by decide +kernel
theorem dX0_copyFrom_57 : decode cX0_copyFrom 57 = .ok (.getfield 30, 3) := by decide +kernel
theorem dX0_copyFrom_60 : decode cX0_copyFrom 60 = .ok (.iload_n 2, 1) := by decide +kernel
theorem dX0_copyFrom_61 : decode cX0_copyFrom 61 = .ok (.aload_n 1, 1) := by decide +kernel
theorem dX0_copyFrom_62 : decode cX0_copyFrom 62 = .ok (.getfield 30, 3) := by decide +kernel
theorem dX0_copyFrom_65 : decode cX0_copyFrom 65 = .ok (.iload_n 2, 1) := by decide +kernel
theorem dX0_copyFrom_66 : decode cX0_copyFrom 66 = .ok (.baload, 1) := by decide +kernel
theorem dX0_copyFrom_67 : decode cX0_copyFrom 67 = .ok (.bastore, 1) := by decide +kernel
theorem dX0_copyFrom_68 : decode cX0_copyFrom 68 = .ok (.aload_n 0, 1) := by decide +kernel
theorem dX0_copyFrom_69 : decode cX0_copyFrom 69 = .ok (.getfield 34, 3) := by decide +kernel
theorem dX0_copyFrom_72 : decode cX0_copyFrom 72 = .ok (.iload_n 2, 1) := by decide +kernel
theorem dX0_copyFrom_73 : decode cX0_copyFrom 73 = .ok (.aload_n 1, 1) := by decide +kernel
theorem dX0_copyFrom_74 : decode cX0_copyFrom 74 = .ok (.getfield 34, 3) := by decide +kernel
theorem dX0_copyFrom_77 : decode cX0_copyFrom 77 = .ok (.iload_n 2, 1) := by decide +kernel
theorem dX0_copyFrom_78 : decode cX0_copyFrom 78 = .ok (.iaload, 1) := by decide +kernel
theorem dX0_copyFrom_79 : decode cX0_copyFrom 79 = .ok (.iastore, 1) := by decide +kernel
theorem dX0_copyFrom_80 : decode cX0_copyFrom 80 = .ok (.iinc 2 1, 3) := by decide +kernel
theorem dX0_copyFrom_83 : decode cX0_copyFrom 83 = .ok (.goto (-33), 3) := by decide +kernel
theorem dX0_copyFrom_86 : decode cX0_copyFrom 86 = .ok (.return_, 1) := by decide +kernel
theorem dX0_bearing_0 : decode cX0_bearing 0 = .ok (.iconst 0, 1) := by decide +kernel
theorem dX0_bearing_1 : decode cX0_bearing 1 = .ok (.aload_n 0, 1) := by decide +kernel
theorem dX0_bearing_2 : decode cX0_bearing 2 = .ok (.getfield 15, 3) := by decide +kernel
theorem dX0_bearing_5 : decode cX0_bearing 5 = .ok (.bipush 40, 2) := by decide +kernel
theorem dX0_bearing_7 : decode cX0_bearing 7 = .ok (.iload_n 2, 1) := by decide +kernel
theorem dX0_bearing_8 : decode cX0_bearing 8 = .ok (.imul, 1) := by decide +kernel
theorem dX0_bearing_9 : decode cX0_bearing 9 = .ok (.isub, 1) := by decide +kernel
theorem dX0_bearing_10 : decode cX0_bearing 10 = .ok (.iload_n 1, 1) := by decide +kernel
theorem dX0_bearing_11 : decode cX0_bearing 11 = .ok (.isub, 1) := by decide +kernel
theorem dX0_bearing_12 : decode cX0_bearing 12 = .ok (.invokestatic 38, 3) := by decide +kernel
theorem dX0_bearing_15 : decode cX0_bearing 15 = .ok (.ireturn, 1) := by decide +kernel
theorem dX0_holders_0 : decode cX0_holders 0 = .ok (.iconst 0, 1) := by decide +kernel
theorem dX0_holders_1 : decode cX0_holders 1 = .ok (.istore_n 1, 1) := by decide +kernel
theorem dX0_holders_2 : decode cX0_holders 2 = .ok (.iconst 0, 1) := by decide +kernel
theorem dX0_holders_3 : decode cX0_holders 3 = .ok (.istore_n 2, 1) := by decide +kernel
theorem dX0_holders_4 : decode cX0_holders 4 = .ok (.iload_n 2, 1) := by decide +kernel
theorem dX0_holders_5 : decode cX0_holders 5 = .ok (.bipush 6, 2) := by decide +kernel
theorem dX0_holders_7 : decode cX0_holders 7 = .ok (.if_icmp .ge 21, 3) := by decide +kernel
theorem dX0_holders_10 : decode cX0_holders 10 = .ok (.aload_n 0, 1) := by decide +kernel
theorem dX0_holders_11 : decode cX0_holders 11 = .ok (.getfield 30, 3) := by decide +kernel
theorem dX0_holders_14 : decode cX0_holders 14 = .ok (.iload_n 2, 1) := by decide +kernel
theorem dX0_holders_15 : decode cX0_holders 15 = .ok (.baload, 1) := by decide +kernel
theorem dX0_holders_16 : decode cX0_holders 16 = .ok (.ifCond .eq 6, 3) := by decide +kernel
theorem dX0_holders_19 : decode cX0_holders 19 = .ok (.iinc 1 1, 3) := by decide +kernel
theorem dX0_holders_22 : decode cX0_holders 22 = .ok (.iinc 2 1, 3) := by decide +kernel
theorem dX0_holders_25 : decode cX0_holders 25 = .ok (.goto (-21), 3) := by decide +kernel
theorem dX0_holders_28 : decode cX0_holders 28 = .ok (.iload_n 1, 1) := by decide +kernel
theorem dX0_holders_29 : decode cX0_holders 29 = .ok (.ireturn, 1) := by decide +kernel
theorem dX0_holdersAsBits_0 : decode cX0_holdersAsBits 0 = .ok (.iconst 0, 1) := by decide +kernel
theorem dX0_holdersAsBits_1 : decode cX0_holdersAsBits 1 = .ok (.istore_n 1, 1) := by decide +kernel
theorem dX0_holdersAsBits_2 : decode cX0_holdersAsBits 2 = .ok (.iconst 0, 1) := by decide +kernel
theorem dX0_holdersAsBits_3 : decode cX0_holdersAsBits 3 = .ok (.istore_n 2, 1) := by decide +kernel
theorem dX0_holdersAsBits_4 : decode cX0_holdersAsBits 4 = .ok (.iload_n 2, 1) := by decide +kernel
theorem dX0_holdersAsBits_5 : decode cX0_holdersAsBits 5 = .ok (.bipush 6, 2) := by decide +kernel
theorem dX0_holdersAsBits_7 : decode cX0_holdersAsBits 7 = .ok (.if_icmp .ge 24, 3) := by decide +kernel
theorem dX0_holdersAsBits_10 : decode cX0_holdersAsBits 10 = .ok (.aload_n 0, 1) := by decide +kernel
theorem dX0_holdersAsBits_11 : decode cX0_holdersAsBits 11 = .ok (.getfield 30, 3) := by decide +kernel
theorem dX0_holdersAsBits_14 : decode cX0_holdersAsBits 14 = .ok (.iload_n 2, 1) := by decide +kernel
theorem dX0_holdersAsBits_15 : decode cX0_holdersAsBits 15 = .ok (.baload, 1) := by decide +kernel
theorem dX0_holdersAsBits_16 : decode cX0_holdersAsBits 16 = .ok (.ifCond .eq 9, 3) := by decide +kernel
theorem dX0_holdersAsBits_19 : decode cX0_holdersAsBits 19 = .ok (.iload_n 1, 1) := by decide +kernel
theorem dX0_holdersAsBits_20 : decode cX0_holdersAsBits 20 = .ok (.iconst 1, 1) := by decide +kernel
theorem dX0_holdersAsBits_21 : decode cX0_holdersAsBits 21 = .ok (.iload_n 2, 1) := by decide +kernel
theorem dX0_holdersAsBits_22 : decode cX0_holdersAsBits 22 = .ok (.ishl, 1) := by decide +kernel
theorem dX0_holdersAsBits_23 : decode cX0_holdersAsBits 23 = .ok (.ior, 1) := by decide +kernel
theorem dX0_holdersAsBits_24 : decode cX0_holdersAsBits 24 = .ok (.istore_n 1, 1) := by decide +kernel
theorem dX0_holdersAsBits_25 : decode cX0_holdersAsBits 25 = .ok (.iinc 2 1, 3) := by decide +kernel
theorem dX0_holdersAsBits_28 : decode cX0_holdersAsBits 28 = .ok (.goto (-24), 3) := by decide +kernel
theorem dX0_holdersAsBits_31 : decode cX0_holdersAsBits 31 = .ok (.iload_n 1, 1) := by decide +kernel
theorem dX0_holdersAsBits_32 : decode cX0_holdersAsBits 32 = .ok (.ireturn, 1) := by decide +kernel
theorem dX0_forgetYear_0 : decode cX0_forgetYear 0 = .ok (.iconst 0, 1) := by decide +kernel
theorem dX0_forgetYear_1 : decode cX0_forgetYear 1 = .ok (.istore_n 1, 1) := by decide +kernel
theorem dX0_forgetYear_2 : decode cX0_forgetYear 2 = .ok (.iload_n 1, 1) := by decide +kernel
theorem dX0_forgetYear_3 : decode cX0_forgetYear 3 = .ok (.bipush 6, 2) := by decide +kernel
theorem dX0_forgetYear_5 : decode cX0_forgetYear 5 = .ok (.if_icmp .ge 16, 3) := by decide +kernel
theorem dX0_forgetYear_8 : decode cX0_forgetYear 8 = .ok (.aload_n 0, 1) := by decide +kernel
theorem dX0_forgetYear_9 : decode cX0_forgetYear 9 = .ok (.getfield 34, 3) := by decide +kernel
theorem dX0_forgetYear_12 : decode cX0_forgetYear 12 = .ok (.iload_n 1, 1) := by decide +kernel
theorem dX0_forgetYear_13 : decode cX0_forgetYear 13 = .ok (.iconst 0, 1) := by decide +kernel
theorem dX0_forgetYear_14 : decode cX0_forgetYear 14 = .ok (.iastore, 1) := by decide +kernel
theorem dX0_forgetYear_15 : decode cX0_forgetYear 15 = .ok (.iinc 1 1, 3) := by decide +kernel
theorem dX0_forgetYear_18 : decode cX0_forgetYear 18 = .ok (.goto (-16), 3) := by decide +kernel
theorem dX0_forgetYear_21 : decode cX0_forgetYear 21 = .ok (.return_, 1) := by decide +kernel
theorem dX0_wearBy_0 : decode cX0_wearBy 0 = .ok (.iload_n 0, 1) := by decide +kernel
theorem dX0_wearBy_1 : decode cX0_wearBy 1 = .ok (.bipush 49, 2) := by decide +kernel
theorem dX0_wearBy_3 : decode cX0_wearBy 3 = .ok (.iadd, 1) := by decide +kernel
theorem dX0_wearBy_4 : decode cX0_wearBy 4 = .ok (.bipush 50, 2) := by decide +kernel
theorem dX0_wearBy_6 : decode cX0_wearBy 6 = .ok (.idiv, 1) := by decide +kernel
theorem dX0_wearBy_7 : decode cX0_wearBy 7 = .ok (.ireturn, 1) := by decide +kernel
theorem dX1_init_0 : decode cX1_init 0 = .ok (.aload_n 0, 1) := by decide +kernel
theorem dX1_init_1 : decode cX1_init 1 = .ok (.invokespecial 1, 3) := by decide +kernel
theorem dX1_init_4 : decode cX1_init 4 = .ok (.aload_n 0, 1) := by decide +kernel
theorem dX1_init_5 : decode cX1_init 5 = .ok (.iconst 0, 1) := by decide +kernel
theorem dX1_init_6 : decode cX1_init 6 = .ok (.putfield 7, 3) := by decide +kernel
theorem dX1_init_9 : decode cX1_init 9 = .ok (.aload_n 0, 1) := by decide +kernel
theorem dX1_init_10 : decode cX1_init 10 = .ok (.iconst 0, 1) := by decide +kernel
theorem dX1_init_11 : decode cX1_init 11 = .ok (.putfield 13, 3) := by decide +kernel
theorem dX1_init_14 : decode cX1_init 14 = .ok (.aload_n 0, 1) := by decide +kernel
theorem dX1_init_15 : decode cX1_init 15 = .ok (.iconst 0, 1) := by decide +kernel
theorem dX1_init_16 : decode cX1_init 16 = .ok (.putfield 16, 3) := by decide +kernel
theorem dX1_init_19 : decode cX1_init 19 = .ok (.return_, 1) := by decide +kernel
theorem dX1_copyFrom_0 : decode cX1_copyFrom 0 = .ok (.aload_n 0, 1) := by decide +kernel
theorem dX1_copyFrom_1 : decode cX1_copyFrom 1 = .ok (.aload_n 1, 1) := by decide +kernel
theorem dX1_copyFrom_2 : decode cX1_copyFrom 2 = .ok (.getfield 7, 3) := by decide +kernel
theorem dX1_copyFrom_5 : decode cX1_copyFrom 5 = .ok (.putfield 7, 3) := by decide +kernel
theorem dX1_copyFrom_8 : decode cX1_copyFrom 8 = .ok (.aload_n 0, 1) := by decide +kernel
theorem dX1_copyFrom_9 : decode cX1_copyFrom 9 = .ok (.aload_n 1, 1) := by decide +kernel
theorem dX1_copyFrom_10 : decode cX1_copyFrom 10 = .ok (.getfield 13, 3) := by decide +kernel
theorem dX1_copyFrom_13 : decode cX1_copyFrom 13 = .ok (.putfield 13, 3) := by decide +kernel
theorem dX1_copyFrom_16 : decode cX1_copyFrom 16 = .ok (.aload_n 0, 1) := by decide +kernel
theorem dX1_copyFrom_17 : decode cX1_copyFrom 17 = .ok (.aload_n 1, 1) := by decide +kernel
theorem dX1_copyFrom_18 : decode cX1_copyFrom 18 = .ok (.getfield 16, 3) := by decide +kernel
theorem dX1_copyFrom_21 : decode cX1_copyFrom 21 = .ok (.putfield 16, 3) := by decide +kernel
theorem dX1_copyFrom_24 : decode cX1_copyFrom 24 = .ok (.return_, 1) := by decide +kernel
theorem dX2_init_0 : decode cX2_init 0 = .ok (.aload_n 0, 1) := by decide +kernel
theorem dX2_init_1 : decode cX2_init 1 = .ok (.invokespecial 3, 3) := by decide +kernel
theorem dX2_init_4 : decode cX2_init 4 = .ok (.aload_n 0, 1) := by decide +kernel
theorem dX2_init_5 : decode cX2_init 5 = .ok (.iconst 0, 1) := by decide +kernel
theorem dX2_init_6 : decode cX2_init 6 = .ok (.putfield 9, 3) := by decide +kernel
theorem dX2_init_9 : decode cX2_init 9 = .ok (.aload_n 0, 1) := by decide +kernel
theorem dX2_init_10 : decode cX2_init 10 = .ok (.iconst 0, 1) := by decide +kernel
theorem dX2_init_11 : decode cX2_init 11 = .ok (.putfield 15, 3) := by decide +kernel
theorem dX2_init_14 : decode cX2_init 14 = .ok (.aload_n 0, 1) := by decide +kernel
theorem dX2_init_15 : decode cX2_init 15 = .ok (.iconst 0, 1) := by decide +kernel
theorem dX2_init_16 : decode cX2_init 16 = .ok (.putfield 18, 3) := by decide +kernel
theorem dX2_init_19 : decode cX2_init 19 = .ok (.aload_n 0, 1) := by decide +kernel
theorem dX2_init_20 : decode cX2_init 20 = .ok (.iconst 0, 1) := by decide +kernel
theorem dX2_init_21 : decode cX2_init 21 = .ok (.putfield 21, 3) := by decide +kernel
theorem dX2_init_24 : decode cX2_init 24 = .ok (.aload_n 0, 1) := by decide +kernel
theorem dX2_init_25 : decode cX2_init 25 = .ok (.iconst 0, 1) := by decide +kernel
theorem dX2_init_26 : decode cX2_init 26 = .ok (.putfield 24, 3) := by decide +kernel
theorem dX2_init_29 : decode cX2_init 29 = .ok (.aload_n 0, 1) := by decide +kernel
theorem dX2_init_30 : decode cX2_init 30 = .ok (.iconst 0, 1) := by decide +kernel
theorem dX2_init_31 : decode cX2_init 31 = .ok (.putfield 27, 3) := by decide +kernel
theorem dX2_init_34 : decode cX2_init 34 = .ok (.aload_n 0, 1) := by decide +kernel
theorem dX2_init_35 : decode cX2_init 35 = .ok (.bipush 6, 2) := by decide +kernel
theorem dX2_init_37 : decode cX2_init 37 = .ok (.anewarray 30, 3) := by decide +kernel
theorem dX2_init_40 : decode cX2_init 40 = .ok (.putfield 32, 3) := by decide +kernel
theorem dX2_init_43 : decode cX2_init 43 = .ok (.aload_n 0, 1) := by decide +kernel
theorem dX2_init_44 : decode cX2_init 44 = .ok (.iconst 4, 1) := by decide +kernel
theorem dX2_init_45 : decode cX2_init 45 = .ok (.anewarray 36, 3) := by decide +kernel
theorem dX2_init_48 : decode cX2_init 48 = .ok (.putfield 38, 3) := by decide +kernel
theorem dX2_init_51 : decode cX2_init 51 = .ok (.aload_n 0, 1) := by decide +kernel
theorem dX2_init_52 : decode cX2_init 52 = .ok (.bipush 12, 2) := by decide +kernel
theorem dX2_init_54 : decode cX2_init 54 = .ok (.anewarray 42, 3) := by decide +kernel
theorem dX2_init_57 : decode cX2_init 57 = .ok (.putfield 44, 3) := by decide +kernel
theorem dX2_init_60 : decode cX2_init 60 = .ok (.iconst 0, 1) := by decide +kernel
theorem dX2_init_61 : decode cX2_init 61 = .ok (.istore_n 1, 1) := by decide +kernel
theorem dX2_init_62 : decode cX2_init 62 = .ok (.iload_n 1, 1) := by decide +kernel
theorem dX2_init_63 : decode cX2_init 63 = .ok (.bipush 6, 2) := by decide +kernel
theorem dX2_init_65 : decode cX2_init 65 = .ok (.if_icmp .ge 22, 3) := by decide +kernel
theorem dX2_init_68 : decode cX2_init 68 = .ok (.aload_n 0, 1) := by decide +kernel
theorem dX2_init_69 : decode cX2_init 69 = .ok (.getfield 32, 3) := by decide +kernel
theorem dX2_init_72 : decode cX2_init 72 = .ok (.iload_n 1, 1) := by decide +kernel
theorem dX2_init_73 : decode cX2_init 73 = .ok (.new 30, 3) := by decide +kernel
theorem dX2_init_76 : decode cX2_init 76 = .ok (.dup, 1) := by decide +kernel
theorem dX2_init_77 : decode cX2_init 77 = .ok (.invokespecial 48, 3) := by decide +kernel
theorem dX2_init_80 : decode cX2_init 80 = .ok (.aastore, 1) := by decide +kernel
theorem dX2_init_81 : decode cX2_init 81 = .ok (.iinc 1 1, 3) := by decide +kernel
theorem dX2_init_84 : decode cX2_init 84 = .ok (.goto (-22), 3) := by decide +kernel
theorem dX2_init_87 : decode cX2_init 87 = .ok (.iconst 0, 1) := by decide +kernel
theorem dX2_init_88 : decode cX2_init 88 = .ok (.istore_n 1, 1) := by decide +kernel
theorem dX2_init_89 : decode cX2_init 89 = .ok (.iload_n 1, 1) := by decide +kernel
theorem dX2_init_90 : decode cX2_init 90 = .ok (.iconst 4, 1) := by decide +kernel
theorem dX2_init_91 : decode cX2_init 91 = .ok (.if_icmp .ge 22, 3) := by decide +kernel
theorem dX2_init_94 : decode cX2_init 94 = .ok (.aload_n 0, 1) := by decide +kernel
theorem dX2_init_95 : decode cX2_init 95 = .ok (.getfield 38, 3) := by decide +kernel
theorem dX2_init_98 : decode cX2_init 98 = .ok (.iload_n 1, 1) := by decide +kernel
theorem dX2_init_99 : decode cX2_init 99 = .ok (.new 36, 3) := by decide +kernel
theorem dX2_init_102 : decode cX2_init 102 = .ok (.dup, 1) := by decide +kernel
theorem dX2_init_103 : decode cX2_init 103 = .ok (.invokespecial 49, 3) := by decide +kernel
theorem dX2_init_106 : decode cX2_init 106 = .ok (.aastore, 1) := by decide +kernel
theorem dX2_init_107 : decode cX2_init 107 = .ok (.iinc 1 1, 3) := by decide +kernel
theorem dX2_init_110 : decode cX2_init 110 = .ok (.goto (-21), 3) := by decide +kernel
theorem dX2_init_113 : decode cX2_init 113 = .ok (.iconst 0, 1) := by decide +kernel
theorem dX2_init_114 : decode cX2_init 114 = .ok (.istore_n 1, 1) := by decide +kernel
theorem dX2_init_115 : decode cX2_init 115 = .ok (.iload_n 1, 1) := by decide +kernel
theorem dX2_init_116 : decode cX2_init 116 = .ok (.bipush 12, 2) := by decide +kernel
theorem dX2_init_118 : decode cX2_init 118 = .ok (.if_icmp .ge 22, 3) := by decide +kernel
theorem dX2_init_121 : decode cX2_init 121 = .ok (.aload_n 0, 1) := by decide +kernel
theorem dX2_init_122 : decode cX2_init 122 = .ok (.getfield 44, 3) := by decide +kernel
theorem dX2_init_125 : decode cX2_init 125 = .ok (.iload_n 1, 1) := by decide +kernel
theorem dX2_init_126 : decode cX2_init 126 = .ok (.new 42, 3) := by decide +kernel
theorem dX2_init_129 : decode cX2_init 129 = .ok (.dup, 1) := by decide +kernel
theorem dX2_init_130 : decode cX2_init 130 = .ok (.invokespecial 50, 3) := by decide +kernel
theorem dX2_init_133 : decode cX2_init 133 = .ok (.aastore, 1) := by decide +kernel
theorem dX2_init_134 : decode cX2_init 134 = .ok (.iinc 1 1, 3) := by decide +kernel
theorem dX2_init_137 : decode cX2_init 137 = .ok (.goto (-22), 3) := by decide +kernel
theorem dX2_init_140 : decode cX2_init 140 = .ok (.return_, 1) := by decide +kernel
theorem dX2_copyFrom_0 : decode cX2_copyFrom 0 = .ok (.aload_n 0, 1) := by decide +kernel
theorem dX2_copyFrom_1 : decode cX2_copyFrom 1 = .ok (.aload_n 1, 1) := by decide +kernel
theorem dX2_copyFrom_2 : decode cX2_copyFrom 2 = .ok (.getfield 9, 3) := by decide +kernel
theorem dX2_copyFrom_5 : decode cX2_copyFrom 5 = .ok (.putfield 9, 3) := by decide +kernel
theorem dX2_copyFrom_8 : decode cX2_copyFrom 8 = .ok (.aload_n 0, 1) := by decide +kernel
theorem dX2_copyFrom_9 : decode cX2_copyFrom 9 = .ok (.aload_n 1, 1) := by decide +kernel
theorem dX2_copyFrom_10 : decode cX2_copyFrom 10 = .ok (.getfield 15, 3) := by decide +kernel
theorem dX2_copyFrom_13 : decode cX2_copyFrom 13 = .ok (.putfield 15, 3) := by decide +kernel
theorem dX2_copyFrom_16 : decode cX2_copyFrom 16 = .ok (.aload_n 0, 1) := by decide +kernel
theorem dX2_copyFrom_17 : decode cX2_copyFrom 17 = .ok (.aload_n 1, 1) := by decide +kernel
theorem dX2_copyFrom_18 : decode cX2_copyFrom 18 = .ok (.getfield 18, 3) := by decide +kernel
theorem dX2_copyFrom_21 : decode cX2_copyFrom 21 = .ok (.putfield 18, 3) := by decide +kernel
theorem dX2_copyFrom_24 : decode cX2_copyFrom 24 = .ok (.aload_n 0, 1) := by decide +kernel
theorem dX2_copyFrom_25 : decode cX2_copyFrom 25 = .ok (.aload_n 1, 1) := by decide +kernel
theorem dX2_copyFrom_26 : decode cX2_copyFrom 26 = .ok (.getfield 21, 3) := by decide +kernel
theorem dX2_copyFrom_29 : decode cX2_copyFrom 29 = .ok (.putfield 21, 3) := by decide +kernel
theorem dX2_copyFrom_32 : decode cX2_copyFrom 32 = .ok (.aload_n 0, 1) := by decide +kernel
theorem dX2_copyFrom_33 : decode cX2_copyFrom 33 = .ok (.aload_n 1, 1) := by decide +kernel
theorem dX2_copyFrom_34 : decode cX2_copyFrom 34 = .ok (.getfield 24, 3) := by decide +kernel
theorem dX2_copyFrom_37 : decode cX2_copyFrom 37 = .ok (.putfield 24, 3) := by decide +kernel
theorem dX2_copyFrom_40 : decode cX2_copyFrom 40 = .ok (.aload_n 0, 1) := by decide +kernel
theorem dX2_copyFrom_41 : decode cX2_copyFrom 41 = .ok (.aload_n 1, 1) := by decide +kernel
theorem dX2_copyFrom_42 : decode cX2_copyFrom 42 = .ok (.getfield 27, 3) := by decide +kernel
theorem dX2_copyFrom_45 : decode cX2_copyFrom 45 = .ok (.putfield 27, 3) := by decide +kernel
theorem dX2_copyFrom_48 : decode cX2_copyFrom 48 = .ok (.iconst 0, 1) := by decide +kernel
theorem dX2_copyFrom_49 : decode cX2_copyFrom 49 = .ok (.istore_n 2, 1) := by decide +kernel
theorem dX2_copyFrom_50 : decode cX2_copyFrom 50 = .ok (.iload_n 2, 1) := by decide +kernel
theorem dX2_copyFrom_51 : decode cX2_copyFrom 51 = .ok (.bipush 6, 2) := by decide +kernel
theorem dX2_copyFrom_53 : decode cX2_copyFrom 53 = .ok (.if_icmp .ge 24, 3) := by decide +kernel
theorem dX2_copyFrom_56 : decode cX2_copyFrom 56 = .ok (.aload_n 0, 1) := by decide +kernel
theorem dX2_copyFrom_57 : decode cX2_copyFrom 57 = .ok (.getfield 32, 3) := by decide +kernel
theorem dX2_copyFrom_60 : decode cX2_copyFrom 60 = .ok (.iload_n 2, 1) := by decide +kernel
theorem dX2_copyFrom_61 : decode cX2_copyFrom 61 = .ok (.aaload, 1) := by decide +kernel
theorem dX2_copyFrom_62 : decode cX2_copyFrom 62 = .ok (.aload_n 1, 1) := by decide +kernel
theorem dX2_copyFrom_63 : decode cX2_copyFrom 63 = .ok (.getfield 32, 3) := by decide +kernel
theorem dX2_copyFrom_66 : decode cX2_copyFrom 66 = .ok (.iload_n 2, 1) := by decide +kernel
theorem dX2_copyFrom_67 : decode cX2_copyFrom 67 = .ok (.aaload, 1) := by decide +kernel
theorem dX2_copyFrom_68 : decode cX2_copyFrom 68 = .ok (.invokevirtual 51, 3) := by decide +kernel
theorem dX2_copyFrom_71 : decode cX2_copyFrom 71 = .ok (.iinc 2 1, 3) := by decide +kernel
theorem dX2_copyFrom_74 : decode cX2_copyFrom 74 = .ok (.goto (-24), 3) := by decide +kernel
theorem dX2_copyFrom_77 : decode cX2_copyFrom 77 = .ok (.iconst 0, 1) := by decide +kernel
theorem dX2_copyFrom_78 : decode cX2_copyFrom 78 = .ok (.istore_n 2, 1) := by decide +kernel
theorem dX2_copyFrom_79 : decode cX2_copyFrom 79 = .ok (.iload_n 2, 1) := by decide +kernel
theorem dX2_copyFrom_80 : decode cX2_copyFrom 80 = .ok (.iconst 4, 1) := by decide +kernel
theorem dX2_copyFrom_81 : decode cX2_copyFrom 81 = .ok (.if_icmp .ge 24, 3) := by decide +kernel
theorem dX2_copyFrom_84 : decode cX2_copyFrom 84 = .ok (.aload_n 0, 1) := by decide +kernel
theorem dX2_copyFrom_85 : decode cX2_copyFrom 85 = .ok (.getfield 38, 3) := by decide +kernel
theorem dX2_copyFrom_88 : decode cX2_copyFrom 88 = .ok (.iload_n 2, 1) := by decide +kernel
theorem dX2_copyFrom_89 : decode cX2_copyFrom 89 = .ok (.aaload, 1) := by decide +kernel
theorem dX2_copyFrom_90 : decode cX2_copyFrom 90 = .ok (.aload_n 1, 1) := by decide +kernel
theorem dX2_copyFrom_91 : decode cX2_copyFrom 91 = .ok (.getfield 38, 3) := by decide +kernel
theorem dX2_copyFrom_94 : decode cX2_copyFrom 94 = .ok (.iload_n 2, 1) := by decide +kernel
theorem dX2_copyFrom_95 : decode cX2_copyFrom 95 = .ok (.aaload, 1) := by decide +kernel
theorem dX2_copyFrom_96 : decode cX2_copyFrom 96 = .ok (.invokevirtual 55, 3) := by decide +kernel
theorem dX2_copyFrom_99 : decode cX2_copyFrom 99 = .ok (.iinc 2 1, 3) := by decide +kernel
theorem dX2_copyFrom_102 : decode cX2_copyFrom 102 = .ok (.goto (-23), 3) := by decide +kernel
theorem dX2_copyFrom_105 : decode cX2_copyFrom 105 = .ok (.iconst 0, 1) := by decide +kernel
theorem dX2_copyFrom_106 : decode cX2_copyFrom 106 = .ok (.istore_n 2, 1) := by decide +kernel
theorem dX2_copyFrom_107 : decode cX2_copyFrom 107 = .ok (.iload_n 2, 1) := by decide +kernel
theorem dX2_copyFrom_108 : decode cX2_copyFrom 108 = .ok (.bipush 12, 2) := by decide +kernel
theorem dX2_copyFrom_110 : decode cX2_copyFrom 110 = .ok (.if_icmp .ge 24, 3) := by decide +kernel
theorem dX2_copyFrom_113 : decode cX2_copyFrom 113 = .ok (.aload_n 0, 1) := by decide +kernel
theorem dX2_copyFrom_114 : decode cX2_copyFrom 114 = .ok (.getfield 44, 3) := by decide +kernel
theorem dX2_copyFrom_117 : decode cX2_copyFrom 117 = .ok (.iload_n 2, 1) := by decide +kernel
theorem dX2_copyFrom_118 : decode cX2_copyFrom 118 = .ok (.aaload, 1) := by decide +kernel
theorem dX2_copyFrom_119 : decode cX2_copyFrom 119 = .ok (.aload_n 1, 1) := by decide +kernel
theorem dX2_copyFrom_120 : decode cX2_copyFrom 120 = .ok (.getfield 44, 3) := by decide +kernel
theorem dX2_copyFrom_123 : decode cX2_copyFrom 123 = .ok (.iload_n 2, 1) := by decide +kernel
theorem dX2_copyFrom_124 : decode cX2_copyFrom 124 = .ok (.aaload, 1) := by decide +kernel
theorem dX2_copyFrom_125 : decode cX2_copyFrom 125 = .ok (.invokevirtual 58, 3) := by decide +kernel
theorem dX2_copyFrom_128 : decode cX2_copyFrom 128 = .ok (.iinc 2 1, 3) := by decide +kernel
theorem dX2_copyFrom_131 : decode cX2_copyFrom 131 = .ok (.goto (-24), 3) := by decide +kernel
theorem dX2_copyFrom_134 : decode cX2_copyFrom 134 = .ok (.return_, 1) := by decide +kernel
theorem dX2_hasHousehold_0 : decode cX2_hasHousehold 0 = .ok (.iload_n 1, 1) := by decide +kernel
theorem dX2_hasHousehold_1 : decode cX2_hasHousehold 1 = .ok (.iconst 0, 1) := by decide +kernel
theorem dX2_hasHousehold_2 : decode cX2_hasHousehold 2 = .ok (.aload_n 0, 1) := by decide +kernel
theorem dX2_hasHousehold_3 : decode cX2_hasHousehold 3 = .ok (.getfield 21, 3) := by decide +kernel
theorem dX2_hasHousehold_6 : decode cX2_hasHousehold 6 = .ok (.iconst 1, 1) := by decide +kernel
theorem dX2_hasHousehold_7 : decode cX2_hasHousehold 7 = .ok (.isub, 1) := by decide +kernel
theorem dX2_hasHousehold_8 : decode cX2_hasHousehold 8 = .ok (.invokestatic 61, 3) := by decide +kernel
theorem dX2_hasHousehold_11 : decode cX2_hasHousehold 11 = .ok (.ireturn, 1) := by decide +kernel
theorem dX2_hasBank_0 : decode cX2_hasBank 0 = .ok (.iload_n 1, 1) := by decide +kernel
theorem dX2_hasBank_1 : decode cX2_hasBank 1 = .ok (.iconst 0, 1) := by decide +kernel
theorem dX2_hasBank_2 : decode cX2_hasBank 2 = .ok (.aload_n 0, 1) := by decide +kernel
theorem dX2_hasBank_3 : decode cX2_hasBank 3 = .ok (.getfield 24, 3) := by decide +kernel
theorem dX2_hasBank_6 : decode cX2_hasBank 6 = .ok (.iconst 1, 1) := by decide +kernel
theorem dX2_hasBank_7 : decode cX2_hasBank 7 = .ok (.isub, 1) := by decide +kernel
theorem dX2_hasBank_8 : decode cX2_hasBank 8 = .ok (.invokestatic 61, 3) := by decide +kernel
theorem dX2_hasBank_11 : decode cX2_hasBank 11 = .ok (.ireturn, 1) := by decide +kernel
theorem dX2_hasStack_0 : decode cX2_hasStack 0 = .ok (.iload_n 1, 1) := by decide +kernel
theorem dX2_hasStack_1 : decode cX2_hasStack 1 = .ok (.iconst 0, 1) := by decide +kernel
theorem dX2_hasStack_2 : decode cX2_hasStack 2 = .ok (.aload_n 0, 1) := by decide +kernel
theorem dX2_hasStack_3 : decode cX2_hasStack 3 = .ok (.getfield 27, 3) := by decide +kernel
theorem dX2_hasStack_6 : decode cX2_hasStack 6 = .ok (.iconst 1, 1) := by decide +kernel
theorem dX2_hasStack_7 : decode cX2_hasStack 7 = .ok (.isub, 1) := by decide +kernel
theorem dX2_hasStack_8 : decode cX2_hasStack 8 = .ok (.invokestatic 61, 3) := by decide +kernel
theorem dX2_hasStack_11 : decode cX2_hasStack 11 = .ok (.ireturn, 1) := by decide +kernel
theorem dX2_addHousehold_0 : decode cX2_addHousehold 0 = .ok (.iload_n 1, 1) := by decide +kernel
theorem dX2_addHousehold_1 : decode cX2_addHousehold 1 = .ok (.iconst 1, 1) := by decide +kernel
theorem dX2_addHousehold_2 : decode cX2_addHousehold 2 = .ok (.bipush 9, 2) := by decide +kernel
theorem dX2_addHousehold_4 : decode cX2_addHousehold 4 = .ok (.invokestatic 61, 3) := by decide +kernel
theorem dX2_addHousehold_7 : decode cX2_addHousehold 7 = .ok (.ifCond .ne 5, 3) := by decide +kernel
theorem dX2_addHousehold_10 : decode cX2_addHousehold 10 = .ok (.iconst (-1), 1) := by decide +kernel
theorem dX2_addHousehold_11 : decode cX2_addHousehold 11 = .ok (.ireturn, 1) := by decide +kernel
theorem dX2_addHousehold_12 : decode cX2_addHousehold 12 = .ok (.aload_n 0, 1) := by decide +kernel
theorem dX2_addHousehold_13 : decode cX2_addHousehold 13 = .ok (.getfield 21, 3) := by decide +kernel
theorem dX2_addHousehold_16 : decode cX2_addHousehold 16 = .ok (.bipush 6, 2) := by decide +kernel
theorem dX2_addHousehold_18 : decode cX2_addHousehold 18 = .ok (.if_icmp .lt 6, 3) := by decide +kernel
theorem dX2_addHousehold_21 : decode cX2_addHousehold 21 = .ok (.bipush (-3), 2) := by decide +kernel
theorem dX2_addHousehold_23 : decode cX2_addHousehold 23 = .ok (.ireturn, 1) := by decide +kernel
theorem dX2_addHousehold_24 : decode cX2_addHousehold 24 = .ok (.aload_n 0, 1) := by decide +kernel
theorem dX2_addHousehold_25 : decode cX2_addHousehold 25 = .ok (.getfield 32, 3) := by decide +kernel
theorem dX2_addHousehold_28 : decode cX2_addHousehold 28 = .ok (.aload_n 0, 1) := by decide +kernel
theorem dX2_addHousehold_29 : decode cX2_addHousehold 29 = .ok (.getfield 21, 3) := by decide +kernel
theorem dX2_addHousehold_32 : decode cX2_addHousehold 32 = .ok (.aaload, 1) := by decide +kernel
theorem dX2_addHousehold_33 : decode cX2_addHousehold 33 = .ok (.iload_n 1, 1) := by decide +kernel
theorem dX2_addHousehold_34 : decode cX2_addHousehold 34 = .ok (.putfield 65, 3) := by decide +kernel
theorem dX2_addHousehold_37 : decode cX2_addHousehold 37 = .ok (.aload_n 0, 1) := by decide +kernel
theorem dX2_addHousehold_38 : decode cX2_addHousehold 38 = .ok (.dup, 1) := by decide +kernel
theorem dX2_addHousehold_39 : decode cX2_addHousehold 39 = .ok (.getfield 21, 3) := by decide +kernel
theorem dX2_addHousehold_42 : decode cX2_addHousehold 42 = .ok (.iconst 1, 1) := by decide +kernel
theorem dX2_addHousehold_43 : decode cX2_addHousehold 43 = .ok (.iadd, 1) := by decide +kernel
theorem dX2_addHousehold_44 : decode cX2_addHousehold 44 = .ok (.putfield 21, 3) := by decide +kernel
theorem dX2_addHousehold_47 : decode cX2_addHousehold 47 = .ok (.aload_n 0, 1) := by decide +kernel
theorem dX2_addHousehold_48 : decode cX2_addHousehold 48 = .ok (.getfield 21, 3) := by decide +kernel
theorem dX2_addHousehold_51 : decode cX2_addHousehold 51 = .ok (.iconst 1, 1) := by decide +kernel
theorem dX2_addHousehold_52 : decode cX2_addHousehold 52 = .ok (.isub, 1) := by decide +kernel
theorem dX2_addHousehold_53 : decode cX2_addHousehold 53 = .ok (.ireturn, 1) := by decide +kernel
theorem dX2_changeSpades_0 : decode cX2_changeSpades 0 = .ok (.aload_n 0, 1) := by decide +kernel
theorem dX2_changeSpades_1 : decode cX2_changeSpades 1 = .ok (.iload_n 1, 1) := by decide +kernel
theorem dX2_changeSpades_2 : decode cX2_changeSpades 2 = .ok (.invokevirtual 68, 3) := by decide +kernel
theorem dX2_changeSpades_5 : decode cX2_changeSpades 5 = .ok (.ifCond .eq 13, 3) := by decide +kernel
theorem dX2_changeSpades_8 : decode cX2_changeSpades 8 = .ok (.iload_n 2, 1) := by decide +kernel
theorem dX2_changeSpades_9 : decode cX2_changeSpades 9 = .ok (.iconst 1, 1) := by decide +kernel
theorem dX2_changeSpades_10 : decode cX2_changeSpades 10 = .ok (.bipush 9, 2) := by decide +kernel
theorem dX2_changeSpades_12 : decode cX2_changeSpades 12 = .ok (.invokestatic 61, 3) := by decide +kernel
theorem dX2_changeSpades_15 : decode cX2_changeSpades 15 = .ok (.ifCond .ne 5, 3) := by decide +kernel
theorem dX2_changeSpades_18 : decode cX2_changeSpades 18 = .ok (.iconst (-1), 1) := by decide +kernel
theorem dX2_changeSpades_19 : decode cX2_changeSpades 19 = .ok (.ireturn, 1) := by decide +kernel
theorem dX2_changeSpades_20 : decode cX2_changeSpades 20 = .ok (.aload_n 0, 1) := by decide +kernel
theorem dX2_changeSpades_21 : decode cX2_changeSpades 21 = .ok (.getfield 32, 3) := by decide +kernel
theorem dX2_changeSpades_24 : decode cX2_changeSpades 24 = .ok (.iload_n 1, 1) := by decide +kernel
theorem dX2_changeSpades_25 : decode cX2_changeSpades 25 = .ok (.aaload, 1) := by decide +kernel
theorem dX2_changeSpades_26 : decode cX2_changeSpades 26 = .ok (.getfield 65, 3) := by decide +kernel
theorem dX2_changeSpades_29 : decode cX2_changeSpades 29 = .ok (.istore_n 3, 1) := by decide +kernel
theorem dX2_changeSpades_30 : decode cX2_changeSpades 30 = .ok (.aload_n 0, 1) := by decide +kernel
theorem dX2_changeSpades_31 : decode cX2_changeSpades 31 = .ok (.getfield 32, 3) := by decide +kernel
theorem dX2_changeSpades_34 : decode cX2_changeSpades 34 = .ok (.iload_n 1, 1) := by decide +kernel
theorem dX2_changeSpades_35 : decode cX2_changeSpades 35 = .ok (.aaload, 1) := by decide +kernel
theorem dX2_changeSpades_36 : decode cX2_changeSpades 36 = .ok (.iload_n 2, 1) := by decide +kernel
theorem dX2_changeSpades_37 : decode cX2_changeSpades 37 = .ok (.putfield 65, 3) := by decide +kernel
theorem dX2_changeSpades_40 : decode cX2_changeSpades 40 = .ok (.iload_n 3, 1) := by decide +kernel
theorem dX2_changeSpades_41 : decode cX2_changeSpades 41 = .ok (.ireturn, 1) := by decide +kernel
theorem dX2_openBank_0 : decode cX2_openBank 0 = .ok (.iload_n 1, 1) := by decide +kernel
theorem dX2_openBank_1 : decode cX2_openBank 1 = .ok (.iconst 0, 1) := by decide +kernel
theorem dX2_openBank_2 : decode cX2_openBank 2 = .ok (.sipush 5000, 3) := by decide +kernel
theorem dX2_openBank_5 : decode cX2_openBank 5 = .ok (.invokestatic 61, 3) := by decide +kernel
theorem dX2_openBank_8 : decode cX2_openBank 8 = .ok (.ifCond .eq 15, 3) := by decide +kernel
theorem dX2_openBank_11 : decode cX2_openBank 11 = .ok (.iload_n 2, 1) := by decide +kernel
theorem dX2_openBank_12 : decode cX2_openBank 12 = .ok (.bipush 100, 2) := by decide +kernel
theorem dX2_openBank_14 : decode cX2_openBank 14 = .ok (.sipush 3000, 3) := by decide +kernel
theorem dX2_openBank_17 : decode cX2_openBank 17 = .ok (.invokestatic 61, 3) := by decide +kernel
theorem dX2_openBank_20 : decode cX2_openBank 20 = .ok (.ifCond .ne 5, 3) := by decide +kernel
theorem dX2_openBank_23 : decode cX2_openBank 23 = .ok (.iconst (-1), 1) := by decide +kernel
theorem dX2_openBank_24 : decode cX2_openBank 24 = .ok (.ireturn, 1) := by decide +kernel
theorem dX2_openBank_25 : decode cX2_openBank 25 = .ok (.aload_n 0, 1) := by decide +kernel
theorem dX2_openBank_26 : decode cX2_openBank 26 = .ok (.getfield 24, 3) := by decide +kernel
theorem dX2_openBank_29 : decode cX2_openBank 29 = .ok (.iconst 4, 1) := by decide +kernel
theorem dX2_openBank_30 : decode cX2_openBank 30 = .ok (.if_icmp .lt 6, 3) := by decide +kernel
theorem dX2_openBank_33 : decode cX2_openBank 33 = .ok (.bipush (-3), 2) := by decide +kernel
theorem dX2_openBank_35 : decode cX2_openBank 35 = .ok (.ireturn, 1) := by decide +kernel
theorem dX2_openBank_36 : decode cX2_openBank 36 = .ok (.aload_n 0, 1) := by decide +kernel
theorem dX2_openBank_37 : decode cX2_openBank 37 = .ok (.getfield 38, 3) := by decide +kernel
theorem dX2_openBank_40 : decode cX2_openBank 40 = .ok (.aload_n 0, 1) := by decide +kernel
theorem dX2_openBank_41 : decode cX2_openBank 41 = .ok (.getfield 24, 3) := by decide +kernel
theorem dX2_openBank_44 : decode cX2_openBank 44 = .ok (.aaload, 1) := by decide +kernel
theorem dX2_openBank_45 : decode cX2_openBank 45 = .ok (.iload_n 1, 1) := by decide +kernel
theorem dX2_openBank_46 : decode cX2_openBank 46 = .ok (.putfield 72, 3) := by decide +kernel
theorem dX2_openBank_49 : decode cX2_openBank 49 = .ok (.aload_n 0, 1) := by decide +kernel
theorem dX2_openBank_50 : decode cX2_openBank 50 = .ok (.getfield 38, 3) := by decide +kernel
theorem dX2_openBank_53 : decode cX2_openBank 53 = .ok (.aload_n 0, 1) := by decide +kernel
theorem dX2_openBank_54 : decode cX2_openBank 54 = .ok (.getfield 24, 3) := by decide +kernel
theorem dX2_openBank_57 : decode cX2_openBank 57 = .ok (.aaload, 1) := by decide +kernel
theorem dX2_openBank_58 : decode cX2_openBank 58 = .ok (.iload_n 2, 1) := by decide +kernel
theorem dX2_openBank_59 : decode cX2_openBank 59 = .ok (.putfield 75, 3) := by decide +kernel
theorem dX2_openBank_62 : decode cX2_openBank 62 = .ok (.aload_n 0, 1) := by decide +kernel
theorem dX2_openBank_63 : decode cX2_openBank 63 = .ok (.dup, 1) := by decide +kernel
theorem dX2_openBank_64 : decode cX2_openBank 64 = .ok (.getfield 24, 3) := by decide +kernel
theorem dX2_openBank_67 : decode cX2_openBank 67 = .ok (.iconst 1, 1) := by decide +kernel
theorem dX2_openBank_68 : decode cX2_openBank 68 = .ok (.iadd, 1) := by decide +kernel
theorem dX2_openBank_69 : decode cX2_openBank 69 = .ok (.putfield 24, 3) := by decide +kernel
theorem dX2_openBank_72 : decode cX2_openBank 72 = .ok (.aload_n 0, 1) := by decide +kernel
theorem dX2_openBank_73 : decode cX2_openBank 73 = .ok (.getfield 24, 3) := by decide +kernel
theorem dX2_openBank_76 : decode cX2_openBank 76 = .ok (.iconst 1, 1) := by decide +kernel
theorem dX2_openBank_77 : decode cX2_openBank 77 = .ok (.isub, 1) := by decide +kernel
theorem dX2_openBank_78 : decode cX2_openBank 78 = .ok (.ireturn, 1) := by decide +kernel
theorem dX2_changeAllowance_0 : decode cX2_changeAllowance 0 = .ok (.aload_n 0, 1) := by decide +kernel
theorem dX2_changeAllowance_1 : decode cX2_changeAllowance 1 = .ok (.iload_n 1, 1) := by decide +kernel
theorem dX2_changeAllowance_2 : decode cX2_changeAllowance 2 = .ok (.invokevirtual 78, 3) := by decide +kernel
theorem dX2_changeAllowance_5 : decode cX2_changeAllowance 5 = .ok (.ifCond .eq 14, 3) := by decide +kernel
theorem dX2_changeAllowance_8 : decode cX2_changeAllowance 8 = .ok (.iload_n 2, 1) := by decide +kernel
theorem dX2_changeAllowance_9 : decode cX2_changeAllowance 9 = .ok (.iconst 0, 1) := by decide +kernel
theorem dX2_changeAllowance_10 : decode cX2_changeAllowance 10 = .ok (.sipush 5000, 3) := by decide +kernel
theorem dX2_changeAllowance_13 : decode cX2_changeAllowance 13 = .ok (.invokestatic 61, 3) := by decide +kernel
theorem dX2_changeAllowance_16 : decode cX2_changeAllowance 16 = .ok (.ifCond .ne 5, 3) := by decide +kernel
theorem dX2_changeAllowance_19 : decode cX2_changeAllowance 19 = .ok (.iconst (-1), 1) := by decide +kernel
theorem dX2_changeAllowance_20 : decode cX2_changeAllowance 20 = .ok (.ireturn, 1) := by decide +kernel
theorem dX2_changeAllowance_21 : decode cX2_changeAllowance 21 = .ok (.aload_n 0, 1) := by decide +kernel
theorem dX2_changeAllowance_22 : decode cX2_changeAllowance 22 = .ok (.getfield 38, 3) := by decide +kernel
theorem dX2_changeAllowance_25 : decode cX2_changeAllowance 25 = .ok (.iload_n 1, 1) := by decide +kernel
theorem dX2_changeAllowance_26 : decode cX2_changeAllowance 26 = .ok (.aaload, 1) := by decide +kernel
theorem dX2_changeAllowance_27 : decode cX2_changeAllowance 27 = .ok (.getfield 72, 3) := by decide +kernel
theorem dX2_changeAllowance_30 : decode cX2_changeAllowance 30 = .ok (.istore_n 3, 1) := by decide +kernel
theorem dX2_changeAllowance_31 : decode cX2_changeAllowance 31 = .ok (.aload_n 0, 1) := by decide +kernel
theorem dX2_changeAllowance_32 : decode cX2_changeAllowance 32 = .ok (.getfield 38, 3) := by decide +kernel
theorem dX2_changeAllowance_35 : decode cX2_changeAllowance 35 = .ok (.iload_n 1, 1) := by decide +kernel
theorem dX2_changeAllowance_36 : decode cX2_changeAllowance 36 = .ok (.aaload, 1) := by decide +kernel
theorem dX2_changeAllowance_37 : decode cX2_changeAllowance 37 = .ok (.iload_n 2, 1) := by decide +kernel
theorem dX2_changeAllowance_38 : decode cX2_changeAllowance 38 = .ok (.putfield 72, 3) := by decide +kernel
theorem dX2_changeAllowance_41 : decode cX2_changeAllowance 41 = .ok (.iload_n 3, 1) := by decide +kernel
theorem dX2_changeAllowance_42 : decode cX2_changeAllowance 42 = .ok (.ireturn, 1) := by decide +kernel
theorem dX2_changeRight_0 : decode cX2_changeRight 0 = .ok (.aload_n 0, 1) := by decide +kernel
theorem dX2_changeRight_1 : decode cX2_changeRight 1 = .ok (.iload_n 1, 1) := by decide +kernel
theorem dX2_changeRight_2 : decode cX2_changeRight 2 = .ok (.invokevirtual 68, 3) := by decide +kernel
theorem dX2_changeRight_5 : decode cX2_changeRight 5 = .ok (.ifCond .eq 20, 3) := by decide +kernel
theorem dX2_changeRight_8 : decode cX2_changeRight 8 = .ok (.aload_n 0, 1) := by decide +kernel
theorem dX2_changeRight_9 : decode cX2_changeRight 9 = .ok (.iload_n 2, 1) := by decide +kernel
theorem dX2_changeRight_10 : decode cX2_changeRight 10 = .ok (.invokevirtual 78, 3) := by decide +kernel
theorem dX2_changeRight_13 : decode cX2_changeRight 13 = .ok (.ifCond .eq 12, 3) := by decide +kernel
theorem dX2_changeRight_16 : decode cX2_changeRight 16 = .ok (.iload_n 3, 1) := by decide +kernel
theorem dX2_changeRight_17 : decode cX2_changeRight 17 = .ok (.iconst 0, 1) := by decide +kernel
theorem dX2_changeRight_18 : decode cX2_changeRight 18 = .ok (.iconst 1, 1) := by decide +kernel
theorem dX2_changeRight_19 : decode cX2_changeRight 19 = .ok (.invokestatic 61, 3) := by decide +kernel
theorem dX2_changeRight_22 : decode cX2_changeRight 22 = .ok (.ifCond .ne 5, 3) := by decide +kernel
theorem dX2_changeRight_25 : decode cX2_changeRight 25 = .ok (.iconst (-1), 1) := by decide +kernel
theorem dX2_changeRight_26 : decode cX2_changeRight 26 = .ok (.ireturn, 1) := by decide +kernel
theorem dX2_changeRight_27 : decode cX2_changeRight 27 = .ok (.aload_n 0, 1) := by decide +kernel
theorem dX2_changeRight_28 : decode cX2_changeRight 28 = .ok (.getfield 38, 3) := by decide +kernel
theorem dX2_changeRight_31 : decode cX2_changeRight 31 = .ok (.iload_n 2, 1) := by decide +kernel
theorem dX2_changeRight_32 : decode cX2_changeRight 32 = .ok (.aaload, 1) := by decide +kernel
theorem dX2_changeRight_33 : decode cX2_changeRight 33 = .ok (.getfield 81, 3) := by decide +kernel
theorem dX2_changeRight_36 : decode cX2_changeRight 36 = .ok (.iload_n 1, 1) := by decide +kernel
theorem dX2_changeRight_37 : decode cX2_changeRight 37 = .ok (.iload_n 3, 1) := by decide +kernel
theorem dX2_changeRight_38 : decode cX2_changeRight 38 = .ok (.iconst 1, 1) := by decide +kernel
theorem dX2_changeRight_39 : decode cX2_changeRight 39 = .ok (.if_icmp .ne 7, 3) := by decide +kernel
theorem dX2_changeRight_42 : decode cX2_changeRight 42 = .ok (.iconst 1, 1) := by decide +kernel
theorem dX2_changeRight_43 : decode cX2_changeRight 43 = .ok (.goto 4, 3) := by decide +kernel
theorem dX2_changeRight_46 : decode cX2_changeRight 46 = .ok (.iconst 0, 1) := by decide +kernel
theorem dX2_changeRight_47 : decode cX2_changeRight 47 = .ok (.bastore, 1) := by decide +kernel
theorem dX2_changeRight_48 : decode cX2_changeRight 48 = .ok (.aload_n 0, 1) := by decide +kernel
theorem dX2_changeRight_49 : decode cX2_changeRight 49 = .ok (.getfield 38, 3) := by decide +kernel
theorem dX2_changeRight_52 : decode cX2_changeRight 52 = .ok (.iload_n 2, 1) := by decide +kernel
theorem dX2_changeRight_53 : decode cX2_changeRight 53 = .ok (.aaload, 1) := by decide +kernel
theorem dX2_changeRight_54 : decode cX2_changeRight 54 = .ok (.invokevirtual 85, 3) := by decide +kernel
theorem dX2_changeRight_57 : decode cX2_changeRight 57 = .ok (.ireturn, 1) := by decide +kernel
theorem dX2_spadesAt_0 : decode cX2_spadesAt 0 = .ok (.iconst 0, 1) := by decide +kernel
theorem dX2_spadesAt_1 : decode cX2_spadesAt 1 = .ok (.istore_n 2, 1) := by decide +kernel
theorem dX2_spadesAt_2 : decode cX2_spadesAt 2 = .ok (.iconst 0, 1) := by decide +kernel
theorem dX2_spadesAt_3 : decode cX2_spadesAt 3 = .ok (.istore_n 3, 1) := by decide +kernel
theorem dX2_spadesAt_4 : decode cX2_spadesAt 4 = .ok (.iload_n 3, 1) := by decide +kernel
theorem dX2_spadesAt_5 : decode cX2_spadesAt 5 = .ok (.aload_n 0, 1) := by decide +kernel
theorem dX2_spadesAt_6 : decode cX2_spadesAt 6 = .ok (.getfield 21, 3) := by decide +kernel
theorem dX2_spadesAt_9 : decode cX2_spadesAt 9 = .ok (.if_icmp .ge 30, 3) := by decide +kernel
theorem dX2_spadesAt_12 : decode cX2_spadesAt 12 = .ok (.aload_n 1, 1) := by decide +kernel
theorem dX2_spadesAt_13 : decode cX2_spadesAt 13 = .ok (.getfield 81, 3) := by decide +kernel
theorem dX2_spadesAt_16 : decode cX2_spadesAt 16 = .ok (.iload_n 3, 1) := by decide +kernel
theorem dX2_spadesAt_17 : decode cX2_spadesAt 17 = .ok (.baload, 1) := by decide +kernel
theorem dX2_spadesAt_18 : decode cX2_spadesAt 18 = .ok (.ifCond .eq 15, 3) := by decide +kernel
theorem dX2_spadesAt_21 : decode cX2_spadesAt 21 = .ok (.iload_n 2, 1) := by decide +kernel
theorem dX2_spadesAt_22 : decode cX2_spadesAt 22 = .ok (.aload_n 0, 1) := by decide +kernel
theorem dX2_spadesAt_23 : decode cX2_spadesAt 23 = .ok (.getfield 32, 3) := by decide +kernel
theorem dX2_spadesAt_26 : decode cX2_spadesAt 26 = .ok (.iload_n 3, 1) := by decide +kernel
theorem dX2_spadesAt_27 : decode cX2_spadesAt 27 = .ok (.aaload, 1) := by decide +kernel
theorem dX2_spadesAt_28 : decode cX2_spadesAt 28 = .ok (.getfield 65, 3) := by decide +kernel
theorem dX2_spadesAt_31 : decode cX2_spadesAt 31 = .ok (.iadd, 1) := by decide +kernel
theorem dX2_spadesAt_32 : decode cX2_spadesAt 32 = .ok (.istore_n 2, 1) := by decide +kernel
theorem dX2_spadesAt_33 : decode cX2_spadesAt 33 = .ok (.iinc 3 1, 3) := by decide +kernel
theorem dX2_spadesAt_36 : decode cX2_spadesAt 36 = .ok (.goto (-32), 3) := by decide +kernel
theorem dX2_spadesAt_39 : decode cX2_spadesAt 39 = .ok (.iload_n 2, 1) := by decide +kernel
theorem dX2_spadesAt_40 : decode cX2_spadesAt 40 = .ok (.ireturn, 1) := by decide +kernel
theorem dX2_shareOf_0 : decode cX2_shareOf 0 = .ok (.aload_n 0, 1) := by decide +kernel
theorem dX2_shareOf_1 : decode cX2_shareOf 1 = .ok (.aload_n 2, 1) := by decide +kernel
theorem dX2_shareOf_2 : decode cX2_shareOf 2 = .ok (.invokevirtual 89, 3) := by decide +kernel
theorem dX2_shareOf_5 : decode cX2_shareOf 5 = .ok (.istore_n 3, 1) := by decide +kernel
theorem dX2_shareOf_6 : decode cX2_shareOf 6 = .ok (.aload_n 2, 1) := by decide +kernel
theorem dX2_shareOf_7 : decode cX2_shareOf 7 = .ok (.getfield 81, 3) := by decide +kernel
theorem dX2_shareOf_10 : decode cX2_shareOf 10 = .ok (.iload_n 1, 1) := by decide +kernel
theorem dX2_shareOf_11 : decode cX2_shareOf 11 = .ok (.baload, 1) := by decide +kernel
theorem dX2_shareOf_12 : decode cX2_shareOf 12 = .ok (.ifCond .eq 7, 3) := by decide +kernel
theorem dX2_shareOf_15 : decode cX2_shareOf 15 = .ok (.iload_n 3, 1) := by decide +kernel
theorem dX2_shareOf_16 : decode cX2_shareOf 16 = .ok (.ifCond .gt 5, 3) := by decide +kernel
theorem dX2_shareOf_19 : decode cX2_shareOf 19 = .ok (.iconst 0, 1) := by decide +kernel
theorem dX2_shareOf_20 : decode cX2_shareOf 20 = .ok (.ireturn, 1) := by decide +kernel
theorem dX2_shareOf_21 : decode cX2_shareOf 21 = .ok (.aload_n 2, 1) := by decide +kernel
theorem dX2_shareOf_22 : decode cX2_shareOf 22 = .ok (.getfield 72, 3) := by decide +kernel
theorem dX2_shareOf_25 : decode cX2_shareOf 25 = .ok (.istore 4, 2) := by decide +kernel
theorem dX2_shareOf_27 : decode cX2_shareOf 27 = .ok (.iconst 0, 1) := by decide +kernel
theorem dX2_shareOf_28 : decode cX2_shareOf 28 = .ok (.istore 5, 2) := by decide +kernel
theorem dX2_shareOf_30 : decode cX2_shareOf 30 = .ok (.iconst 0, 1) := by decide +kernel
theorem dX2_shareOf_31 : decode cX2_shareOf 31 = .ok (.istore 6, 2) := by decide +kernel
theorem dX2_shareOf_33 : decode cX2_shareOf 33 = .ok (.iload 6, 2) := by decide +kernel
theorem dX2_shareOf_35 : decode cX2_shareOf 35 = .ok (.aload_n 0, 1) := by decide +kernel
theorem dX2_shareOf_36 : decode cX2_shareOf 36 = .ok (.getfield 21, 3) := by decide +kernel
theorem dX2_shareOf_39 : decode cX2_shareOf 39 = .ok (.if_icmp .ge 50, 3) := by decide +kernel
theorem dX2_shareOf_42 : decode cX2_shareOf 42 = .ok (.aload_n 2, 1) := by decide +kernel
theorem dX2_shareOf_43 : decode cX2_shareOf 43 = .ok (.getfield 81, 3) := by decide +kernel
theorem dX2_shareOf_46 : decode cX2_shareOf 46 = .ok (.iload 6, 2) := by decide +kernel
theorem dX2_shareOf_48 : decode cX2_shareOf 48 = .ok (.baload, 1) := by decide +kernel
theorem dX2_shareOf_49 : decode cX2_shareOf 49 = .ok (.ifCond .eq 34, 3) := by decide +kernel
theorem dX2_shareOf_52 : decode cX2_shareOf 52 = .ok (.iload 4, 2) := by decide +kernel
theorem dX2_shareOf_54 : decode cX2_shareOf 54 = .ok (.aload_n 2, 1) := by decide +kernel
theorem dX2_shareOf_55 : decode cX2_shareOf 55 = .ok (.getfield 72, 3) := by decide +kernel
theorem dX2_shareOf_58 : decode cX2_shareOf 58 = .ok (.aload_n 0, 1) := by decide +kernel
theorem dX2_shareOf_59 : decode cX2_shareOf 59 = .ok (.getfield 32, 3) := by decide +kernel
theorem dX2_shareOf_62 : decode cX2_shareOf 62 = .ok (.iload 6, 2) := by decide +kernel
theorem dX2_shareOf_64 : decode cX2_shareOf 64 = .ok (.aaload, 1) := by decide +kernel
theorem dX2_shareOf_65 : decode cX2_shareOf 65 = .ok (.getfield 65, 3) := by decide +kernel
theorem dX2_shareOf_68 : decode cX2_shareOf 68 = .ok (.imul, 1) := by decide +kernel
theorem dX2_shareOf_69 : decode cX2_shareOf 69 = .ok (.iload_n 3, 1) := by decide +kernel
theorem dX2_shareOf_70 : decode cX2_shareOf 70 = .ok (.idiv, 1) := by decide +kernel
theorem dX2_shareOf_71 : decode cX2_shareOf 71 = .ok (.isub, 1) := by decide +kernel
theorem dX2_shareOf_72 : decode cX2_shareOf 72 = .ok (.istore 4, 2) := by decide +kernel
theorem dX2_shareOf_74 : decode cX2_shareOf 74 = .ok (.iload 6, 2) := by decide +kernel
theorem dX2_shareOf_76 : decode cX2_shareOf 76 = .ok (.iload_n 1, 1) := by decide +kernel
theorem dX2_shareOf_77 : decode cX2_shareOf 77 = .ok (.if_icmp .ge 6, 3) := by decide +kernel
theorem dX2_shareOf_80 : decode cX2_shareOf 80 = .ok (.iinc 5 1, 3) := by decide +kernel
theorem dX2_shareOf_83 : decode cX2_shareOf 83 = .ok (.iinc 6 1, 3) := by decide +kernel
theorem dX2_shareOf_86 : decode cX2_shareOf 86 = .ok (.goto (-53), 3) := by decide +kernel
theorem dX2_shareOf_89 : decode cX2_shareOf 89 = .ok (.aload_n 2, 1) := by decide +kernel
theorem dX2_shareOf_90 : decode cX2_shareOf 90 = .ok (.getfield 72, 3) := by decide +kernel
theorem dX2_shareOf_93 : decode cX2_shareOf 93 = .ok (.aload_n 0, 1) := by decide +kernel
theorem dX2_shareOf_94 : decode cX2_shareOf 94 = .ok (.getfield 32, 3) := by decide +kernel
theorem dX2_shareOf_97 : decode cX2_shareOf 97 = .ok (.iload_n 1, 1) := by decide +kernel
theorem dX2_shareOf_98 : decode cX2_shareOf 98 = .ok (.aaload, 1) := by decide +kernel
theorem dX2_shareOf_99 : decode cX2_shareOf 99 = .ok (.getfield 65, 3) := by decide +kernel
theorem dX2_shareOf_102 : decode cX2_shareOf 102 = .ok (.imul, 1) := by decide +kernel
theorem dX2_shareOf_103 : decode cX2_shareOf 103 = .ok (.iload_n 3, 1) := by decide +kernel
theorem dX2_shareOf_104 : decode cX2_shareOf 104 = .ok (.idiv, 1) := by decide +kernel
theorem dX2_shareOf_105 : decode cX2_shareOf 105 = .ok (.istore 6, 2) := by decide +kernel
theorem dX2_shareOf_107 : decode cX2_shareOf 107 = .ok (.iload 5, 2) := by decide +kernel
theorem dX2_shareOf_109 : decode cX2_shareOf 109 = .ok (.iload 4, 2) := by decide +kernel
theorem dX2_shareOf_111 : decode cX2_shareOf 111 = .ok (.if_icmp .ge 10, 3) := by decide +kernel
theorem dX2_shareOf_114 : decode cX2_shareOf 114 = .ok (.iload 6, 2) := by decide +kernel
theorem dX2_shareOf_116 : decode cX2_shareOf 116 = .ok (.iconst 1, 1) := by decide +kernel
theorem dX2_shareOf_117 : decode cX2_shareOf 117 = .ok (.iadd, 1) := by decide +kernel
theorem dX2_shareOf_118 : decode cX2_shareOf 118 = .ok (.goto 5, 3) := by decide +kernel
theorem dX2_shareOf_121 : decode cX2_shareOf 121 = .ok (.iload 6, 2) := by decide +kernel
theorem dX2_shareOf_123 : decode cX2_shareOf 123 = .ok (.ireturn, 1) := by decide +kernel
theorem dX2_stillToCut_0 : decode cX2_stillToCut 0 = .ok (.iconst 0, 1) := by decide +kernel
theorem dX2_stillToCut_1 : decode cX2_stillToCut 1 = .ok (.aload_n 0, 1) := by decide +kernel
theorem dX2_stillToCut_2 : decode cX2_stillToCut 2 = .ok (.iload_n 1, 1) := by decide +kernel
theorem dX2_stillToCut_3 : decode cX2_stillToCut 3 = .ok (.aload_n 2, 1) := by decide +kernel
theorem dX2_stillToCut_4 : decode cX2_stillToCut 4 = .ok (.invokevirtual 93, 3) := by decide +kernel
theorem dX2_stillToCut_7 : decode cX2_stillToCut 7 = .ok (.aload_n 2, 1) := by decide +kernel
theorem dX2_stillToCut_8 : decode cX2_stillToCut 8 = .ok (.getfield 97, 3) := by decide +kernel
theorem dX2_stillToCut_11 : decode cX2_stillToCut 11 = .ok (.iload_n 1, 1) := by decide +kernel
theorem dX2_stillToCut_12 : decode cX2_stillToCut 12 = .ok (.iaload, 1) := by decide +kernel
theorem dX2_stillToCut_13 : decode cX2_stillToCut 13 = .ok (.isub, 1) := by decide +kernel
theorem dX2_stillToCut_14 : decode cX2_stillToCut 14 = .ok (.invokestatic 101, 3) := by decide +kernel
theorem dX2_stillToCut_17 : decode cX2_stillToCut 17 = .ok (.ireturn, 1) := by decide +kernel
theorem dX2_rightPart_0 : decode cX2_rightPart 0 = .ok (.aload_n 0, 1) := by decide +kernel
theorem dX2_rightPart_1 : decode cX2_rightPart 1 = .ok (.iload_n 1, 1) := by decide +kernel
theorem dX2_rightPart_2 : decode cX2_rightPart 2 = .ok (.invokevirtual 68, 3) := by decide +kernel
theorem dX2_rightPart_5 : decode cX2_rightPart 5 = .ok (.ifCond .eq 11, 3) := by decide +kernel
theorem dX2_rightPart_8 : decode cX2_rightPart 8 = .ok (.aload_n 0, 1) := by decide +kernel
theorem dX2_rightPart_9 : decode cX2_rightPart 9 = .ok (.iload_n 2, 1) := by decide +kernel
theorem dX2_rightPart_10 : decode cX2_rightPart 10 = .ok (.invokevirtual 78, 3) := by decide +kernel
theorem dX2_rightPart_13 : decode cX2_rightPart 13 = .ok (.ifCond .ne 5, 3) := by decide +kernel
theorem dX2_rightPart_16 : decode cX2_rightPart 16 = .ok (.iconst (-1), 1) := by decide +kernel
theorem dX2_rightPart_17 : decode cX2_rightPart 17 = .ok (.ireturn, 1) := by decide +kernel
theorem dX2_rightPart_18 : decode cX2_rightPart 18 = .ok (.iload_n 3, 1) := by decide +kernel
theorem dX2_rightPart_19 : decode cX2_rightPart 19 = .ok (.tableswitch 61 0 2 #[25, 37, 49], 25) := by decide +kernel
theorem dX2_rightPart_44 : decode cX2_rightPart 44 = .ok (.aload_n 0, 1) := by decide +kernel
theorem dX2_rightPart_45 : decode cX2_rightPart 45 = .ok (.iload_n 1, 1) := by decide +kernel
theorem dX2_rightPart_46 : decode cX2_rightPart 46 = .ok (.aload_n 0, 1) := by decide +kernel
theorem dX2_rightPart_47 : decode cX2_rightPart 47 = .ok (.getfield 38, 3) := by decide +kernel
theorem dX2_rightPart_50 : decode cX2_rightPart 50 = .ok (.iload_n 2, 1) := by decide +kernel
theorem dX2_rightPart_51 : decode cX2_rightPart 51 = .ok (.aaload, 1) := by decide +kernel
theorem dX2_rightPart_52 : decode cX2_rightPart 52 = .ok (.invokevirtual 93, 3) := by decide +kernel
theorem dX2_rightPart_55 : decode cX2_rightPart 55 = .ok (.ireturn, 1) := by decide +kernel
theorem dX2_rightPart_56 : decode cX2_rightPart 56 = .ok (.aload_n 0, 1) := by decide +kernel
theorem dX2_rightPart_57 : decode cX2_rightPart 57 = .ok (.getfield 38, 3) := by decide +kernel
theorem dX2_rightPart_60 : decode cX2_rightPart 60 = .ok (.iload_n 2, 1) := by decide +kernel
theorem dX2_rightPart_61 : decode cX2_rightPart 61 = .ok (.aaload, 1) := by decide +kernel
theorem dX2_rightPart_62 : decode cX2_rightPart 62 = .ok (.getfield 97, 3) := by decide +kernel
theorem dX2_rightPart_65 : decode cX2_rightPart 65 = .ok (.iload_n 1, 1) := by decide +kernel
theorem dX2_rightPart_66 : decode cX2_rightPart 66 = .ok (.iaload, 1) := by decide +kernel
theorem dX2_rightPart_67 : decode cX2_rightPart 67 = .ok (.ireturn, 1) := by decide +kernel
theorem dX2_rightPart_68 : decode cX2_rightPart 68 = .ok (.aload_n 0, 1) := by decide +kernel
theorem dX2_rightPart_69 : decode cX2_rightPart 69 = .ok (.iload_n 1, 1) := by decide +kernel
theorem dX2_rightPart_70 : decode cX2_rightPart 70 = .ok (.aload_n 0, 1) := by decide +kernel
theorem dX2_rightPart_71 : decode cX2_rightPart 71 = .ok (.getfield 38, 3) := by decide +kernel
theorem dX2_rightPart_74 : decode cX2_rightPart 74 = .ok (.iload_n 2, 1) := by decide +kernel
theorem dX2_rightPart_75 : decode cX2_rightPart 75 = .ok (.aaload, 1) := by decide +kernel
theorem dX2_rightPart_76 : decode cX2_rightPart 76 = .ok (.invokevirtual 107, 3) := by decide +kernel
theorem dX2_rightPart_79 : decode cX2_rightPart 79 = .ok (.ireturn, 1) := by decide +kernel
theorem dX2_rightPart_80 : decode cX2_rightPart 80 = .ok (.iconst (-1), 1) := by decide +kernel
theorem dX2_rightPart_81 : decode cX2_rightPart 81 = .ok (.ireturn, 1) := by decide +kernel
theorem dX2_mostToCut_0 : decode cX2_mostToCut 0 = .ok (.aload_n 0, 1) := by decide +kernel
theorem dX2_mostToCut_1 : decode cX2_mostToCut 1 = .ok (.iload_n 1, 1) := by decide +kernel
theorem dX2_mostToCut_2 : decode cX2_mostToCut 2 = .ok (.invokevirtual 78, 3) := by decide +kernel
theorem dX2_mostToCut_5 : decode cX2_mostToCut 5 = .ok (.ifCond .ne 5, 3) := by decide +kernel
theorem dX2_mostToCut_8 : decode cX2_mostToCut 8 = .ok (.iconst (-1), 1) := by decide +kernel
theorem dX2_mostToCut_9 : decode cX2_mostToCut 9 = .ok (.ireturn, 1) := by decide +kernel
theorem dX2_mostToCut_10 : decode cX2_mostToCut 10 = .ok (.bipush (-9), 2) := by decide +kernel
theorem dX2_mostToCut_12 : decode cX2_mostToCut 12 = .ok (.istore_n 2, 1) := by decide +kernel
theorem dX2_mostToCut_13 : decode cX2_mostToCut 13 = .ok (.iconst 0, 1) := by decide +kernel
theorem dX2_mostToCut_14 : decode cX2_mostToCut 14 = .ok (.istore_n 3, 1) := by decide +kernel
theorem dX2_mostToCut_15 : decode cX2_mostToCut 15 = .ok (.iconst 0, 1) := by decide +kernel
theorem dX2_mostToCut_16 : decode cX2_mostToCut 16 = .ok (.istore 4, 2) := by decide +kernel
theorem dX2_mostToCut_18 : decode cX2_mostToCut 18 = .ok (.iload 4, 2) := by decide +kernel
theorem dX2_mostToCut_20 : decode cX2_mostToCut 20 = .ok (.aload_n 0, 1) := by decide +kernel
theorem dX2_mostToCut_21 : decode cX2_mostToCut 21 = .ok (.getfield 21, 3) := by decide +kernel
theorem dX2_mostToCut_24 : decode cX2_mostToCut 24 = .ok (.if_icmp .ge 35, 3) := by decide +kernel
theorem dX2_mostToCut_27 : decode cX2_mostToCut 27 = .ok (.aload_n 0, 1) := by decide +kernel
theorem dX2_mostToCut_28 : decode cX2_mostToCut 28 = .ok (.iload 4, 2) := by decide +kernel
theorem dX2_mostToCut_30 : decode cX2_mostToCut 30 = .ok (.aload_n 0, 1) := by decide +kernel
theorem dX2_mostToCut_31 : decode cX2_mostToCut 31 = .ok (.getfield 38, 3) := by decide +kernel
theorem dX2_mostToCut_34 : decode cX2_mostToCut 34 = .ok (.iload_n 1, 1) := by decide +kernel
theorem dX2_mostToCut_35 : decode cX2_mostToCut 35 = .ok (.aaload, 1) := by decide +kernel
theorem dX2_mostToCut_36 : decode cX2_mostToCut 36 = .ok (.invokevirtual 107, 3) := by decide +kernel
theorem dX2_mostToCut_39 : decode cX2_mostToCut 39 = .ok (.istore 5, 2) := by decide +kernel
theorem dX2_mostToCut_41 : decode cX2_mostToCut 41 = .ok (.iload 5, 2) := by decide +kernel
theorem dX2_mostToCut_43 : decode cX2_mostToCut 43 = .ok (.iload_n 3, 1) := by decide +kernel
theorem dX2_mostToCut_44 : decode cX2_mostToCut 44 = .ok (.if_icmp .le 9, 3) := by decide +kernel
theorem dX2_mostToCut_47 : decode cX2_mostToCut 47 = .ok (.iload 4, 2) := by decide +kernel
theorem dX2_mostToCut_49 : decode cX2_mostToCut 49 = .ok (.istore_n 2, 1) := by decide +kernel
theorem dX2_mostToCut_50 : decode cX2_mostToCut 50 = .ok (.iload 5, 2) := by decide +kernel
theorem dX2_mostToCut_52 : decode cX2_mostToCut 52 = .ok (.istore_n 3, 1) := by decide +kernel
theorem dX2_mostToCut_53 : decode cX2_mostToCut 53 = .ok (.iinc 4 1, 3) := by decide +kernel
theorem dX2_mostToCut_56 : decode cX2_mostToCut 56 = .ok (.goto (-38), 3) := by decide +kernel
theorem dX2_mostToCut_59 : decode cX2_mostToCut 59 = .ok (.iload_n 2, 1) := by decide +kernel
theorem dX2_mostToCut_60 : decode cX2_mostToCut 60 = .ok (.ireturn, 1) := by decide +kernel
theorem dX2_cutTurfs_0 : decode cX2_cutTurfs 0 = .ok (.aload_n 0, 1) := by decide +kernel
theorem dX2_cutTurfs_1 : decode cX2_cutTurfs 1 = .ok (.iload_n 1, 1) := by decide +kernel
theorem dX2_cutTurfs_2 : decode cX2_cutTurfs 2 = .ok (.invokevirtual 68, 3) := by decide +kernel
theorem dX2_cutTurfs_5 : decode cX2_cutTurfs 5 = .ok (.ifCond .eq 22, 3) := by decide +kernel
theorem dX2_cutTurfs_8 : decode cX2_cutTurfs 8 = .ok (.aload_n 0, 1) := by decide +kernel
theorem dX2_cutTurfs_9 : decode cX2_cutTurfs 9 = .ok (.iload_n 2, 1) := by decide +kernel
theorem dX2_cutTurfs_10 : decode cX2_cutTurfs 10 = .ok (.invokevirtual 78, 3) := by decide +kernel
theorem dX2_cutTurfs_13 : decode cX2_cutTurfs 13 = .ok (.ifCond .eq 14, 3) := by decide +kernel
theorem dX2_cutTurfs_16 : decode cX2_cutTurfs 16 = .ok (.iload_n 3, 1) := by decide +kernel
theorem dX2_cutTurfs_17 : decode cX2_cutTurfs 17 = .ok (.iconst 1, 1) := by decide +kernel
theorem dX2_cutTurfs_18 : decode cX2_cutTurfs 18 = .ok (.sipush 1000, 3) := by decide +kernel
theorem dX2_cutTurfs_21 : decode cX2_cutTurfs 21 = .ok (.invokestatic 61, 3) := by decide +kernel
theorem dX2_cutTurfs_24 : decode cX2_cutTurfs 24 = .ok (.ifCond .ne 5, 3) := by decide +kernel
theorem dX2_cutTurfs_27 : decode cX2_cutTurfs 27 = .ok (.iconst (-1), 1) := by decide +kernel
theorem dX2_cutTurfs_28 : decode cX2_cutTurfs 28 = .ok (.ireturn, 1) := by decide +kernel
theorem dX2_cutTurfs_29 : decode cX2_cutTurfs 29 = .ok (.aload_n 0, 1) := by decide +kernel
theorem dX2_cutTurfs_30 : decode cX2_cutTurfs 30 = .ok (.getfield 38, 3) := by decide +kernel
theorem dX2_cutTurfs_33 : decode cX2_cutTurfs 33 = .ok (.iload_n 2, 1) := by decide +kernel
theorem dX2_cutTurfs_34 : decode cX2_cutTurfs 34 = .ok (.aaload, 1) := by decide +kernel
theorem dX2_cutTurfs_35 : decode cX2_cutTurfs 35 = .ok (.astore 4, 2) := by decide +kernel
theorem dX2_cutTurfs_37 : decode cX2_cutTurfs 37 = .ok (.aload 4, 2) := by decide +kernel
theorem dX2_cutTurfs_39 : decode cX2_cutTurfs 39 = .ok (.getfield 97, 3) := by decide +kernel
theorem dX2_cutTurfs_42 : decode cX2_cutTurfs 42 = .ok (.iload_n 1, 1) := by decide +kernel
theorem dX2_cutTurfs_43 : decode cX2_cutTurfs 43 = .ok (.iaload, 1) := by decide +kernel
theorem dX2_cutTurfs_44 : decode cX2_cutTurfs 44 = .ok (.iload_n 3, 1) := by decide +kernel
theorem dX2_cutTurfs_45 : decode cX2_cutTurfs 45 = .ok (.iadd, 1) := by decide +kernel
theorem dX2_cutTurfs_46 : decode cX2_cutTurfs 46 = .ok (.aload_n 0, 1) := by decide +kernel
theorem dX2_cutTurfs_47 : decode cX2_cutTurfs 47 = .ok (.iload_n 1, 1) := by decide +kernel
theorem dX2_cutTurfs_48 : decode cX2_cutTurfs 48 = .ok (.aload 4, 2) := by decide +kernel
theorem dX2_cutTurfs_50 : decode cX2_cutTurfs 50 = .ok (.invokevirtual 93, 3) := by decide +kernel
theorem dX2_cutTurfs_53 : decode cX2_cutTurfs 53 = .ok (.if_icmp .le 6, 3) := by decide +kernel
theorem dX2_cutTurfs_56 : decode cX2_cutTurfs 56 = .ok (.bipush (-2), 2) := by decide +kernel
theorem dX2_cutTurfs_58 : decode cX2_cutTurfs 58 = .ok (.ireturn, 1) := by decide +kernel
theorem dX2_cutTurfs_59 : decode cX2_cutTurfs 59 = .ok (.aload_n 0, 1) := by decide +kernel
theorem dX2_cutTurfs_60 : decode cX2_cutTurfs 60 = .ok (.getfield 27, 3) := by decide +kernel
theorem dX2_cutTurfs_63 : decode cX2_cutTurfs 63 = .ok (.bipush 12, 2) := by decide +kernel
theorem dX2_cutTurfs_65 : decode cX2_cutTurfs 65 = .ok (.if_icmp .lt 6, 3) := by decide +kernel
theorem dX2_cutTurfs_68 : decode cX2_cutTurfs 68 = .ok (.bipush (-3), 2) := by decide +kernel
theorem dX2_cutTurfs_70 : decode cX2_cutTurfs 70 = .ok (.ireturn, 1) := by decide +kernel
theorem dX2_cutTurfs_71 : decode cX2_cutTurfs 71 = .ok (.aload 4, 2) := by decide +kernel
theorem dX2_cutTurfs_73 : decode cX2_cutTurfs 73 = .ok (.getfield 97, 3) := by decide +kernel
theorem dX2_cutTurfs_76 : decode cX2_cutTurfs 76 = .ok (.iload_n 1, 1) := by decide +kernel
theorem dX2_cutTurfs_77 : decode cX2_cutTurfs 77 = .ok (.dup2, 1) := by decide +kernel
theorem dX2_cutTurfs_78 : decode cX2_cutTurfs 78 = .ok (.iaload, 1) := by decide +kernel
theorem dX2_cutTurfs_79 : decode cX2_cutTurfs 79 = .ok (.iload_n 3, 1) := by decide +kernel
theorem dX2_cutTurfs_80 : decode cX2_cutTurfs 80 = .ok (.iadd, 1) := by decide +kernel
theorem dX2_cutTurfs_81 : decode cX2_cutTurfs 81 = .ok (.iastore, 1) := by decide +kernel
theorem dX2_cutTurfs_82 : decode cX2_cutTurfs 82 = .ok (.aload 4, 2) := by decide +kernel
theorem dX2_cutTurfs_84 : decode cX2_cutTurfs 84 = .ok (.dup, 1) := by decide +kernel
theorem dX2_cutTurfs_85 : decode cX2_cutTurfs 85 = .ok (.getfield 110, 3) := by decide +kernel
theorem dX2_cutTurfs_88 : decode cX2_cutTurfs 88 = .ok (.iload_n 3, 1) := by decide +kernel
theorem dX2_cutTurfs_89 : decode cX2_cutTurfs 89 = .ok (.iadd, 1) := by decide +kernel
theorem dX2_cutTurfs_90 : decode cX2_cutTurfs 90 = .ok (.putfield 110, 3) := by decide +kernel
theorem dX2_cutTurfs_93 : decode cX2_cutTurfs 93 = .ok (.aload_n 0, 1) := by decide +kernel
theorem dX2_cutTurfs_94 : decode cX2_cutTurfs 94 = .ok (.getfield 44, 3) := by decide +kernel
theorem dX2_cutTurfs_97 : decode cX2_cutTurfs 97 = .ok (.aload_n 0, 1) := by decide +kernel
theorem dX2_cutTurfs_98 : decode cX2_cutTurfs 98 = .ok (.getfield 27, 3) := by decide +kernel
theorem dX2_cutTurfs_101 : decode cX2_cutTurfs 101 = .ok (.aaload, 1) := by decide +kernel
theorem dX2_cutTurfs_102 : decode cX2_cutTurfs 102 = .ok (.astore 5, 2) := by decide +kernel
theorem dX2_cutTurfs_104 : decode cX2_cutTurfs 104 = .ok (.aload 5, 2) := by decide +kernel
theorem dX2_cutTurfs_106 : decode cX2_cutTurfs 106 = .ok (.iload_n 1, 1) := by decide +kernel
theorem dX2_cutTurfs_107 : decode cX2_cutTurfs 107 = .ok (.putfield 113, 3) := by decide +kernel
theorem dX2_cutTurfs_110 : decode cX2_cutTurfs 110 = .ok (.aload 5, 2) := by decide +kernel
theorem dX2_cutTurfs_112 : decode cX2_cutTurfs 112 = .ok (.iload_n 2, 1) := by decide +kernel
theorem dX2_cutTurfs_113 : decode cX2_cutTurfs 113 = .ok (.putfield 116, 3) := by decide +kernel
theorem dX2_cutTurfs_116 : decode cX2_cutTurfs 116 = .ok (.aload 5, 2) := by decide +kernel
theorem dX2_cutTurfs_118 : decode cX2_cutTurfs 118 = .ok (.iload_n 3, 1) := by decide +kernel
theorem dX2_cutTurfs_119 : decode cX2_cutTurfs 119 = .ok (.putfield 119, 3) := by decide +kernel
theorem dX2_cutTurfs_122 : decode cX2_cutTurfs 122 = .ok (.aload 5, 2) := by decide +kernel
theorem dX2_cutTurfs_124 : decode cX2_cutTurfs 124 = .ok (.ldc 122, 2) := by decide +kernel
theorem dX2_cutTurfs_126 : decode cX2_cutTurfs 126 = .ok (.putfield 123, 3) := by decide +kernel
theorem dX2_cutTurfs_129 : decode cX2_cutTurfs 129 = .ok (.aload 5, 2) := by decide +kernel
theorem dX2_cutTurfs_131 : decode cX2_cutTurfs 131 = .ok (.iconst 0, 1) := by decide +kernel
theorem dX2_cutTurfs_132 : decode cX2_cutTurfs 132 = .ok (.putfield 126, 3) := by decide +kernel
theorem dX2_cutTurfs_135 : decode cX2_cutTurfs 135 = .ok (.aload_n 0, 1) := by decide +kernel
theorem dX2_cutTurfs_136 : decode cX2_cutTurfs 136 = .ok (.dup, 1) := by decide +kernel
theorem dX2_cutTurfs_137 : decode cX2_cutTurfs 137 = .ok (.getfield 27, 3) := by decide +kernel
theorem dX2_cutTurfs_140 : decode cX2_cutTurfs 140 = .ok (.iconst 1, 1) := by decide +kernel
theorem dX2_cutTurfs_141 : decode cX2_cutTurfs 141 = .ok (.iadd, 1) := by decide +kernel
theorem dX2_cutTurfs_142 : decode cX2_cutTurfs 142 = .ok (.putfield 27, 3) := by decide +kernel
theorem dX2_cutTurfs_145 : decode cX2_cutTurfs 145 = .ok (.aload_n 0, 1) := by decide +kernel
theorem dX2_cutTurfs_146 : decode cX2_cutTurfs 146 = .ok (.getfield 27, 3) := by decide +kernel
theorem dX2_cutTurfs_149 : decode cX2_cutTurfs 149 = .ok (.iconst 1, 1) := by decide +kernel
theorem dX2_cutTurfs_150 : decode cX2_cutTurfs 150 = .ok (.isub, 1) := by decide +kernel
theorem dX2_cutTurfs_151 : decode cX2_cutTurfs 151 = .ok (.ireturn, 1) := by decide +kernel
theorem dX2_turnStack_0 : decode cX2_turnStack 0 = .ok (.aload_n 0, 1) := by decide +kernel
theorem dX2_turnStack_1 : decode cX2_turnStack 1 = .ok (.iload_n 1, 1) := by decide +kernel
theorem dX2_turnStack_2 : decode cX2_turnStack 2 = .ok (.invokevirtual 129, 3) := by decide +kernel
theorem dX2_turnStack_5 : decode cX2_turnStack 5 = .ok (.ifCond .ne 5, 3) := by decide +kernel
theorem dX2_turnStack_8 : decode cX2_turnStack 8 = .ok (.iconst (-1), 1) := by decide +kernel
theorem dX2_turnStack_9 : decode cX2_turnStack 9 = .ok (.ireturn, 1) := by decide +kernel
theorem dX2_turnStack_10 : decode cX2_turnStack 10 = .ok (.aload_n 0, 1) := by decide +kernel
theorem dX2_turnStack_11 : decode cX2_turnStack 11 = .ok (.getfield 44, 3) := by decide +kernel
theorem dX2_turnStack_14 : decode cX2_turnStack 14 = .ok (.iload_n 1, 1) := by decide +kernel
theorem dX2_turnStack_15 : decode cX2_turnStack 15 = .ok (.aaload, 1) := by decide +kernel
theorem dX2_turnStack_16 : decode cX2_turnStack 16 = .ok (.astore_n 2, 1) := by decide +kernel
theorem dX2_turnStack_17 : decode cX2_turnStack 17 = .ok (.aload_n 2, 1) := by decide +kernel
theorem dX2_turnStack_18 : decode cX2_turnStack 18 = .ok (.getfield 126, 3) := by decide +kernel
theorem dX2_turnStack_21 : decode cX2_turnStack 21 = .ok (.iconst 3, 1) := by decide +kernel
theorem dX2_turnStack_22 : decode cX2_turnStack 22 = .ok (.if_icmp .lt 6, 3) := by decide +kernel
theorem dX2_turnStack_25 : decode cX2_turnStack 25 = .ok (.bipush (-3), 2) := by decide +kernel
theorem dX2_turnStack_27 : decode cX2_turnStack 27 = .ok (.ireturn, 1) := by decide +kernel
theorem dX2_turnStack_28 : decode cX2_turnStack 28 = .ok (.aload_n 2, 1) := by decide +kernel
theorem dX2_turnStack_29 : decode cX2_turnStack 29 = .ok (.dup, 1) := by decide +kernel
theorem dX2_turnStack_30 : decode cX2_turnStack 30 = .ok (.getfield 126, 3) := by decide +kernel
theorem dX2_turnStack_33 : decode cX2_turnStack 33 = .ok (.iconst 1, 1) := by decide +kernel
theorem dX2_turnStack_34 : decode cX2_turnStack 34 = .ok (.iadd, 1) := by decide +kernel
theorem dX2_turnStack_35 : decode cX2_turnStack 35 = .ok (.putfield 126, 3) := by decide +kernel
theorem dX2_turnStack_38 : decode cX2_turnStack 38 = .ok (.aload_n 2, 1) := by decide +kernel
theorem dX2_turnStack_39 : decode cX2_turnStack 39 = .ok (.getfield 126, 3) := by decide +kernel
theorem dX2_turnStack_42 : decode cX2_turnStack 42 = .ok (.ireturn, 1) := by decide +kernel
theorem dX2_joinStacks_0 : decode cX2_joinStacks 0 = .ok (.aload_n 0, 1) := by decide +kernel
theorem dX2_joinStacks_1 : decode cX2_joinStacks 1 = .ok (.iload_n 1, 1) := by decide +kernel
theorem dX2_joinStacks_2 : decode cX2_joinStacks 2 = .ok (.invokevirtual 129, 3) := by decide +kernel
theorem dX2_joinStacks_5 : decode cX2_joinStacks 5 = .ok (.ifCond .eq 16, 3) := by decide +kernel
theorem dX2_joinStacks_8 : decode cX2_joinStacks 8 = .ok (.aload_n 0, 1) := by decide +kernel
theorem dX2_joinStacks_9 : decode cX2_joinStacks 9 = .ok (.iload_n 2, 1) := by decide +kernel
theorem dX2_joinStacks_10 : decode cX2_joinStacks 10 = .ok (.invokevirtual 129, 3) := by decide +kernel
theorem dX2_joinStacks_13 : decode cX2_joinStacks 13 = .ok (.ifCond .eq 8, 3) := by decide +kernel
theorem dX2_joinStacks_16 : decode cX2_joinStacks 16 = .ok (.iload_n 1, 1) := by decide +kernel
theorem dX2_joinStacks_17 : decode cX2_joinStacks 17 = .ok (.iload_n 2, 1) := by decide +kernel
theorem dX2_joinStacks_18 : decode cX2_joinStacks 18 = .ok (.if_icmp .ne 5, 3) := by decide +kernel
theorem dX2_joinStacks_21 : decode cX2_joinStacks 21 = .ok (.iconst (-1), 1) := by decide +kernel
theorem dX2_joinStacks_22 : decode cX2_joinStacks 22 = .ok (.ireturn, 1) := by decide +kernel
theorem dX2_joinStacks_23 : decode cX2_joinStacks 23 = .ok (.aload_n 0, 1) := by decide +kernel
theorem dX2_joinStacks_24 : decode cX2_joinStacks 24 = .ok (.getfield 44, 3) := by decide +kernel
theorem dX2_joinStacks_27 : decode cX2_joinStacks 27 = .ok (.iload_n 1, 1) := by decide +kernel
theorem dX2_joinStacks_28 : decode cX2_joinStacks 28 = .ok (.aaload, 1) := by decide +kernel
theorem dX2_joinStacks_29 : decode cX2_joinStacks 29 = .ok (.astore_n 3, 1) := by decide +kernel
theorem dX2_joinStacks_30 : decode cX2_joinStacks 30 = .ok (.aload_n 0, 1) := by decide +kernel
theorem dX2_joinStacks_31 : decode cX2_joinStacks 31 = .ok (.getfield 44, 3) := by decide +kernel
theorem dX2_joinStacks_34 : decode cX2_joinStacks 34 = .ok (.iload_n 2, 1) := by decide +kernel
theorem dX2_joinStacks_35 : decode cX2_joinStacks 35 = .ok (.aaload, 1) := by decide +kernel
theorem dX2_joinStacks_36 : decode cX2_joinStacks 36 = .ok (.astore 4, 2) := by decide +kernel
theorem dX2_joinStacks_38 : decode cX2_joinStacks 38 = .ok (.aload_n 3, 1) := by decide +kernel
theorem dX2_joinStacks_39 : decode cX2_joinStacks 39 = .ok (.getfield 113, 3) := by decide +kernel
theorem dX2_joinStacks_42 : decode cX2_joinStacks 42 = .ok (.aload 4, 2) := by decide +kernel
theorem dX2_joinStacks_44 : decode cX2_joinStacks 44 = .ok (.getfield 113, 3) := by decide +kernel
theorem dX2_joinStacks_47 : decode cX2_joinStacks 47 = .ok (.if_icmp .ne 15, 3) := by decide +kernel
theorem dX2_joinStacks_50 : decode cX2_joinStacks 50 = .ok (.aload_n 3, 1) := by decide +kernel
theorem dX2_joinStacks_51 : decode cX2_joinStacks 51 = .ok (.getfield 116, 3) := by decide +kernel
theorem dX2_joinStacks_54 : decode cX2_joinStacks 54 = .ok (.aload 4, 2) := by decide +kernel
theorem dX2_joinStacks_56 : decode cX2_joinStacks 56 = .ok (.getfield 116, 3) := by decide +kernel
theorem dX2_joinStacks_59 : decode cX2_joinStacks 59 = .ok (.if_icmp .eq 6, 3) := by decide +kernel
theorem dX2_joinStacks_62 : decode cX2_joinStacks 62 = .ok (.bipush (-2), 2) := by decide +kernel
theorem dX2_joinStacks_64 : decode cX2_joinStacks 64 = .ok (.ireturn, 1) := by decide +kernel
theorem dX2_joinStacks_65 : decode cX2_joinStacks 65 = .ok (.aload 4, 2) := by decide +kernel
theorem dX2_joinStacks_67 : decode cX2_joinStacks 67 = .ok (.aload_n 3, 1) := by decide +kernel
theorem dX2_joinStacks_68 : decode cX2_joinStacks 68 = .ok (.invokevirtual 132, 3) := by decide +kernel
theorem dX2_joinStacks_71 : decode cX2_joinStacks 71 = .ok (.aload_n 0, 1) := by decide +kernel
theorem dX2_joinStacks_72 : decode cX2_joinStacks 72 = .ok (.iload_n 1, 1) := by decide +kernel
theorem dX2_joinStacks_73 : decode cX2_joinStacks 73 = .ok (.invokevirtual 135, 3) := by decide +kernel
theorem dX2_joinStacks_76 : decode cX2_joinStacks 76 = .ok (.aload 4, 2) := by decide +kernel
theorem dX2_joinStacks_78 : decode cX2_joinStacks 78 = .ok (.getfield 119, 3) := by decide +kernel
theorem dX2_joinStacks_81 : decode cX2_joinStacks 81 = .ok (.ireturn, 1) := by decide +kernel
theorem dX2_removeStack_0 : decode cX2_removeStack 0 = .ok (.aload_n 0, 1) := by decide +kernel
theorem dX2_removeStack_1 : decode cX2_removeStack 1 = .ok (.getfield 44, 3) := by decide +kernel
theorem dX2_removeStack_4 : decode cX2_removeStack 4 = .ok (.iload_n 1, 1) := by decide +kernel
theorem dX2_removeStack_5 : decode cX2_removeStack 5 = .ok (.aaload, 1) := by decide +kernel
theorem dX2_removeStack_6 : decode cX2_removeStack 6 = .ok (.astore_n 2, 1) := by decide +kernel
theorem dX2_removeStack_7 : decode cX2_removeStack 7 = .ok (.iload_n 1, 1) := by decide +kernel
theorem dX2_removeStack_8 : decode cX2_removeStack 8 = .ok (.iconst 1, 1) := by decide +kernel
theorem dX2_removeStack_9 : decode cX2_removeStack 9 = .ok (.iadd, 1) := by decide +kernel
theorem dX2_removeStack_10 : decode cX2_removeStack 10 = .ok (.istore_n 3, 1) := by decide +kernel
theorem dX2_removeStack_11 : decode cX2_removeStack 11 = .ok (.iload_n 3, 1) := by decide +kernel
theorem dX2_removeStack_12 : decode cX2_removeStack 12 = .ok (.aload_n 0, 1) := by decide +kernel
theorem dX2_removeStack_13 : decode cX2_removeStack 13 = .ok (.getfield 27, 3) := by decide +kernel
theorem dX2_removeStack_16 : decode cX2_removeStack 16 = .ok (.if_icmp .ge 23, 3) := by decide +kernel
theorem dX2_removeStack_19 : decode cX2_removeStack 19 = .ok (.aload_n 0, 1) := by decide +kernel
theorem dX2_removeStack_20 : decode cX2_removeStack 20 = .ok (.getfield 44, 3) := by decide +kernel
theorem dX2_removeStack_23 : decode cX2_removeStack 23 = .ok (.iload_n 3, 1) := by decide +kernel
theorem dX2_removeStack_24 : decode cX2_removeStack 24 = .ok (.iconst 1, 1) := by decide +kernel
theorem dX2_removeStack_25 : decode cX2_removeStack 25 = .ok (.isub, 1) := by decide +kernel
theorem dX2_removeStack_26 : decode cX2_removeStack 26 = .ok (.aload_n 0, 1) := by decide +kernel
theorem dX2_removeStack_27 : decode cX2_removeStack 27 = .ok (.getfield 44, 3) := by decide +kernel
theorem dX2_removeStack_30 : decode cX2_removeStack 30 = .ok (.iload_n 3, 1) := by decide +kernel
theorem dX2_removeStack_31 : decode cX2_removeStack 31 = .ok (.aaload, 1) := by decide +kernel
theorem dX2_removeStack_32 : decode cX2_removeStack 32 = .ok (.aastore, 1) := by decide +kernel
theorem dX2_removeStack_33 : decode cX2_removeStack 33 = .ok (.iinc 3 1, 3) := by decide +kernel
theorem dX2_removeStack_36 : decode cX2_removeStack 36 = .ok (.goto (-25), 3) := by decide +kernel
theorem dX2_removeStack_39 : decode cX2_removeStack 39 = .ok (.aload_n 0, 1) := by decide +kernel
theorem dX2_removeStack_40 : decode cX2_removeStack 40 = .ok (.dup, 1) := by decide +kernel
theorem dX2_removeStack_41 : decode cX2_removeStack 41 = .ok (.getfield 27, 3) := by decide +kernel
theorem dX2_removeStack_44 : decode cX2_removeStack 44 = .ok (.iconst 1, 1) := by decide +kernel
theorem dX2_removeStack_45 : decode cX2_removeStack 45 = .ok (.isub, 1) := by decide +kernel
theorem dX2_removeStack_46 : decode cX2_removeStack 46 = .ok (.putfield 27, 3) := by decide +kernel
theorem dX2_removeStack_49 : decode cX2_removeStack 49 = .ok (.aload_n 0, 1) := by decide +kernel
theorem dX2_removeStack_50 : decode cX2_removeStack 50 = .ok (.getfield 44, 3) := by decide +kernel
theorem dX2_removeStack_53 : decode cX2_removeStack 53 = .ok (.aload_n 0, 1) := by decide +kernel
theorem dX2_removeStack_54 : decode cX2_removeStack 54 = .ok (.getfield 27, 3) := by decide +kernel
theorem dX2_removeStack_57 : decode cX2_removeStack 57 = .ok (.aload_n 2, 1) := by decide +kernel
theorem dX2_removeStack_58 : decode cX2_removeStack 58 = .ok (.aastore, 1) := by decide +kernel
theorem dX2_removeStack_59 : decode cX2_removeStack 59 = .ok (.return_, 1) := by decide +kernel
theorem dX2_dryStacks_0 : decode cX2_dryStacks 0 = .ok (.iconst 0, 1) := by decide +kernel
theorem dX2_dryStacks_1 : decode cX2_dryStacks 1 = .ok (.istore_n 1, 1) := by decide +kernel
theorem dX2_dryStacks_2 : decode cX2_dryStacks 2 = .ok (.iconst 0, 1) := by decide +kernel
theorem dX2_dryStacks_3 : decode cX2_dryStacks 3 = .ok (.istore_n 2, 1) := by decide +kernel
theorem dX2_dryStacks_4 : decode cX2_dryStacks 4 = .ok (.iload_n 2, 1) := by decide +kernel
theorem dX2_dryStacks_5 : decode cX2_dryStacks 5 = .ok (.aload_n 0, 1) := by decide +kernel
theorem dX2_dryStacks_6 : decode cX2_dryStacks 6 = .ok (.getfield 27, 3) := by decide +kernel
theorem dX2_dryStacks_9 : decode cX2_dryStacks 9 = .ok (.if_icmp .ge 24, 3) := by decide +kernel
theorem dX2_dryStacks_12 : decode cX2_dryStacks 12 = .ok (.aload_n 0, 1) := by decide +kernel
theorem dX2_dryStacks_13 : decode cX2_dryStacks 13 = .ok (.getfield 44, 3) := by decide +kernel
theorem dX2_dryStacks_16 : decode cX2_dryStacks 16 = .ok (.iload_n 2, 1) := by decide +kernel
theorem dX2_dryStacks_17 : decode cX2_dryStacks 17 = .ok (.aaload, 1) := by decide +kernel
theorem dX2_dryStacks_18 : decode cX2_dryStacks 18 = .ok (.invokevirtual 139, 3) := by decide +kernel
theorem dX2_dryStacks_21 : decode cX2_dryStacks 21 = .ok (.ifCond .eq 6, 3) := by decide +kernel
theorem dX2_dryStacks_24 : decode cX2_dryStacks 24 = .ok (.iinc 1 1, 3) := by decide +kernel
theorem dX2_dryStacks_27 : decode cX2_dryStacks 27 = .ok (.iinc 2 1, 3) := by decide +kernel
theorem dX2_dryStacks_30 : decode cX2_dryStacks 30 = .ok (.goto (-26), 3) := by decide +kernel
theorem dX2_dryStacks_33 : decode cX2_dryStacks 33 = .ok (.iload_n 1, 1) := by decide +kernel
theorem dX2_dryStacks_34 : decode cX2_dryStacks 34 = .ok (.ireturn, 1) := by decide +kernel
theorem dX2_stackProperty_0 : decode cX2_stackProperty 0 = .ok (.aload_n 0, 1) := by decide +kernel
theorem dX2_stackProperty_1 : decode cX2_stackProperty 1 = .ok (.iload_n 1, 1) := by decide +kernel
theorem dX2_stackProperty_2 : decode cX2_stackProperty 2 = .ok (.invokevirtual 129, 3) := by decide +kernel
theorem dX2_stackProperty_5 : decode cX2_stackProperty 5 = .ok (.ifCond .ne 5, 3) := by decide +kernel
theorem dX2_stackProperty_8 : decode cX2_stackProperty 8 = .ok (.iconst (-1), 1) := by decide +kernel
theorem dX2_stackProperty_9 : decode cX2_stackProperty 9 = .ok (.ireturn, 1) := by decide +kernel
theorem dX2_stackProperty_10 : decode cX2_stackProperty 10 = .ok (.aload_n 0, 1) := by decide +kernel
theorem dX2_stackProperty_11 : decode cX2_stackProperty 11 = .ok (.getfield 44, 3) := by decide +kernel
theorem dX2_stackProperty_14 : decode cX2_stackProperty 14 = .ok (.iload_n 1, 1) := by decide +kernel
theorem dX2_stackProperty_15 : decode cX2_stackProperty 15 = .ok (.aaload, 1) := by decide +kernel
theorem dX2_stackProperty_16 : decode cX2_stackProperty 16 = .ok (.astore_n 3, 1) := by decide +kernel
theorem dX2_stackProperty_17 : decode cX2_stackProperty 17 = .ok (.iload_n 2, 1) := by decide +kernel
theorem dX2_stackProperty_18 : decode cX2_stackProperty 18 = .ok (.tableswitch 85 0 6 #[42, 47, 52, 57, 62, 67, 72], 42) := by decide +kernel
theorem dX2_stackProperty_60 : decode cX2_stackProperty 60 = .ok (.aload_n 3, 1) := by decide +kernel
theorem dX2_stackProperty_61 : decode cX2_stackProperty 61 = .ok (.getfield 113, 3) := by decide +kernel
theorem dX2_stackProperty_64 : decode cX2_stackProperty 64 = .ok (.ireturn, 1) := by decide +kernel
theorem dX2_stackProperty_65 : decode cX2_stackProperty 65 = .ok (.aload_n 3, 1) := by decide +kernel
theorem dX2_stackProperty_66 : decode cX2_stackProperty 66 = .ok (.getfield 116, 3) := by decide +kernel
theorem dX2_stackProperty_69 : decode cX2_stackProperty 69 = .ok (.ireturn, 1) := by decide +kernel
theorem dX2_stackProperty_70 : decode cX2_stackProperty 70 = .ok (.aload_n 3, 1) := by decide +kernel
theorem dX2_stackProperty_71 : decode cX2_stackProperty 71 = .ok (.getfield 119, 3) := by decide +kernel
theorem dX2_stackProperty_74 : decode cX2_stackProperty 74 = .ok (.ireturn, 1) := by decide +kernel
theorem dX2_stackProperty_75 : decode cX2_stackProperty 75 = .ok (.aload_n 3, 1) := by decide +kernel
theorem dX2_stackProperty_76 : decode cX2_stackProperty 76 = .ok (.getfield 123, 3) := by decide +kernel
theorem dX2_stackProperty_79 : decode cX2_stackProperty 79 = .ok (.ireturn, 1) := by decide +kernel
theorem dX2_stackProperty_80 : decode cX2_stackProperty 80 = .ok (.aload_n 3, 1) := by decide +kernel
theorem dX2_stackProperty_81 : decode cX2_stackProperty 81 = .ok (.getfield 126, 3) := by decide +kernel
theorem dX2_stackProperty_84 : decode cX2_stackProperty 84 = .ok (.ireturn, 1) := by decide +kernel
theorem dX2_stackProperty_85 : decode cX2_stackProperty 85 = .ok (.aload_n 3, 1) := by decide +kernel
theorem dX2_stackProperty_86 : decode cX2_stackProperty 86 = .ok (.invokevirtual 143, 3) := by decide +kernel
theorem dX2_stackProperty_89 : decode cX2_stackProperty 89 = .ok (.ireturn, 1) := by decide +kernel
theorem dX2_stackProperty_90 : decode cX2_stackProperty 90 = .ok (.aload_n 3, 1) := by decide +kernel
theorem dX2_stackProperty_91 : decode cX2_stackProperty 91 = .ok (.invokevirtual 139, 3) := by decide +kernel
theorem dX2_stackProperty_94 : decode cX2_stackProperty 94 = .ok (.ifCond .eq 7, 3) := by decide +kernel
theorem dX2_stackProperty_97 : decode cX2_stackProperty 97 = .ok (.iconst 1, 1) := by decide +kernel
theorem dX2_stackProperty_98 : decode cX2_stackProperty 98 = .ok (.goto 4, 3) := by decide +kernel
theorem dX2_stackProperty_101 : decode cX2_stackProperty 101 = .ok (.iconst 0, 1) := by decide +kernel
theorem dX2_stackProperty_102 : decode cX2_stackProperty 102 = .ok (.ireturn, 1) := by decide +kernel
theorem dX2_stackProperty_103 : decode cX2_stackProperty 103 = .ok (.iconst (-1), 1) := by decide +kernel
theorem dX2_stackProperty_104 : decode cX2_stackProperty 104 = .ok (.ireturn, 1) := by decide +kernel
theorem dX2_passDay_0 : decode cX2_passDay 0 = .ok (.iload_n 1, 1) := by decide +kernel
theorem dX2_passDay_1 : decode cX2_passDay 1 = .ok (.iconst 0, 1) := by decide +kernel
theorem dX2_passDay_2 : decode cX2_passDay 2 = .ok (.bipush 9, 2) := by decide +kernel
theorem dX2_passDay_4 : decode cX2_passDay 4 = .ok (.invokestatic 61, 3) := by decide +kernel
theorem dX2_passDay_7 : decode cX2_passDay 7 = .ok (.ifCond .eq 13, 3) := by decide +kernel
theorem dX2_passDay_10 : decode cX2_passDay 10 = .ok (.iload_n 2, 1) := by decide +kernel
theorem dX2_passDay_11 : decode cX2_passDay 11 = .ok (.iconst 0, 1) := by decide +kernel
theorem dX2_passDay_12 : decode cX2_passDay 12 = .ok (.bipush 9, 2) := by decide +kernel
theorem dX2_passDay_14 : decode cX2_passDay 14 = .ok (.invokestatic 61, 3) := by decide +kernel
theorem dX2_passDay_17 : decode cX2_passDay 17 = .ok (.ifCond .ne 5, 3) := by decide +kernel
theorem dX2_passDay_20 : decode cX2_passDay 20 = .ok (.iconst (-1), 1) := by decide +kernel
theorem dX2_passDay_21 : decode cX2_passDay 21 = .ok (.ireturn, 1) := by decide +kernel
theorem dX2_passDay_22 : decode cX2_passDay 22 = .ok (.iconst 0, 1) := by decide +kernel
theorem dX2_passDay_23 : decode cX2_passDay 23 = .ok (.istore_n 3, 1) := by decide +kernel
theorem dX2_passDay_24 : decode cX2_passDay 24 = .ok (.iload_n 3, 1) := by decide +kernel
theorem dX2_passDay_25 : decode cX2_passDay 25 = .ok (.aload_n 0, 1) := by decide +kernel
theorem dX2_passDay_26 : decode cX2_passDay 26 = .ok (.getfield 27, 3) := by decide +kernel
theorem dX2_passDay_29 : decode cX2_passDay 29 = .ok (.if_icmp .ge 34, 3) := by decide +kernel
theorem dX2_passDay_32 : decode cX2_passDay 32 = .ok (.aload_n 0, 1) := by decide +kernel
theorem dX2_passDay_33 : decode cX2_passDay 33 = .ok (.getfield 44, 3) := by decide +kernel
theorem dX2_passDay_36 : decode cX2_passDay 36 = .ok (.iload_n 3, 1) := by decide +kernel
theorem dX2_passDay_37 : decode cX2_passDay 37 = .ok (.aaload, 1) := by decide +kernel
theorem dX2_passDay_38 : decode cX2_passDay 38 = .ok (.astore 4, 2) := by decide +kernel
theorem dX2_passDay_40 : decode cX2_passDay 40 = .ok (.aload 4, 2) := by decide +kernel
theorem dX2_passDay_42 : decode cX2_passDay 42 = .ok (.aload 4, 2) := by decide +kernel
theorem dX2_passDay_44 : decode cX2_passDay 44 = .ok (.aload 4, 2) := by decide +kernel
theorem dX2_passDay_46 : decode cX2_passDay 46 = .ok (.getfield 123, 3) := by decide +kernel
theorem dX2_passDay_49 : decode cX2_passDay 49 = .ok (.iload_n 1, 1) := by decide +kernel
theorem dX2_passDay_50 : decode cX2_passDay 50 = .ok (.iload_n 2, 1) := by decide +kernel
theorem dX2_passDay_51 : decode cX2_passDay 51 = .ok (.invokevirtual 146, 3) := by decide +kernel
theorem dX2_passDay_54 : decode cX2_passDay 54 = .ok (.putfield 123, 3) := by decide +kernel
theorem dX2_passDay_57 : decode cX2_passDay 57 = .ok (.iinc 3 1, 3) := by decide +kernel
theorem dX2_passDay_60 : decode cX2_passDay 60 = .ok (.goto (-36), 3) := by decide +kernel
theorem dX2_passDay_63 : decode cX2_passDay 63 = .ok (.aload_n 0, 1) := by decide +kernel
theorem dX2_passDay_64 : decode cX2_passDay 64 = .ok (.iload_n 2, 1) := by decide +kernel
theorem dX2_passDay_65 : decode cX2_passDay 65 = .ok (.putfield 18, 3) := by decide +kernel
theorem dX2_passDay_68 : decode cX2_passDay 68 = .ok (.aload_n 0, 1) := by decide +kernel
theorem dX2_passDay_69 : decode cX2_passDay 69 = .ok (.dup, 1) := by decide +kernel
theorem dX2_passDay_70 : decode cX2_passDay 70 = .ok (.getfield 15, 3) := by decide +kernel
theorem dX2_passDay_73 : decode cX2_passDay 73 = .ok (.iconst 1, 1) := by decide +kernel
theorem dX2_passDay_74 : decode cX2_passDay 74 = .ok (.iadd, 1) := by decide +kernel
theorem dX2_passDay_75 : decode cX2_passDay 75 = .ok (.putfield 15, 3) := by decide +kernel
theorem dX2_passDay_78 : decode cX2_passDay 78 = .ok (.aload_n 0, 1) := by decide +kernel
theorem dX2_passDay_79 : decode cX2_passDay 79 = .ok (.invokevirtual 150, 3) := by decide +kernel
theorem dX2_passDay_82 : decode cX2_passDay 82 = .ok (.ireturn, 1) := by decide +kernel
theorem dX2_daysUntilDry_0 : decode cX2_daysUntilDry 0 = .ok (.aload_n 0, 1) := by decide +kernel
theorem dX2_daysUntilDry_1 : decode cX2_daysUntilDry 1 = .ok (.iload_n 1, 1) := by decide +kernel
theorem dX2_daysUntilDry_2 : decode cX2_daysUntilDry 2 = .ok (.invokevirtual 129, 3) := by decide +kernel
theorem dX2_daysUntilDry_5 : decode cX2_daysUntilDry 5 = .ok (.ifCond .eq 23, 3) := by decide +kernel
theorem dX2_daysUntilDry_8 : decode cX2_daysUntilDry 8 = .ok (.iload_n 2, 1) := by decide +kernel
theorem dX2_daysUntilDry_9 : decode cX2_daysUntilDry 9 = .ok (.iconst 0, 1) := by decide +kernel
theorem dX2_daysUntilDry_10 : decode cX2_daysUntilDry 10 = .ok (.bipush 9, 2) := by decide +kernel
theorem dX2_daysUntilDry_12 : decode cX2_daysUntilDry 12 = .ok (.invokestatic 61, 3) := by decide +kernel
theorem dX2_daysUntilDry_15 : decode cX2_daysUntilDry 15 = .ok (.ifCond .eq 13, 3) := by decide +kernel
theorem dX2_daysUntilDry_18 : decode cX2_daysUntilDry 18 = .ok (.iload_n 3, 1) := by decide +kernel
theorem dX2_daysUntilDry_19 : decode cX2_daysUntilDry 19 = .ok (.iconst 0, 1) := by decide +kernel
theorem dX2_daysUntilDry_20 : decode cX2_daysUntilDry 20 = .ok (.bipush 9, 2) := by decide +kernel
theorem dX2_daysUntilDry_22 : decode cX2_daysUntilDry 22 = .ok (.invokestatic 61, 3) := by decide +kernel
theorem dX2_daysUntilDry_25 : decode cX2_daysUntilDry 25 = .ok (.ifCond .ne 5, 3) := by decide +kernel
theorem dX2_daysUntilDry_28 : decode cX2_daysUntilDry 28 = .ok (.iconst (-1), 1) := by decide +kernel
theorem dX2_daysUntilDry_29 : decode cX2_daysUntilDry 29 = .ok (.ireturn, 1) := by decide +kernel
theorem dX2_daysUntilDry_30 : decode cX2_daysUntilDry 30 = .ok (.aload_n 0, 1) := by decide +kernel
theorem dX2_daysUntilDry_31 : decode cX2_daysUntilDry 31 = .ok (.getfield 44, 3) := by decide +kernel
theorem dX2_daysUntilDry_34 : decode cX2_daysUntilDry 34 = .ok (.iload_n 1, 1) := by decide +kernel
theorem dX2_daysUntilDry_35 : decode cX2_daysUntilDry 35 = .ok (.aaload, 1) := by decide +kernel
theorem dX2_daysUntilDry_36 : decode cX2_daysUntilDry 36 = .ok (.astore 4, 2) := by decide +kernel
theorem dX2_daysUntilDry_38 : decode cX2_daysUntilDry 38 = .ok (.aload 4, 2) := by decide +kernel
theorem dX2_daysUntilDry_40 : decode cX2_daysUntilDry 40 = .ok (.getfield 123, 3) := by decide +kernel
theorem dX2_daysUntilDry_43 : decode cX2_daysUntilDry 43 = .ok (.istore 5, 2) := by decide +kernel
theorem dX2_daysUntilDry_45 : decode cX2_daysUntilDry 45 = .ok (.iconst 0, 1) := by decide +kernel
theorem dX2_daysUntilDry_46 : decode cX2_daysUntilDry 46 = .ok (.istore 6, 2) := by decide +kernel
theorem dX2_daysUntilDry_48 : decode cX2_daysUntilDry 48 = .ok (.iload 6, 2) := by decide +kernel
theorem dX2_daysUntilDry_50 : decode cX2_daysUntilDry 50 = .ok (.sipush 200, 3) := by decide +kernel
theorem dX2_daysUntilDry_53 : decode cX2_daysUntilDry 53 = .ok (.if_icmp .gt 31, 3) := by decide +kernel
theorem dX2_daysUntilDry_56 : decode cX2_daysUntilDry 56 = .ok (.iload 5, 2) := by decide +kernel
theorem dX2_daysUntilDry_58 : decode cX2_daysUntilDry 58 = .ok (.sipush 30000, 3) := by decide +kernel
theorem dX2_daysUntilDry_61 : decode cX2_daysUntilDry 61 = .ok (.if_icmp .gt 6, 3) := by decide +kernel
theorem dX2_daysUntilDry_64 : decode cX2_daysUntilDry 64 = .ok (.iload 6, 2) := by decide +kernel
theorem dX2_daysUntilDry_66 : decode cX2_daysUntilDry 66 = .ok (.ireturn, 1) := by decide +kernel
theorem dX2_daysUntilDry_67 : decode cX2_daysUntilDry 67 = .ok (.aload 4, 2) := by decide +kernel
theorem dX2_daysUntilDry_69 : decode cX2_daysUntilDry 69 = .ok (.iload 5, 2) := by decide +kernel
theorem dX2_daysUntilDry_71 : decode cX2_daysUntilDry 71 = .ok (.iload_n 2, 1) := by decide +kernel
theorem dX2_daysUntilDry_72 : decode cX2_daysUntilDry 72 = .ok (.iload_n 3, 1) := by decide +kernel
theorem dX2_daysUntilDry_73 : decode cX2_daysUntilDry 73 = .ok (.invokevirtual 146, 3) := by decide +kernel
theorem dX2_daysUntilDry_76 : decode cX2_daysUntilDry 76 = .ok (.istore 5, 2) := by decide +kernel
theorem dX2_daysUntilDry_78 : decode cX2_daysUntilDry 78 = .ok (.iinc 6 1, 3) := by decide +kernel
theorem dX2_daysUntilDry_81 : decode cX2_daysUntilDry 81 = .ok (.goto (-33), 3) := by decide +kernel
theorem dX2_daysUntilDry_84 : decode cX2_daysUntilDry 84 = .ok (.bipush (-9), 2) := by decide +kernel
theorem dX2_daysUntilDry_86 : decode cX2_daysUntilDry 86 = .ok (.ireturn, 1) := by decide +kernel
theorem dX2_closeYear_0 : decode cX2_closeYear 0 = .ok (.aload_n 0, 1) := by decide +kernel
theorem dX2_closeYear_1 : decode cX2_closeYear 1 = .ok (.getfield 9, 3) := by decide +kernel
theorem dX2_closeYear_4 : decode cX2_closeYear 4 = .ok (.sipush 999, 3) := by decide +kernel
theorem dX2_closeYear_7 : decode cX2_closeYear 7 = .ok (.if_icmp .lt 6, 3) := by decide +kernel
theorem dX2_closeYear_10 : decode cX2_closeYear 10 = .ok (.bipush (-2), 2) := by decide +kernel
theorem dX2_closeYear_12 : decode cX2_closeYear 12 = .ok (.ireturn, 1) := by decide +kernel
theorem dX2_closeYear_13 : decode cX2_closeYear 13 = .ok (.iconst 0, 1) := by decide +kernel
theorem dX2_closeYear_14 : decode cX2_closeYear 14 = .ok (.istore_n 1, 1) := by decide +kernel
theorem dX2_closeYear_15 : decode cX2_closeYear 15 = .ok (.iconst 0, 1) := by decide +kernel
theorem dX2_closeYear_16 : decode cX2_closeYear 16 = .ok (.istore_n 2, 1) := by decide +kernel
theorem dX2_closeYear_17 : decode cX2_closeYear 17 = .ok (.iload_n 2, 1) := by decide +kernel
theorem dX2_closeYear_18 : decode cX2_closeYear 18 = .ok (.aload_n 0, 1) := by decide +kernel
theorem dX2_closeYear_19 : decode cX2_closeYear 19 = .ok (.getfield 27, 3) := by decide +kernel
theorem dX2_closeYear_22 : decode cX2_closeYear 22 = .ok (.if_icmp .ge 52, 3) := by decide +kernel
theorem dX2_closeYear_25 : decode cX2_closeYear 25 = .ok (.aload_n 0, 1) := by decide +kernel
theorem dX2_closeYear_26 : decode cX2_closeYear 26 = .ok (.getfield 38, 3) := by decide +kernel
theorem dX2_closeYear_29 : decode cX2_closeYear 29 = .ok (.aload_n 0, 1) := by decide +kernel
theorem dX2_closeYear_30 : decode cX2_closeYear 30 = .ok (.getfield 44, 3) := by decide +kernel
theorem dX2_closeYear_33 : decode cX2_closeYear 33 = .ok (.iload_n 2, 1) := by decide +kernel
theorem dX2_closeYear_34 : decode cX2_closeYear 34 = .ok (.aaload, 1) := by decide +kernel
theorem dX2_closeYear_35 : decode cX2_closeYear 35 = .ok (.getfield 116, 3) := by decide +kernel
theorem dX2_closeYear_38 : decode cX2_closeYear 38 = .ok (.aaload, 1) := by decide +kernel
theorem dX2_closeYear_39 : decode cX2_closeYear 39 = .ok (.dup, 1) := by decide +kernel
theorem dX2_closeYear_40 : decode cX2_closeYear 40 = .ok (.getfield 153, 3) := by decide +kernel
theorem dX2_closeYear_43 : decode cX2_closeYear 43 = .ok (.aload_n 0, 1) := by decide +kernel
theorem dX2_closeYear_44 : decode cX2_closeYear 44 = .ok (.getfield 44, 3) := by decide +kernel
theorem dX2_closeYear_47 : decode cX2_closeYear 47 = .ok (.iload_n 2, 1) := by decide +kernel
theorem dX2_closeYear_48 : decode cX2_closeYear 48 = .ok (.aaload, 1) := by decide +kernel
theorem dX2_closeYear_49 : decode cX2_closeYear 49 = .ok (.getfield 119, 3) := by decide +kernel
theorem dX2_closeYear_52 : decode cX2_closeYear 52 = .ok (.iadd, 1) := by decide +kernel
theorem dX2_closeYear_53 : decode cX2_closeYear 53 = .ok (.putfield 153, 3) := by decide +kernel
theorem dX2_closeYear_56 : decode cX2_closeYear 56 = .ok (.iload_n 1, 1) := by decide +kernel
theorem dX2_closeYear_57 : decode cX2_closeYear 57 = .ok (.aload_n 0, 1) := by decide +kernel
theorem dX2_closeYear_58 : decode cX2_closeYear 58 = .ok (.getfield 44, 3) := by decide +kernel
theorem dX2_closeYear_61 : decode cX2_closeYear 61 = .ok (.iload_n 2, 1) := by decide +kernel
theorem dX2_closeYear_62 : decode cX2_closeYear 62 = .ok (.aaload, 1) := by decide +kernel
theorem dX2_closeYear_63 : decode cX2_closeYear 63 = .ok (.getfield 119, 3) := by decide +kernel
theorem dX2_closeYear_66 : decode cX2_closeYear 66 = .ok (.iadd, 1) := by decide +kernel
theorem dX2_closeYear_67 : decode cX2_closeYear 67 = .ok (.istore_n 1, 1) := by decide +kernel
theorem dX2_closeYear_68 : decode cX2_closeYear 68 = .ok (.iinc 2 1, 3) := by decide +kernel
theorem dX2_closeYear_71 : decode cX2_closeYear 71 = .ok (.goto (-54), 3) := by decide +kernel
theorem dX2_closeYear_74 : decode cX2_closeYear 74 = .ok (.aload_n 0, 1) := by decide +kernel
theorem dX2_closeYear_75 : decode cX2_closeYear 75 = .ok (.iconst 0, 1) := by decide +kernel
theorem dX2_closeYear_76 : decode cX2_closeYear 76 = .ok (.putfield 27, 3) := by decide +kernel
theorem dX2_closeYear_79 : decode cX2_closeYear 79 = .ok (.iconst 0, 1) := by decide +kernel
theorem dX2_closeYear_80 : decode cX2_closeYear 80 = .ok (.istore_n 2, 1) := by decide +kernel
theorem dX2_closeYear_81 : decode cX2_closeYear 81 = .ok (.iload_n 2, 1) := by decide +kernel
theorem dX2_closeYear_82 : decode cX2_closeYear 82 = .ok (.aload_n 0, 1) := by decide +kernel
theorem dX2_closeYear_83 : decode cX2_closeYear 83 = .ok (.getfield 24, 3) := by decide +kernel
theorem dX2_closeYear_86 : decode cX2_closeYear 86 = .ok (.if_icmp .ge 18, 3) := by decide +kernel
theorem dX2_closeYear_89 : decode cX2_closeYear 89 = .ok (.aload_n 0, 1) := by decide +kernel
theorem dX2_closeYear_90 : decode cX2_closeYear 90 = .ok (.getfield 38, 3) := by decide +kernel
theorem dX2_closeYear_93 : decode cX2_closeYear 93 = .ok (.iload_n 2, 1) := by decide +kernel
theorem dX2_closeYear_94 : decode cX2_closeYear 94 = .ok (.aaload, 1) := by decide +kernel
theorem dX2_closeYear_95 : decode cX2_closeYear 95 = .ok (.invokevirtual 156, 3) := by decide +kernel
theorem dX2_closeYear_98 : decode cX2_closeYear 98 = .ok (.iinc 2 1, 3) := by decide +kernel
theorem dX2_closeYear_101 : decode cX2_closeYear 101 = .ok (.goto (-20), 3) := by decide +kernel
theorem dX2_closeYear_104 : decode cX2_closeYear 104 = .ok (.aload_n 0, 1) := by decide +kernel
theorem dX2_closeYear_105 : decode cX2_closeYear 105 = .ok (.iconst 0, 1) := by decide +kernel
theorem dX2_closeYear_106 : decode cX2_closeYear 106 = .ok (.putfield 18, 3) := by decide +kernel
theorem dX2_closeYear_109 : decode cX2_closeYear 109 = .ok (.aload_n 0, 1) := by decide +kernel
theorem dX2_closeYear_110 : decode cX2_closeYear 110 = .ok (.dup, 1) := by decide +kernel
theorem dX2_closeYear_111 : decode cX2_closeYear 111 = .ok (.getfield 9, 3) := by decide +kernel
theorem dX2_closeYear_114 : decode cX2_closeYear 114 = .ok (.iconst 1, 1) := by decide +kernel
theorem dX2_closeYear_115 : decode cX2_closeYear 115 = .ok (.iadd, 1) := by decide +kernel
theorem dX2_closeYear_116 : decode cX2_closeYear 116 = .ok (.putfield 9, 3) := by decide +kernel
theorem dX2_closeYear_119 : decode cX2_closeYear 119 = .ok (.iload_n 1, 1) := by decide +kernel
theorem dX2_closeYear_120 : decode cX2_closeYear 120 = .ok (.ireturn, 1) := by decide +kernel
theorem dX2_repairRoad_0 : decode cX2_repairRoad 0 = .ok (.aload_n 0, 1) := by decide +kernel
theorem dX2_repairRoad_1 : decode cX2_repairRoad 1 = .ok (.iload_n 1, 1) := by decide +kernel
theorem dX2_repairRoad_2 : decode cX2_repairRoad 2 = .ok (.invokevirtual 78, 3) := by decide +kernel
theorem dX2_repairRoad_5 : decode cX2_repairRoad 5 = .ok (.ifCond .ne 5, 3) := by decide +kernel
theorem dX2_repairRoad_8 : decode cX2_repairRoad 8 = .ok (.iconst (-1), 1) := by decide +kernel
theorem dX2_repairRoad_9 : decode cX2_repairRoad 9 = .ok (.ireturn, 1) := by decide +kernel
theorem dX2_repairRoad_10 : decode cX2_repairRoad 10 = .ok (.aload_n 0, 1) := by decide +kernel
theorem dX2_repairRoad_11 : decode cX2_repairRoad 11 = .ok (.getfield 38, 3) := by decide +kernel
theorem dX2_repairRoad_14 : decode cX2_repairRoad 14 = .ok (.iload_n 1, 1) := by decide +kernel
theorem dX2_repairRoad_15 : decode cX2_repairRoad 15 = .ok (.aaload, 1) := by decide +kernel
theorem dX2_repairRoad_16 : decode cX2_repairRoad 16 = .ok (.getfield 159, 3) := by decide +kernel
theorem dX2_repairRoad_19 : decode cX2_repairRoad 19 = .ok (.istore_n 2, 1) := by decide +kernel
theorem dX2_repairRoad_20 : decode cX2_repairRoad 20 = .ok (.aload_n 0, 1) := by decide +kernel
theorem dX2_repairRoad_21 : decode cX2_repairRoad 21 = .ok (.getfield 38, 3) := by decide +kernel
theorem dX2_repairRoad_24 : decode cX2_repairRoad 24 = .ok (.iload_n 1, 1) := by decide +kernel
theorem dX2_repairRoad_25 : decode cX2_repairRoad 25 = .ok (.aaload, 1) := by decide +kernel
theorem dX2_repairRoad_26 : decode cX2_repairRoad 26 = .ok (.iconst 0, 1) := by decide +kernel
theorem dX2_repairRoad_27 : decode cX2_repairRoad 27 = .ok (.putfield 159, 3) := by decide +kernel
theorem dX2_repairRoad_30 : decode cX2_repairRoad 30 = .ok (.iload_n 2, 1) := by decide +kernel
theorem dX2_repairRoad_31 : decode cX2_repairRoad 31 = .ok (.ireturn, 1) := by decide +kernel
theorem dX2_bearingToday_0 : decode cX2_bearingToday 0 = .ok (.aload_n 1, 1) := by decide +kernel
theorem dX2_bearingToday_1 : decode cX2_bearingToday 1 = .ok (.aload_n 1, 1) := by decide +kernel
theorem dX2_bearingToday_2 : decode cX2_bearingToday 2 = .ok (.getfield 159, 3) := by decide +kernel
theorem dX2_bearingToday_5 : decode cX2_bearingToday 5 = .ok (.aload_n 0, 1) := by decide +kernel
theorem dX2_bearingToday_6 : decode cX2_bearingToday 6 = .ok (.getfield 18, 3) := by decide +kernel
theorem dX2_bearingToday_9 : decode cX2_bearingToday 9 = .ok (.invokevirtual 162, 3) := by decide +kernel
theorem dX2_bearingToday_12 : decode cX2_bearingToday 12 = .ok (.ireturn, 1) := by decide +kernel
theorem dX2_cartTurfs_0 : decode cX2_cartTurfs 0 = .ok (.aload_n 0, 1) := by decide +kernel
theorem dX2_cartTurfs_1 : decode cX2_cartTurfs 1 = .ok (.iload_n 1, 1) := by decide +kernel
theorem dX2_cartTurfs_2 : decode cX2_cartTurfs 2 = .ok (.invokevirtual 129, 3) := by decide +kernel
theorem dX2_cartTurfs_5 : decode cX2_cartTurfs 5 = .ok (.ifCond .eq 14, 3) := by decide +kernel
theorem dX2_cartTurfs_8 : decode cX2_cartTurfs 8 = .ok (.iload_n 2, 1) := by decide +kernel
theorem dX2_cartTurfs_9 : decode cX2_cartTurfs 9 = .ok (.iconst 1, 1) := by decide +kernel
theorem dX2_cartTurfs_10 : decode cX2_cartTurfs 10 = .ok (.sipush 1000, 3) := by decide +kernel
theorem dX2_cartTurfs_13 : decode cX2_cartTurfs 13 = .ok (.invokestatic 61, 3) := by decide +kernel
theorem dX2_cartTurfs_16 : decode cX2_cartTurfs 16 = .ok (.ifCond .ne 5, 3) := by decide +kernel
theorem dX2_cartTurfs_19 : decode cX2_cartTurfs 19 = .ok (.iconst (-1), 1) := by decide +kernel
theorem dX2_cartTurfs_20 : decode cX2_cartTurfs 20 = .ok (.ireturn, 1) := by decide +kernel
theorem dX2_cartTurfs_21 : decode cX2_cartTurfs 21 = .ok (.aload_n 0, 1) := by decide +kernel
theorem dX2_cartTurfs_22 : decode cX2_cartTurfs 22 = .ok (.getfield 44, 3) := by decide +kernel
theorem dX2_cartTurfs_25 : decode cX2_cartTurfs 25 = .ok (.iload_n 1, 1) := by decide +kernel
theorem dX2_cartTurfs_26 : decode cX2_cartTurfs 26 = .ok (.aaload, 1) := by decide +kernel
theorem dX2_cartTurfs_27 : decode cX2_cartTurfs 27 = .ok (.astore_n 3, 1) := by decide +kernel
theorem dX2_cartTurfs_28 : decode cX2_cartTurfs 28 = .ok (.aload_n 0, 1) := by decide +kernel
theorem dX2_cartTurfs_29 : decode cX2_cartTurfs 29 = .ok (.getfield 38, 3) := by decide +kernel
theorem dX2_cartTurfs_32 : decode cX2_cartTurfs 32 = .ok (.aload_n 3, 1) := by decide +kernel
theorem dX2_cartTurfs_33 : decode cX2_cartTurfs 33 = .ok (.getfield 116, 3) := by decide +kernel
theorem dX2_cartTurfs_36 : decode cX2_cartTurfs 36 = .ok (.aaload, 1) := by decide +kernel
theorem dX2_cartTurfs_37 : decode cX2_cartTurfs 37 = .ok (.astore 4, 2) := by decide +kernel
theorem dX2_cartTurfs_39 : decode cX2_cartTurfs 39 = .ok (.aload_n 3, 1) := by decide +kernel
theorem dX2_cartTurfs_40 : decode cX2_cartTurfs 40 = .ok (.iload_n 2, 1) := by decide +kernel
theorem dX2_cartTurfs_41 : decode cX2_cartTurfs 41 = .ok (.invokevirtual 165, 3) := by decide +kernel
theorem dX2_cartTurfs_44 : decode cX2_cartTurfs 44 = .ok (.istore 5, 2) := by decide +kernel
theorem dX2_cartTurfs_46 : decode cX2_cartTurfs 46 = .ok (.aload_n 3, 1) := by decide +kernel
theorem dX2_cartTurfs_47 : decode cX2_cartTurfs 47 = .ok (.getfield 119, 3) := by decide +kernel
theorem dX2_cartTurfs_50 : decode cX2_cartTurfs 50 = .ok (.iload_n 2, 1) := by decide +kernel
theorem dX2_cartTurfs_51 : decode cX2_cartTurfs 51 = .ok (.if_icmp .lt 14, 3) := by decide +kernel
theorem dX2_cartTurfs_54 : decode cX2_cartTurfs 54 = .ok (.iload 5, 2) := by decide +kernel
theorem dX2_cartTurfs_56 : decode cX2_cartTurfs 56 = .ok (.aload_n 0, 1) := by decide +kernel
theorem dX2_cartTurfs_57 : decode cX2_cartTurfs 57 = .ok (.aload 4, 2) := by decide +kernel
theorem dX2_cartTurfs_59 : decode cX2_cartTurfs 59 = .ok (.invokevirtual 169, 3) := by decide +kernel
theorem dX2_cartTurfs_62 : decode cX2_cartTurfs 62 = .ok (.if_icmp .le 6, 3) := by decide +kernel
theorem dX2_cartTurfs_65 : decode cX2_cartTurfs 65 = .ok (.bipush (-2), 2) := by decide +kernel
theorem dX2_cartTurfs_67 : decode cX2_cartTurfs 67 = .ok (.ireturn, 1) := by decide +kernel
theorem dX2_cartTurfs_68 : decode cX2_cartTurfs 68 = .ok (.aload_n 0, 1) := by decide +kernel
theorem dX2_cartTurfs_69 : decode cX2_cartTurfs 69 = .ok (.getfield 32, 3) := by decide +kernel
theorem dX2_cartTurfs_72 : decode cX2_cartTurfs 72 = .ok (.aload_n 3, 1) := by decide +kernel
theorem dX2_cartTurfs_73 : decode cX2_cartTurfs 73 = .ok (.getfield 113, 3) := by decide +kernel
theorem dX2_cartTurfs_76 : decode cX2_cartTurfs 76 = .ok (.aaload, 1) := by decide +kernel
theorem dX2_cartTurfs_77 : decode cX2_cartTurfs 77 = .ok (.astore 6, 2) := by decide +kernel
theorem dX2_cartTurfs_79 : decode cX2_cartTurfs 79 = .ok (.aload_n 3, 1) := by decide +kernel
theorem dX2_cartTurfs_80 : decode cX2_cartTurfs 80 = .ok (.invokevirtual 139, 3) := by decide +kernel
theorem dX2_cartTurfs_83 : decode cX2_cartTurfs 83 = .ok (.ifCond .eq 17, 3) := by decide +kernel
theorem dX2_cartTurfs_86 : decode cX2_cartTurfs 86 = .ok (.aload 6, 2) := by decide +kernel
theorem dX2_cartTurfs_88 : decode cX2_cartTurfs 88 = .ok (.dup, 1) := by decide +kernel
theorem dX2_cartTurfs_89 : decode cX2_cartTurfs 89 = .ok (.getfield 172, 3) := by decide +kernel
theorem dX2_cartTurfs_92 : decode cX2_cartTurfs 92 = .ok (.iload_n 2, 1) := by decide +kernel
theorem dX2_cartTurfs_93 : decode cX2_cartTurfs 93 = .ok (.iadd, 1) := by decide +kernel
theorem dX2_cartTurfs_94 : decode cX2_cartTurfs 94 = .ok (.putfield 172, 3) := by decide +kernel
theorem dX2_cartTurfs_97 : decode cX2_cartTurfs 97 = .ok (.goto 14, 3) := by decide +kernel
theorem dX2_cartTurfs_100 : decode cX2_cartTurfs 100 = .ok (.aload 6, 2) := by decide +kernel
theorem dX2_cartTurfs_102 : decode cX2_cartTurfs 102 = .ok (.dup, 1) := by decide +kernel
theorem dX2_cartTurfs_103 : decode cX2_cartTurfs 103 = .ok (.getfield 175, 3) := by decide +kernel
theorem dX2_cartTurfs_106 : decode cX2_cartTurfs 106 = .ok (.iload_n 2, 1) := by decide +kernel
theorem dX2_cartTurfs_107 : decode cX2_cartTurfs 107 = .ok (.iadd, 1) := by decide +kernel
theorem dX2_cartTurfs_108 : decode cX2_cartTurfs 108 = .ok (.putfield 175, 3) := by decide +kernel
theorem dX2_cartTurfs_111 : decode cX2_cartTurfs 111 = .ok (.aload 4, 2) := by decide +kernel
theorem dX2_cartTurfs_113 : decode cX2_cartTurfs 113 = .ok (.dup, 1) := by decide +kernel
theorem dX2_cartTurfs_114 : decode cX2_cartTurfs 114 = .ok (.getfield 178, 3) := by decide +kernel
theorem dX2_cartTurfs_117 : decode cX2_cartTurfs 117 = .ok (.iload_n 2, 1) := by decide +kernel
theorem dX2_cartTurfs_118 : decode cX2_cartTurfs 118 = .ok (.iadd, 1) := by decide +kernel
theorem dX2_cartTurfs_119 : decode cX2_cartTurfs 119 = .ok (.putfield 178, 3) := by decide +kernel
theorem dX2_cartTurfs_122 : decode cX2_cartTurfs 122 = .ok (.aload 4, 2) := by decide +kernel
theorem dX2_cartTurfs_124 : decode cX2_cartTurfs 124 = .ok (.dup, 1) := by decide +kernel
theorem dX2_cartTurfs_125 : decode cX2_cartTurfs 125 = .ok (.getfield 159, 3) := by decide +kernel
theorem dX2_cartTurfs_128 : decode cX2_cartTurfs 128 = .ok (.iload 5, 2) := by decide +kernel
theorem dX2_cartTurfs_130 : decode cX2_cartTurfs 130 = .ok (.invokestatic 181, 3) := by decide +kernel
theorem dX2_cartTurfs_133 : decode cX2_cartTurfs 133 = .ok (.iadd, 1) := by decide +kernel
theorem dX2_cartTurfs_134 : decode cX2_cartTurfs 134 = .ok (.putfield 159, 3) := by decide +kernel
theorem dX2_cartTurfs_137 : decode cX2_cartTurfs 137 = .ok (.aload_n 3, 1) := by decide +kernel
theorem dX2_cartTurfs_138 : decode cX2_cartTurfs 138 = .ok (.dup, 1) := by decide +kernel
theorem dX2_cartTurfs_139 : decode cX2_cartTurfs 139 = .ok (.getfield 119, 3) := by decide +kernel
theorem dX2_cartTurfs_142 : decode cX2_cartTurfs 142 = .ok (.iload_n 2, 1) := by decide +kernel
theorem dX2_cartTurfs_143 : decode cX2_cartTurfs 143 = .ok (.isub, 1) := by decide +kernel
theorem dX2_cartTurfs_144 : decode cX2_cartTurfs 144 = .ok (.putfield 119, 3) := by decide +kernel
theorem dX2_cartTurfs_147 : decode cX2_cartTurfs 147 = .ok (.aload_n 3, 1) := by decide +kernel
theorem dX2_cartTurfs_148 : decode cX2_cartTurfs 148 = .ok (.getfield 119, 3) := by decide +kernel
theorem dX2_cartTurfs_151 : decode cX2_cartTurfs 151 = .ok (.ifCond .ne 8, 3) := by decide +kernel
theorem dX2_cartTurfs_154 : decode cX2_cartTurfs 154 = .ok (.aload_n 0, 1) := by decide +kernel
theorem dX2_cartTurfs_155 : decode cX2_cartTurfs 155 = .ok (.iload_n 1, 1) := by decide +kernel
theorem dX2_cartTurfs_156 : decode cX2_cartTurfs 156 = .ok (.invokevirtual 135, 3) := by decide +kernel
theorem dX2_cartTurfs_159 : decode cX2_cartTurfs 159 = .ok (.iload 5, 2) := by decide +kernel
theorem dX2_cartTurfs_161 : decode cX2_cartTurfs 161 = .ok (.ireturn, 1) := by decide +kernel
theorem dX2_greatestCartOf_0 : decode cX2_greatestCartOf 0 = .ok (.aload_n 0, 1) := by decide +kernel
theorem dX2_greatestCartOf_1 : decode cX2_greatestCartOf 1 = .ok (.iload_n 1, 1) := by decide +kernel
theorem dX2_greatestCartOf_2 : decode cX2_greatestCartOf 2 = .ok (.invokevirtual 129, 3) := by decide +kernel
theorem dX2_greatestCartOf_5 : decode cX2_greatestCartOf 5 = .ok (.ifCond .ne 5, 3) := by decide +kernel
theorem dX2_greatestCartOf_8 : decode cX2_greatestCartOf 8 = .ok (.iconst (-1), 1) := by decide +kernel
theorem dX2_greatestCartOf_9 : decode cX2_greatestCartOf 9 = .ok (.ireturn, 1) := by decide +kernel
theorem dX2_greatestCartOf_10 : decode cX2_greatestCartOf 10 = .ok (.aload_n 0, 1) := by decide +kernel
theorem dX2_greatestCartOf_11 : decode cX2_greatestCartOf 11 = .ok (.getfield 44, 3) := by decide +kernel
theorem dX2_greatestCartOf_14 : decode cX2_greatestCartOf 14 = .ok (.iload_n 1, 1) := by decide +kernel
theorem dX2_greatestCartOf_15 : decode cX2_greatestCartOf 15 = .ok (.aaload, 1) := by decide +kernel
theorem dX2_greatestCartOf_16 : decode cX2_greatestCartOf 16 = .ok (.astore_n 2, 1) := by decide +kernel
theorem dX2_greatestCartOf_17 : decode cX2_greatestCartOf 17 = .ok (.aload_n 2, 1) := by decide +kernel
theorem dX2_greatestCartOf_18 : decode cX2_greatestCartOf 18 = .ok (.aload_n 2, 1) := by decide +kernel
theorem dX2_greatestCartOf_19 : decode cX2_greatestCartOf 19 = .ok (.getfield 119, 3) := by decide +kernel
theorem dX2_greatestCartOf_22 : decode cX2_greatestCartOf 22 = .ok (.aload_n 0, 1) := by decide +kernel
theorem dX2_greatestCartOf_23 : decode cX2_greatestCartOf 23 = .ok (.aload_n 0, 1) := by decide +kernel
theorem dX2_greatestCartOf_24 : decode cX2_greatestCartOf 24 = .ok (.getfield 38, 3) := by decide +kernel
theorem dX2_greatestCartOf_27 : decode cX2_greatestCartOf 27 = .ok (.aload_n 2, 1) := by decide +kernel
theorem dX2_greatestCartOf_28 : decode cX2_greatestCartOf 28 = .ok (.getfield 116, 3) := by decide +kernel
theorem dX2_greatestCartOf_31 : decode cX2_greatestCartOf 31 = .ok (.aaload, 1) := by decide +kernel
theorem dX2_greatestCartOf_32 : decode cX2_greatestCartOf 32 = .ok (.invokevirtual 169, 3) := by decide +kernel
theorem dX2_greatestCartOf_35 : decode cX2_greatestCartOf 35 = .ok (.invokevirtual 184, 3) := by decide +kernel
theorem dX2_greatestCartOf_38 : decode cX2_greatestCartOf 38 = .ok (.istore_n 3, 1) := by decide +kernel
theorem dX2_greatestCartOf_39 : decode cX2_greatestCartOf 39 = .ok (.iload_n 3, 1) := by decide +kernel
theorem dX2_greatestCartOf_40 : decode cX2_greatestCartOf 40 = .ok (.ifCond .le 7, 3) := by decide +kernel
theorem dX2_greatestCartOf_43 : decode cX2_greatestCartOf 43 = .ok (.iload_n 3, 1) := by decide +kernel
theorem dX2_greatestCartOf_44 : decode cX2_greatestCartOf 44 = .ok (.goto 5, 3) := by decide +kernel
theorem dX2_greatestCartOf_47 : decode cX2_greatestCartOf 47 = .ok (.bipush (-9), 2) := by decide +kernel
theorem dX2_greatestCartOf_49 : decode cX2_greatestCartOf 49 = .ok (.ireturn, 1) := by decide +kernel
theorem dX2_cartsNeeded_0 : decode cX2_cartsNeeded 0 = .ok (.aload_n 0, 1) := by decide +kernel
theorem dX2_cartsNeeded_1 : decode cX2_cartsNeeded 1 = .ok (.iload_n 1, 1) := by decide +kernel
theorem dX2_cartsNeeded_2 : decode cX2_cartsNeeded 2 = .ok (.invokevirtual 129, 3) := by decide +kernel
theorem dX2_cartsNeeded_5 : decode cX2_cartsNeeded 5 = .ok (.ifCond .ne 5, 3) := by decide +kernel
theorem dX2_cartsNeeded_8 : decode cX2_cartsNeeded 8 = .ok (.iconst (-1), 1) := by decide +kernel
theorem dX2_cartsNeeded_9 : decode cX2_cartsNeeded 9 = .ok (.ireturn, 1) := by decide +kernel
theorem dX2_cartsNeeded_10 : decode cX2_cartsNeeded 10 = .ok (.aload_n 0, 1) := by decide +kernel
theorem dX2_cartsNeeded_11 : decode cX2_cartsNeeded 11 = .ok (.getfield 44, 3) := by decide +kernel
theorem dX2_cartsNeeded_14 : decode cX2_cartsNeeded 14 = .ok (.iload_n 1, 1) := by decide +kernel
theorem dX2_cartsNeeded_15 : decode cX2_cartsNeeded 15 = .ok (.aaload, 1) := by decide +kernel
theorem dX2_cartsNeeded_16 : decode cX2_cartsNeeded 16 = .ok (.astore_n 2, 1) := by decide +kernel
theorem dX2_cartsNeeded_17 : decode cX2_cartsNeeded 17 = .ok (.aload_n 0, 1) := by decide +kernel
theorem dX2_cartsNeeded_18 : decode cX2_cartsNeeded 18 = .ok (.getfield 38, 3) := by decide +kernel
theorem dX2_cartsNeeded_21 : decode cX2_cartsNeeded 21 = .ok (.aload_n 2, 1) := by decide +kernel
theorem dX2_cartsNeeded_22 : decode cX2_cartsNeeded 22 = .ok (.getfield 116, 3) := by decide +kernel
theorem dX2_cartsNeeded_25 : decode cX2_cartsNeeded 25 = .ok (.aaload, 1) := by decide +kernel
theorem dX2_cartsNeeded_26 : decode cX2_cartsNeeded 26 = .ok (.astore_n 3, 1) := by decide +kernel
theorem dX2_cartsNeeded_27 : decode cX2_cartsNeeded 27 = .ok (.aload_n 3, 1) := by decide +kernel
theorem dX2_cartsNeeded_28 : decode cX2_cartsNeeded 28 = .ok (.getfield 159, 3) := by decide +kernel
theorem dX2_cartsNeeded_31 : decode cX2_cartsNeeded 31 = .ok (.istore 4, 2) := by decide +kernel
theorem dX2_cartsNeeded_33 : decode cX2_cartsNeeded 33 = .ok (.aload_n 2, 1) := by decide +kernel
theorem dX2_cartsNeeded_34 : decode cX2_cartsNeeded 34 = .ok (.getfield 119, 3) := by decide +kernel
theorem dX2_cartsNeeded_37 : decode cX2_cartsNeeded 37 = .ok (.istore 5, 2) := by decide +kernel
theorem dX2_cartsNeeded_39 : decode cX2_cartsNeeded 39 = .ok (.iconst 1, 1) := by decide +kernel
theorem dX2_cartsNeeded_40 : decode cX2_cartsNeeded 40 = .ok (.istore 6, 2) := by decide +kernel
theorem dX2_cartsNeeded_42 : decode cX2_cartsNeeded 42 = .ok (.iload 6, 2) := by decide +kernel
theorem dX2_cartsNeeded_44 : decode cX2_cartsNeeded 44 = .ok (.aload_n 2, 1) := by decide +kernel
theorem dX2_cartsNeeded_45 : decode cX2_cartsNeeded 45 = .ok (.getfield 119, 3) := by decide +kernel
theorem dX2_cartsNeeded_48 : decode cX2_cartsNeeded 48 = .ok (.if_icmp .gt 64, 3) := by decide +kernel
theorem dX2_cartsNeeded_51 : decode cX2_cartsNeeded 51 = .ok (.aload_n 2, 1) := by decide +kernel
theorem dX2_cartsNeeded_52 : decode cX2_cartsNeeded 52 = .ok (.iload 5, 2) := by decide +kernel
theorem dX2_cartsNeeded_54 : decode cX2_cartsNeeded 54 = .ok (.aload_n 3, 1) := by decide +kernel
theorem dX2_cartsNeeded_55 : decode cX2_cartsNeeded 55 = .ok (.iload 4, 2) := by decide +kernel
theorem dX2_cartsNeeded_57 : decode cX2_cartsNeeded 57 = .ok (.aload_n 0, 1) := by decide +kernel
theorem dX2_cartsNeeded_58 : decode cX2_cartsNeeded 58 = .ok (.getfield 18, 3) := by decide +kernel
theorem dX2_cartsNeeded_61 : decode cX2_cartsNeeded 61 = .ok (.invokevirtual 162, 3) := by decide +kernel
theorem dX2_cartsNeeded_64 : decode cX2_cartsNeeded 64 = .ok (.invokevirtual 184, 3) := by decide +kernel
theorem dX2_cartsNeeded_67 : decode cX2_cartsNeeded 67 = .ok (.istore 7, 2) := by decide +kernel
theorem dX2_cartsNeeded_69 : decode cX2_cartsNeeded 69 = .ok (.iload 7, 2) := by decide +kernel
theorem dX2_cartsNeeded_71 : decode cX2_cartsNeeded 71 = .ok (.ifCond .gt 6, 3) := by decide +kernel
theorem dX2_cartsNeeded_74 : decode cX2_cartsNeeded 74 = .ok (.bipush (-9), 2) := by decide +kernel
theorem dX2_cartsNeeded_76 : decode cX2_cartsNeeded 76 = .ok (.ireturn, 1) := by decide +kernel
theorem dX2_cartsNeeded_77 : decode cX2_cartsNeeded 77 = .ok (.iload 5, 2) := by decide +kernel
theorem dX2_cartsNeeded_79 : decode cX2_cartsNeeded 79 = .ok (.iload 7, 2) := by decide +kernel
theorem dX2_cartsNeeded_81 : decode cX2_cartsNeeded 81 = .ok (.isub, 1) := by decide +kernel
theorem dX2_cartsNeeded_82 : decode cX2_cartsNeeded 82 = .ok (.istore 5, 2) := by decide +kernel
theorem dX2_cartsNeeded_84 : decode cX2_cartsNeeded 84 = .ok (.iload 5, 2) := by decide +kernel
theorem dX2_cartsNeeded_86 : decode cX2_cartsNeeded 86 = .ok (.ifCond .gt 6, 3) := by decide +kernel
theorem dX2_cartsNeeded_89 : decode cX2_cartsNeeded 89 = .ok (.iload 6, 2) := by decide +kernel
theorem dX2_cartsNeeded_91 : decode cX2_cartsNeeded 91 = .ok (.ireturn, 1) := by decide +kernel
theorem dX2_cartsNeeded_92 : decode cX2_cartsNeeded 92 = .ok (.iload 4, 2) := by decide +kernel
theorem dX2_cartsNeeded_94 : decode cX2_cartsNeeded 94 = .ok (.aload_n 2, 1) := by decide +kernel
theorem dX2_cartsNeeded_95 : decode cX2_cartsNeeded 95 = .ok (.iload 7, 2) := by decide +kernel
theorem dX2_cartsNeeded_97 : decode cX2_cartsNeeded 97 = .ok (.invokevirtual 165, 3) := by decide +kernel
theorem dX2_cartsNeeded_100 : decode cX2_cartsNeeded 100 = .ok (.invokestatic 181, 3) := by decide +kernel
theorem dX2_cartsNeeded_103 : decode cX2_cartsNeeded 103 = .ok (.iadd, 1) := by decide +kernel
theorem dX2_cartsNeeded_104 : decode cX2_cartsNeeded 104 = .ok (.istore 4, 2) := by decide +kernel
theorem dX2_cartsNeeded_106 : decode cX2_cartsNeeded 106 = .ok (.iinc 6 1, 3) := by decide +kernel
theorem dX2_cartsNeeded_109 : decode cX2_cartsNeeded 109 = .ok (.goto (-67), 3) := by decide +kernel
theorem dX2_cartsNeeded_112 : decode cX2_cartsNeeded 112 = .ok (.bipush (-9), 2) := by decide +kernel
theorem dX2_cartsNeeded_114 : decode cX2_cartsNeeded 114 = .ok (.ireturn, 1) := by decide +kernel
theorem dX2_householdProperty_0 : decode cX2_householdProperty 0 = .ok (.aload_n 0, 1) := by decide +kernel
theorem dX2_householdProperty_1 : decode cX2_householdProperty 1 = .ok (.iload_n 1, 1) := by decide +kernel
theorem dX2_householdProperty_2 : decode cX2_householdProperty 2 = .ok (.invokevirtual 68, 3) := by decide +kernel
theorem dX2_householdProperty_5 : decode cX2_householdProperty 5 = .ok (.ifCond .ne 5, 3) := by decide +kernel
theorem dX2_householdProperty_8 : decode cX2_householdProperty 8 = .ok (.iconst (-1), 1) := by decide +kernel
theorem dX2_householdProperty_9 : decode cX2_householdProperty 9 = .ok (.ireturn, 1) := by decide +kernel
theorem dX2_householdProperty_10 : decode cX2_householdProperty 10 = .ok (.iload_n 2, 1) := by decide +kernel
theorem dX2_householdProperty_11 : decode cX2_householdProperty 11 = .ok (.tableswitch 85 0 5 #[37, 47, 57, 67, 73, 79], 37) := by decide +kernel
theorem dX2_householdProperty_48 : decode cX2_householdProperty 48 = .ok (.aload_n 0, 1) := by decide +kernel
theorem dX2_householdProperty_49 : decode cX2_householdProperty 49 = .ok (.getfield 32, 3) := by decide +kernel
theorem dX2_householdProperty_52 : decode cX2_householdProperty 52 = .ok (.iload_n 1, 1) := by decide +kernel
theorem dX2_householdProperty_53 : decode cX2_householdProperty 53 = .ok (.aaload, 1) := by decide +kernel
theorem dX2_householdProperty_54 : decode cX2_householdProperty 54 = .ok (.getfield 65, 3) := by decide +kernel
theorem dX2_householdProperty_57 : decode cX2_householdProperty 57 = .ok (.ireturn, 1) := by decide +kernel
theorem dX2_householdProperty_58 : decode cX2_householdProperty 58 = .ok (.aload_n 0, 1) := by decide +kernel
theorem dX2_householdProperty_59 : decode cX2_householdProperty 59 = .ok (.getfield 32, 3) := by decide +kernel
theorem dX2_householdProperty_62 : decode cX2_householdProperty 62 = .ok (.iload_n 1, 1) := by decide +kernel
theorem dX2_householdProperty_63 : decode cX2_householdProperty 63 = .ok (.aaload, 1) := by decide +kernel
theorem dX2_householdProperty_64 : decode cX2_householdProperty 64 = .ok (.getfield 172, 3) := by decide +kernel
theorem dX2_householdProperty_67 : decode cX2_householdProperty 67 = .ok (.ireturn, 1) := by decide +kernel
theorem dX2_householdProperty_68 : decode cX2_householdProperty 68 = .ok (.aload_n 0, 1) := by decide +kernel
theorem dX2_householdProperty_69 : decode cX2_householdProperty 69 = .ok (.getfield 32, 3) := by decide +kernel
theorem dX2_householdProperty_72 : decode cX2_householdProperty 72 = .ok (.iload_n 1, 1) := by decide +kernel
theorem dX2_householdProperty_73 : decode cX2_householdProperty 73 = .ok (.aaload, 1) := by decide +kernel
theorem dX2_householdProperty_74 : decode cX2_householdProperty 74 = .ok (.getfield 175, 3) := by decide +kernel
theorem dX2_householdProperty_77 : decode cX2_householdProperty 77 = .ok (.ireturn, 1) := by decide +kernel
theorem dX2_householdProperty_78 : decode cX2_householdProperty 78 = .ok (.aload_n 0, 1) := by decide +kernel
theorem dX2_householdProperty_79 : decode cX2_householdProperty 79 = .ok (.iload_n 1, 1) := by decide +kernel
theorem dX2_householdProperty_80 : decode cX2_householdProperty 80 = .ok (.invokevirtual 187, 3) := by decide +kernel
theorem dX2_householdProperty_83 : decode cX2_householdProperty 83 = .ok (.ireturn, 1) := by decide +kernel
theorem dX2_householdProperty_84 : decode cX2_householdProperty 84 = .ok (.aload_n 0, 1) := by decide +kernel
theorem dX2_householdProperty_85 : decode cX2_householdProperty 85 = .ok (.iload_n 1, 1) := by decide +kernel
theorem dX2_householdProperty_86 : decode cX2_householdProperty 86 = .ok (.invokevirtual 190, 3) := by decide +kernel
theorem dX2_householdProperty_89 : decode cX2_householdProperty 89 = .ok (.ireturn, 1) := by decide +kernel
theorem dX2_householdProperty_90 : decode cX2_householdProperty 90 = .ok (.aload_n 0, 1) := by decide +kernel
theorem dX2_householdProperty_91 : decode cX2_householdProperty 91 = .ok (.iload_n 1, 1) := by decide +kernel
theorem dX2_householdProperty_92 : decode cX2_householdProperty 92 = .ok (.invokevirtual 193, 3) := by decide +kernel
theorem dX2_householdProperty_95 : decode cX2_householdProperty 95 = .ok (.ireturn, 1) := by decide +kernel
theorem dX2_householdProperty_96 : decode cX2_householdProperty 96 = .ok (.iconst (-1), 1) := by decide +kernel
theorem dX2_householdProperty_97 : decode cX2_householdProperty 97 = .ok (.ireturn, 1) := by decide +kernel
theorem dX2_rightsOf_0 : decode cX2_rightsOf 0 = .ok (.iconst 0, 1) := by decide +kernel
theorem dX2_rightsOf_1 : decode cX2_rightsOf 1 = .ok (.istore_n 2, 1) := by decide +kernel
theorem dX2_rightsOf_2 : decode cX2_rightsOf 2 = .ok (.iconst 0, 1) := by decide +kernel
theorem dX2_rightsOf_3 : decode cX2_rightsOf 3 = .ok (.istore_n 3, 1) := by decide +kernel
theorem dX2_rightsOf_4 : decode cX2_rightsOf 4 = .ok (.iload_n 3, 1) := by decide +kernel
theorem dX2_rightsOf_5 : decode cX2_rightsOf 5 = .ok (.aload_n 0, 1) := by decide +kernel
theorem dX2_rightsOf_6 : decode cX2_rightsOf 6 = .ok (.getfield 24, 3) := by decide +kernel
theorem dX2_rightsOf_9 : decode cX2_rightsOf 9 = .ok (.if_icmp .ge 26, 3) := by decide +kernel
theorem dX2_rightsOf_12 : decode cX2_rightsOf 12 = .ok (.aload_n 0, 1) := by decide +kernel
theorem dX2_rightsOf_13 : decode cX2_rightsOf 13 = .ok (.getfield 38, 3) := by decide +kernel
theorem dX2_rightsOf_16 : decode cX2_rightsOf 16 = .ok (.iload_n 3, 1) := by decide +kernel
theorem dX2_rightsOf_17 : decode cX2_rightsOf 17 = .ok (.aaload, 1) := by decide +kernel
theorem dX2_rightsOf_18 : decode cX2_rightsOf 18 = .ok (.getfield 81, 3) := by decide +kernel
theorem dX2_rightsOf_21 : decode cX2_rightsOf 21 = .ok (.iload_n 1, 1) := by decide +kernel
theorem dX2_rightsOf_22 : decode cX2_rightsOf 22 = .ok (.baload, 1) := by decide +kernel
theorem dX2_rightsOf_23 : decode cX2_rightsOf 23 = .ok (.ifCond .eq 6, 3) := by decide +kernel
theorem dX2_rightsOf_26 : decode cX2_rightsOf 26 = .ok (.iinc 2 1, 3) := by decide +kernel
theorem dX2_rightsOf_29 : decode cX2_rightsOf 29 = .ok (.iinc 3 1, 3) := by decide +kernel
theorem dX2_rightsOf_32 : decode cX2_rightsOf 32 = .ok (.goto (-28), 3) := by decide +kernel
theorem dX2_rightsOf_35 : decode cX2_rightsOf 35 = .ok (.iload_n 2, 1) := by decide +kernel
theorem dX2_rightsOf_36 : decode cX2_rightsOf 36 = .ok (.ireturn, 1) := by decide +kernel
theorem dX2_stacksOf_0 : decode cX2_stacksOf 0 = .ok (.iconst 0, 1) := by decide +kernel
theorem dX2_stacksOf_1 : decode cX2_stacksOf 1 = .ok (.istore_n 2, 1) := by decide +kernel
theorem dX2_stacksOf_2 : decode cX2_stacksOf 2 = .ok (.iconst 0, 1) := by decide +kernel
theorem dX2_stacksOf_3 : decode cX2_stacksOf 3 = .ok (.istore_n 3, 1) := by decide +kernel
theorem dX2_stacksOf_4 : decode cX2_stacksOf 4 = .ok (.iload_n 3, 1) := by decide +kernel
theorem dX2_stacksOf_5 : decode cX2_stacksOf 5 = .ok (.aload_n 0, 1) := by decide +kernel
theorem dX2_stacksOf_6 : decode cX2_stacksOf 6 = .ok (.getfield 27, 3) := by decide +kernel
theorem dX2_stacksOf_9 : decode cX2_stacksOf 9 = .ok (.if_icmp .ge 25, 3) := by decide +kernel
theorem dX2_stacksOf_12 : decode cX2_stacksOf 12 = .ok (.aload_n 0, 1) := by decide +kernel
theorem dX2_stacksOf_13 : decode cX2_stacksOf 13 = .ok (.getfield 44, 3) := by decide +kernel
theorem dX2_stacksOf_16 : decode cX2_stacksOf 16 = .ok (.iload_n 3, 1) := by decide +kernel
theorem dX2_stacksOf_17 : decode cX2_stacksOf 17 = .ok (.aaload, 1) := by decide +kernel
theorem dX2_stacksOf_18 : decode cX2_stacksOf 18 = .ok (.getfield 113, 3) := by decide +kernel
theorem dX2_stacksOf_21 : decode cX2_stacksOf 21 = .ok (.iload_n 1, 1) := by decide +kernel
theorem dX2_stacksOf_22 : decode cX2_stacksOf 22 = .ok (.if_icmp .ne 6, 3) := by decide +kernel
theorem dX2_stacksOf_25 : decode cX2_stacksOf 25 = .ok (.iinc 2 1, 3) := by decide +kernel
theorem dX2_stacksOf_28 : decode cX2_stacksOf 28 = .ok (.iinc 3 1, 3) := by decide +kernel
theorem dX2_stacksOf_31 : decode cX2_stacksOf 31 = .ok (.goto (-27), 3) := by decide +kernel
theorem dX2_stacksOf_34 : decode cX2_stacksOf 34 = .ok (.iload_n 2, 1) := by decide +kernel
theorem dX2_stacksOf_35 : decode cX2_stacksOf 35 = .ok (.ireturn, 1) := by decide +kernel
theorem dX2_turfsInStacksOf_0 : decode cX2_turfsInStacksOf 0 = .ok (.iconst 0, 1) := by decide +kernel
theorem dX2_turfsInStacksOf_1 : decode cX2_turfsInStacksOf 1 = .ok (.istore_n 2, 1) := by decide +kernel
theorem dX2_turfsInStacksOf_2 : decode cX2_turfsInStacksOf 2 = .ok (.iconst 0, 1) := by decide +kernel
theorem dX2_turfsInStacksOf_3 : decode cX2_turfsInStacksOf 3 = .ok (.istore_n 3, 1) := by decide +kernel
theorem dX2_turfsInStacksOf_4 : decode cX2_turfsInStacksOf 4 = .ok (.iload_n 3, 1) := by decide +kernel
theorem dX2_turfsInStacksOf_5 : decode cX2_turfsInStacksOf 5 = .ok (.aload_n 0, 1) := by decide +kernel
theorem dX2_turfsInStacksOf_6 : decode cX2_turfsInStacksOf 6 = .ok (.getfield 27, 3) := by decide +kernel
theorem dX2_turfsInStacksOf_9 : decode cX2_turfsInStacksOf 9 = .ok (.if_icmp .ge 34, 3) := by decide +kernel
theorem dX2_turfsInStacksOf_12 : decode cX2_turfsInStacksOf 12 = .ok (.aload_n 0, 1) := by decide +kernel
theorem dX2_turfsInStacksOf_13 : decode cX2_turfsInStacksOf 13 = .ok (.getfield 44, 3) := by decide +kernel
theorem dX2_turfsInStacksOf_16 : decode cX2_turfsInStacksOf 16 = .ok (.iload_n 3, 1) := by decide +kernel
theorem dX2_turfsInStacksOf_17 : decode cX2_turfsInStacksOf 17 = .ok (.aaload, 1) := by decide +kernel
theorem dX2_turfsInStacksOf_18 : decode cX2_turfsInStacksOf 18 = .ok (.getfield 113, 3) := by decide +kernel
theorem dX2_turfsInStacksOf_21 : decode cX2_turfsInStacksOf 21 = .ok (.iload_n 1, 1) := by decide +kernel
theorem dX2_turfsInStacksOf_22 : decode cX2_turfsInStacksOf 22 = .ok (.if_icmp .ne 15, 3) := by decide +kernel
theorem dX2_turfsInStacksOf_25 : decode cX2_turfsInStacksOf 25 = .ok (.iload_n 2, 1) := by decide +kernel
theorem dX2_turfsInStacksOf_26 : decode cX2_turfsInStacksOf 26 = .ok (.aload_n 0, 1) := by decide +kernel
theorem dX2_turfsInStacksOf_27 : decode cX2_turfsInStacksOf 27 = .ok (.getfield 44, 3) := by decide +kernel
theorem dX2_turfsInStacksOf_30 : decode cX2_turfsInStacksOf 30 = .ok (.iload_n 3, 1) := by decide +kernel
theorem dX2_turfsInStacksOf_31 : decode cX2_turfsInStacksOf 31 = .ok (.aaload, 1) := by decide +kernel
theorem dX2_turfsInStacksOf_32 : decode cX2_turfsInStacksOf 32 = .ok (.getfield 119, 3) := by decide +kernel
theorem dX2_turfsInStacksOf_35 : decode cX2_turfsInStacksOf 35 = .ok (.iadd, 1) := by decide +kernel
theorem dX2_turfsInStacksOf_36 : decode cX2_turfsInStacksOf 36 = .ok (.istore_n 2, 1) := by decide +kernel
theorem dX2_turfsInStacksOf_37 : decode cX2_turfsInStacksOf 37 = .ok (.iinc 3 1, 3) := by decide +kernel
theorem dX2_turfsInStacksOf_40 : decode cX2_turfsInStacksOf 40 = .ok (.goto (-36), 3) := by decide +kernel
theorem dX2_turfsInStacksOf_43 : decode cX2_turfsInStacksOf 43 = .ok (.iload_n 2, 1) := by decide +kernel
theorem dX2_turfsInStacksOf_44 : decode cX2_turfsInStacksOf 44 = .ok (.ireturn, 1) := by decide +kernel
theorem dX2_bankProperty_0 : decode cX2_bankProperty 0 = .ok (.aload_n 0, 1) := by decide +kernel
theorem dX2_bankProperty_1 : decode cX2_bankProperty 1 = .ok (.iload_n 1, 1) := by decide +kernel
theorem dX2_bankProperty_2 : decode cX2_bankProperty 2 = .ok (.invokevirtual 78, 3) := by decide +kernel
theorem dX2_bankProperty_5 : decode cX2_bankProperty 5 = .ok (.ifCond .ne 5, 3) := by decide +kernel
theorem dX2_bankProperty_8 : decode cX2_bankProperty 8 = .ok (.iconst (-1), 1) := by decide +kernel
theorem dX2_bankProperty_9 : decode cX2_bankProperty 9 = .ok (.ireturn, 1) := by decide +kernel
theorem dX2_bankProperty_10 : decode cX2_bankProperty 10 = .ok (.aload_n 0, 1) := by decide +kernel
theorem dX2_bankProperty_11 : decode cX2_bankProperty 11 = .ok (.getfield 38, 3) := by decide +kernel
theorem dX2_bankProperty_14 : decode cX2_bankProperty 14 = .ok (.iload_n 1, 1) := by decide +kernel
theorem dX2_bankProperty_15 : decode cX2_bankProperty 15 = .ok (.aaload, 1) := by decide +kernel
theorem dX2_bankProperty_16 : decode cX2_bankProperty 16 = .ok (.astore_n 3, 1) := by decide +kernel
theorem dX2_bankProperty_17 : decode cX2_bankProperty 17 = .ok (.iload_n 2, 1) := by decide +kernel
theorem dX2_bankProperty_18 : decode cX2_bankProperty 18 = .ok (.tableswitch 97 0 8 #[50, 55, 60, 65, 71, 76, 81, 87, 92], 50) := by decide +kernel
theorem dX2_bankProperty_68 : decode cX2_bankProperty 68 = .ok (.aload_n 3, 1) := by decide +kernel
theorem dX2_bankProperty_69 : decode cX2_bankProperty 69 = .ok (.getfield 72, 3) := by decide +kernel
theorem dX2_bankProperty_72 : decode cX2_bankProperty 72 = .ok (.ireturn, 1) := by decide +kernel
theorem dX2_bankProperty_73 : decode cX2_bankProperty 73 = .ok (.aload_n 3, 1) := by decide +kernel
theorem dX2_bankProperty_74 : decode cX2_bankProperty 74 = .ok (.getfield 75, 3) := by decide +kernel
theorem dX2_bankProperty_77 : decode cX2_bankProperty 77 = .ok (.ireturn, 1) := by decide +kernel
theorem dX2_bankProperty_78 : decode cX2_bankProperty 78 = .ok (.aload_n 3, 1) := by decide +kernel
theorem dX2_bankProperty_79 : decode cX2_bankProperty 79 = .ok (.getfield 159, 3) := by decide +kernel
theorem dX2_bankProperty_82 : decode cX2_bankProperty 82 = .ok (.ireturn, 1) := by decide +kernel
theorem dX2_bankProperty_83 : decode cX2_bankProperty 83 = .ok (.aload_n 0, 1) := by decide +kernel
theorem dX2_bankProperty_84 : decode cX2_bankProperty 84 = .ok (.aload_n 3, 1) := by decide +kernel
theorem dX2_bankProperty_85 : decode cX2_bankProperty 85 = .ok (.invokevirtual 169, 3) := by decide +kernel
theorem dX2_bankProperty_88 : decode cX2_bankProperty 88 = .ok (.ireturn, 1) := by decide +kernel
theorem dX2_bankProperty_89 : decode cX2_bankProperty 89 = .ok (.aload_n 3, 1) := by decide +kernel
theorem dX2_bankProperty_90 : decode cX2_bankProperty 90 = .ok (.invokevirtual 196, 3) := by decide +kernel
theorem dX2_bankProperty_93 : decode cX2_bankProperty 93 = .ok (.ireturn, 1) := by decide +kernel
theorem dX2_bankProperty_94 : decode cX2_bankProperty 94 = .ok (.aload_n 3, 1) := by decide +kernel
theorem dX2_bankProperty_95 : decode cX2_bankProperty 95 = .ok (.getfield 110, 3) := by decide +kernel
theorem dX2_bankProperty_98 : decode cX2_bankProperty 98 = .ok (.ireturn, 1) := by decide +kernel
theorem dX2_bankProperty_99 : decode cX2_bankProperty 99 = .ok (.aload_n 0, 1) := by decide +kernel
theorem dX2_bankProperty_100 : decode cX2_bankProperty 100 = .ok (.iload_n 1, 1) := by decide +kernel
theorem dX2_bankProperty_101 : decode cX2_bankProperty 101 = .ok (.invokevirtual 199, 3) := by decide +kernel
theorem dX2_bankProperty_104 : decode cX2_bankProperty 104 = .ok (.ireturn, 1) := by decide +kernel
theorem dX2_bankProperty_105 : decode cX2_bankProperty 105 = .ok (.aload_n 3, 1) := by decide +kernel
theorem dX2_bankProperty_106 : decode cX2_bankProperty 106 = .ok (.getfield 178, 3) := by decide +kernel
theorem dX2_bankProperty_109 : decode cX2_bankProperty 109 = .ok (.ireturn, 1) := by decide +kernel
theorem dX2_bankProperty_110 : decode cX2_bankProperty 110 = .ok (.aload_n 3, 1) := by decide +kernel
theorem dX2_bankProperty_111 : decode cX2_bankProperty 111 = .ok (.getfield 153, 3) := by decide +kernel
theorem dX2_bankProperty_114 : decode cX2_bankProperty 114 = .ok (.ireturn, 1) := by decide +kernel
theorem dX2_bankProperty_115 : decode cX2_bankProperty 115 = .ok (.iconst (-1), 1) := by decide +kernel
theorem dX2_bankProperty_116 : decode cX2_bankProperty 116 = .ok (.ireturn, 1) := by decide +kernel
theorem dX2_turfsInStacksAt_0 : decode cX2_turfsInStacksAt 0 = .ok (.iconst 0, 1) := by decide +kernel
theorem dX2_turfsInStacksAt_1 : decode cX2_turfsInStacksAt 1 = .ok (.istore_n 2, 1) := by decide +kernel
theorem dX2_turfsInStacksAt_2 : decode cX2_turfsInStacksAt 2 = .ok (.iconst 0, 1) := by decide +kernel
theorem dX2_turfsInStacksAt_3 : decode cX2_turfsInStacksAt 3 = .ok (.istore_n 3, 1) := by decide +kernel
theorem dX2_turfsInStacksAt_4 : decode cX2_turfsInStacksAt 4 = .ok (.iload_n 3, 1) := by decide +kernel
theorem dX2_turfsInStacksAt_5 : decode cX2_turfsInStacksAt 5 = .ok (.aload_n 0, 1) := by decide +kernel
theorem dX2_turfsInStacksAt_6 : decode cX2_turfsInStacksAt 6 = .ok (.getfield 27, 3) := by decide +kernel
theorem dX2_turfsInStacksAt_9 : decode cX2_turfsInStacksAt 9 = .ok (.if_icmp .ge 34, 3) := by decide +kernel
theorem dX2_turfsInStacksAt_12 : decode cX2_turfsInStacksAt 12 = .ok (.aload_n 0, 1) := by decide +kernel
theorem dX2_turfsInStacksAt_13 : decode cX2_turfsInStacksAt 13 = .ok (.getfield 44, 3) := by decide +kernel
theorem dX2_turfsInStacksAt_16 : decode cX2_turfsInStacksAt 16 = .ok (.iload_n 3, 1) := by decide +kernel
theorem dX2_turfsInStacksAt_17 : decode cX2_turfsInStacksAt 17 = .ok (.aaload, 1) := by decide +kernel
theorem dX2_turfsInStacksAt_18 : decode cX2_turfsInStacksAt 18 = .ok (.getfield 116, 3) := by decide +kernel
theorem dX2_turfsInStacksAt_21 : decode cX2_turfsInStacksAt 21 = .ok (.iload_n 1, 1) := by decide +kernel
theorem dX2_turfsInStacksAt_22 : decode cX2_turfsInStacksAt 22 = .ok (.if_icmp .ne 15, 3) := by decide +kernel
theorem dX2_turfsInStacksAt_25 : decode cX2_turfsInStacksAt 25 = .ok (.iload_n 2, 1) := by decide +kernel
theorem dX2_turfsInStacksAt_26 : decode cX2_turfsInStacksAt 26 = .ok (.aload_n 0, 1) := by decide +kernel
theorem dX2_turfsInStacksAt_27 : decode cX2_turfsInStacksAt 27 = .ok (.getfield 44, 3) := by decide +kernel
theorem dX2_turfsInStacksAt_30 : decode cX2_turfsInStacksAt 30 = .ok (.iload_n 3, 1) := by decide +kernel
theorem dX2_turfsInStacksAt_31 : decode cX2_turfsInStacksAt 31 = .ok (.aaload, 1) := by decide +kernel
theorem dX2_turfsInStacksAt_32 : decode cX2_turfsInStacksAt 32 = .ok (.getfield 119, 3) := by decide +kernel
theorem dX2_turfsInStacksAt_35 : decode cX2_turfsInStacksAt 35 = .ok (.iadd, 1) := by decide +kernel
theorem dX2_turfsInStacksAt_36 : decode cX2_turfsInStacksAt 36 = .ok (.istore_n 2, 1) := by decide +kernel
theorem dX2_turfsInStacksAt_37 : decode cX2_turfsInStacksAt 37 = .ok (.iinc 3 1, 3) := by decide +kernel
theorem dX2_turfsInStacksAt_40 : decode cX2_turfsInStacksAt 40 = .ok (.goto (-36), 3) := by decide +kernel
theorem dX2_turfsInStacksAt_43 : decode cX2_turfsInStacksAt 43 = .ok (.iload_n 2, 1) := by decide +kernel
theorem dX2_turfsInStacksAt_44 : decode cX2_turfsInStacksAt 44 = .ok (.ireturn, 1) := by decide +kernel
theorem dX2_worthOfShed_0 : decode cX2_worthOfShed 0 = .ok (.aload_n 0, 1) := by decide +kernel
theorem dX2_worthOfShed_1 : decode cX2_worthOfShed 1 = .ok (.iload_n 1, 1) := by decide +kernel
theorem dX2_worthOfShed_2 : decode cX2_worthOfShed 2 = .ok (.invokevirtual 68, 3) := by decide +kernel
theorem dX2_worthOfShed_5 : decode cX2_worthOfShed 5 = .ok (.ifCond .eq 13, 3) := by decide +kernel
theorem dX2_worthOfShed_8 : decode cX2_worthOfShed 8 = .ok (.iload_n 2, 1) := by decide +kernel
theorem dX2_worthOfShed_9 : decode cX2_worthOfShed 9 = .ok (.iconst 0, 1) := by decide +kernel
theorem dX2_worthOfShed_10 : decode cX2_worthOfShed 10 = .ok (.ldc 202, 2) := by decide +kernel
theorem dX2_worthOfShed_12 : decode cX2_worthOfShed 12 = .ok (.invokestatic 61, 3) := by decide +kernel
theorem dX2_worthOfShed_15 : decode cX2_worthOfShed 15 = .ok (.ifCond .ne 5, 3) := by decide +kernel
theorem dX2_worthOfShed_18 : decode cX2_worthOfShed 18 = .ok (.iconst (-1), 1) := by decide +kernel
theorem dX2_worthOfShed_19 : decode cX2_worthOfShed 19 = .ok (.ireturn, 1) := by decide +kernel
theorem dX2_worthOfShed_20 : decode cX2_worthOfShed 20 = .ok (.aload_n 0, 1) := by decide +kernel
theorem dX2_worthOfShed_21 : decode cX2_worthOfShed 21 = .ok (.getfield 32, 3) := by decide +kernel
theorem dX2_worthOfShed_24 : decode cX2_worthOfShed 24 = .ok (.iload_n 1, 1) := by decide +kernel
theorem dX2_worthOfShed_25 : decode cX2_worthOfShed 25 = .ok (.aaload, 1) := by decide +kernel
theorem dX2_worthOfShed_26 : decode cX2_worthOfShed 26 = .ok (.getfield 172, 3) := by decide +kernel
theorem dX2_worthOfShed_29 : decode cX2_worthOfShed 29 = .ok (.i2l, 1) := by decide +kernel
theorem dX2_worthOfShed_30 : decode cX2_worthOfShed 30 = .ok (.iload_n 2, 1) := by decide +kernel
theorem dX2_worthOfShed_31 : decode cX2_worthOfShed 31 = .ok (.i2l, 1) := by decide +kernel
theorem dX2_worthOfShed_32 : decode cX2_worthOfShed 32 = .ok (.lmul, 1) := by decide +kernel
theorem dX2_worthOfShed_33 : decode cX2_worthOfShed 33 = .ok (.lstore_n 3, 1) := by decide +kernel
theorem dX2_worthOfShed_34 : decode cX2_worthOfShed 34 = .ok (.lload_n 3, 1) := by decide +kernel
theorem dX2_worthOfShed_35 : decode cX2_worthOfShed 35 = .ok (.ldc2_w 203, 3) := by decide +kernel
theorem dX2_worthOfShed_38 : decode cX2_worthOfShed 38 = .ok (.lcmp, 1) := by decide +kernel
theorem dX2_worthOfShed_39 : decode cX2_worthOfShed 39 = .ok (.ifCond .le 8, 3) := by decide +kernel
theorem dX2_worthOfShed_42 : decode cX2_worthOfShed 42 = .ok (.bipush (-9), 2) := by decide +kernel
theorem dX2_worthOfShed_44 : decode cX2_worthOfShed 44 = .ok (.goto 5, 3) := by decide +kernel
theorem dX2_worthOfShed_47 : decode cX2_worthOfShed 47 = .ok (.lload_n 3, 1) := by decide +kernel
theorem dX2_worthOfShed_48 : decode cX2_worthOfShed 48 = .ok (.l2i, 1) := by decide +kernel
theorem dX2_worthOfShed_49 : decode cX2_worthOfShed 49 = .ok (.ireturn, 1) := by decide +kernel
theorem dX3_init_0 : decode cX3_init 0 = .ok (.aload_n 0, 1) := by decide +kernel
theorem dX3_init_1 : decode cX3_init 1 = .ok (.invokespecial 3, 3) := by decide +kernel
theorem dX3_init_4 : decode cX3_init 4 = .ok (.aload_n 0, 1) := by decide +kernel
theorem dX3_init_5 : decode cX3_init 5 = .ok (.sipush 140, 3) := by decide +kernel
theorem dX3_init_8 : decode cX3_init 8 = .ok (.newarray .char, 2) := by decide +kernel
theorem dX3_init_10 : decode cX3_init 10 = .ok (.putfield 9, 3) := by decide +kernel
theorem dX3_init_13 : decode cX3_init 13 = .ok (.aload_n 0, 1) := by decide +kernel
theorem dX3_init_14 : decode cX3_init 14 = .ok (.iconst 0, 1) := by decide +kernel
theorem dX3_init_15 : decode cX3_init 15 = .ok (.putfield 15, 3) := by decide +kernel
theorem dX3_init_18 : decode cX3_init 18 = .ok (.aload_n 0, 1) := by decide +kernel
theorem dX3_init_19 : decode cX3_init 19 = .ok (.iconst 0, 1) := by decide +kernel
theorem dX3_init_20 : decode cX3_init 20 = .ok (.putfield 19, 3) := by decide +kernel
theorem dX3_init_23 : decode cX3_init 23 = .ok (.aload_n 0, 1) := by decide +kernel
theorem dX3_init_24 : decode cX3_init 24 = .ok (.iconst 0, 1) := by decide +kernel
theorem dX3_init_25 : decode cX3_init 25 = .ok (.putfield 22, 3) := by decide +kernel
theorem dX3_init_28 : decode cX3_init 28 = .ok (.aload_n 0, 1) := by decide +kernel
theorem dX3_init_29 : decode cX3_init 29 = .ok (.iconst 3, 1) := by decide +kernel
theorem dX3_init_30 : decode cX3_init 30 = .ok (.newarray .int, 2) := by decide +kernel
theorem dX3_init_32 : decode cX3_init 32 = .ok (.putfield 25, 3) := by decide +kernel
theorem dX3_init_35 : decode cX3_init 35 = .ok (.return_, 1) := by decide +kernel
theorem dX3_addCharacter_0 : decode cX3_addCharacter 0 = .ok (.iload_n 1, 1) := by decide +kernel
theorem dX3_addCharacter_1 : decode cX3_addCharacter 1 = .ok (.iconst 1, 1) := by decide +kernel
theorem dX3_addCharacter_2 : decode cX3_addCharacter 2 = .ok (.sipush 255, 3) := by decide +kernel
theorem dX3_addCharacter_5 : decode cX3_addCharacter 5 = .ok (.invokestatic 29, 3) := by decide +kernel
theorem dX3_addCharacter_8 : decode cX3_addCharacter 8 = .ok (.ifCond .ne 5, 3) := by decide +kernel
theorem dX3_addCharacter_11 : decode cX3_addCharacter 11 = .ok (.iconst (-1), 1) := by decide +kernel
theorem dX3_addCharacter_12 : decode cX3_addCharacter 12 = .ok (.ireturn, 1) := by decide +kernel
theorem dX3_addCharacter_13 : decode cX3_addCharacter 13 = .ok (.aload_n 0, 1) := by decide +kernel
theorem dX3_addCharacter_14 : decode cX3_addCharacter 14 = .ok (.getfield 15, 3) := by decide +kernel
theorem dX3_addCharacter_17 : decode cX3_addCharacter 17 = .ok (.sipush 140, 3) := by decide +kernel
theorem dX3_addCharacter_20 : decode cX3_addCharacter 20 = .ok (.if_icmp .lt 6, 3) := by decide +kernel
theorem dX3_addCharacter_23 : decode cX3_addCharacter 23 = .ok (.bipush (-3), 2) := by decide +kernel
theorem dX3_addCharacter_25 : decode cX3_addCharacter 25 = .ok (.ireturn, 1) := by decide +kernel
theorem dX3_addCharacter_26 : decode cX3_addCharacter 26 = .ok (.aload_n 0, 1) := by decide +kernel
theorem dX3_addCharacter_27 : decode cX3_addCharacter 27 = .ok (.getfield 9, 3) := by decide +kernel
theorem dX3_addCharacter_30 : decode cX3_addCharacter 30 = .ok (.aload_n 0, 1) := by decide +kernel
theorem dX3_addCharacter_31 : decode cX3_addCharacter 31 = .ok (.getfield 15, 3) := by decide +kernel
theorem dX3_addCharacter_34 : decode cX3_addCharacter 34 = .ok (.iload_n 1, 1) := by decide +kernel
theorem dX3_addCharacter_35 : decode cX3_addCharacter 35 = .ok (.i2c, 1) := by decide +kernel
theorem dX3_addCharacter_36 : decode cX3_addCharacter 36 = .ok (.castore, 1) := by decide +kernel
theorem dX3_addCharacter_37 : decode cX3_addCharacter 37 = .ok (.aload_n 0, 1) := by decide +kernel
theorem dX3_addCharacter_38 : decode cX3_addCharacter 38 = .ok (.dup, 1) := by decide +kernel
theorem dX3_addCharacter_39 : decode cX3_addCharacter 39 = .ok (.getfield 15, 3) := by decide +kernel
theorem dX3_addCharacter_42 : decode cX3_addCharacter 42 = .ok (.iconst 1, 1) := by decide +kernel
theorem dX3_addCharacter_43 : decode cX3_addCharacter 43 = .ok (.iadd, 1) := by decide +kernel
theorem dX3_addCharacter_44 : decode cX3_addCharacter 44 = .ok (.putfield 15, 3) := by decide +kernel
theorem dX3_addCharacter_47 : decode cX3_addCharacter 47 = .ok (.aload_n 0, 1) := by decide +kernel
theorem dX3_addCharacter_48 : decode cX3_addCharacter 48 = .ok (.getfield 15, 3) := by decide +kernel
theorem dX3_addCharacter_51 : decode cX3_addCharacter 51 = .ok (.ireturn, 1) := by decide +kernel
theorem dX3_clearCharacters_0 : decode cX3_clearCharacters 0 = .ok (.aload_n 0, 1) := by decide +kernel
theorem dX3_clearCharacters_1 : decode cX3_clearCharacters 1 = .ok (.getfield 15, 3) := by decide +kernel
theorem dX3_clearCharacters_4 : decode cX3_clearCharacters 4 = .ok (.istore_n 1, 1) := by decide +kernel
theorem dX3_clearCharacters_5 : decode cX3_clearCharacters 5 = .ok (.aload_n 0, 1) := by decide +kernel
theorem dX3_clearCharacters_6 : decode cX3_clearCharacters 6 = .ok (.iconst 0, 1) := by decide +kernel
theorem dX3_clearCharacters_7 : decode cX3_clearCharacters 7 = .ok (.putfield 15, 3) := by decide +kernel
theorem dX3_clearCharacters_10 : decode cX3_clearCharacters 10 = .ok (.iload_n 1, 1) := by decide +kernel
theorem dX3_clearCharacters_11 : decode cX3_clearCharacters 11 = .ok (.ireturn, 1) := by decide +kernel
theorem dX3_runOn_0 : decode cX3_runOn 0 = .ok (.aload_n 0, 1) := by decide +kernel
theorem dX3_runOn_1 : decode cX3_runOn 1 = .ok (.iconst 0, 1) := by decide +kernel
theorem dX3_runOn_2 : decode cX3_runOn 2 = .ok (.putfield 22, 3) := by decide +kernel
theorem dX3_runOn_5 : decode cX3_runOn 5 = .ok (.iconst 0, 1) := by decide +kernel
theorem dX3_runOn_6 : decode cX3_runOn 6 = .ok (.istore_n 2, 1) := by decide +kernel
theorem dX3_runOn_7 : decode cX3_runOn 7 = .ok (.iload_n 2, 1) := by decide +kernel
theorem dX3_runOn_8 : decode cX3_runOn 8 = .ok (.sipush 140, 3) := by decide +kernel
theorem dX3_runOn_11 : decode cX3_runOn 11 = .ok (.if_icmp .ge 43, 3) := by decide +kernel
theorem dX3_runOn_14 : decode cX3_runOn 14 = .ok (.aload_n 0, 1) := by decide +kernel
theorem dX3_runOn_15 : decode cX3_runOn 15 = .ok (.invokevirtual 33, 3) := by decide +kernel
theorem dX3_runOn_18 : decode cX3_runOn 18 = .ok (.aload_n 0, 1) := by decide +kernel
theorem dX3_runOn_19 : decode cX3_runOn 19 = .ok (.getfield 19, 3) := by decide +kernel
theorem dX3_runOn_22 : decode cX3_runOn 22 = .ok (.aload_n 0, 1) := by decide +kernel
theorem dX3_runOn_23 : decode cX3_runOn 23 = .ok (.getfield 15, 3) := by decide +kernel
theorem dX3_runOn_26 : decode cX3_runOn 26 = .ok (.if_icmp .lt 5, 3) := by decide +kernel
theorem dX3_runOn_29 : decode cX3_runOn 29 = .ok (.iload_n 2, 1) := by decide +kernel
theorem dX3_runOn_30 : decode cX3_runOn 30 = .ok (.ireturn, 1) := by decide +kernel
theorem dX3_runOn_31 : decode cX3_runOn 31 = .ok (.aload_n 0, 1) := by decide +kernel
theorem dX3_runOn_32 : decode cX3_runOn 32 = .ok (.aload_n 1, 1) := by decide +kernel
theorem dX3_runOn_33 : decode cX3_runOn 33 = .ok (.invokevirtual 36, 3) := by decide +kernel
theorem dX3_runOn_36 : decode cX3_runOn 36 = .ok (.istore_n 3, 1) := by decide +kernel
theorem dX3_runOn_37 : decode cX3_runOn 37 = .ok (.iload_n 3, 1) := by decide +kernel
theorem dX3_runOn_38 : decode cX3_runOn 38 = .ok (.iconst (-1), 1) := by decide +kernel
theorem dX3_runOn_39 : decode cX3_runOn 39 = .ok (.if_icmp .eq 9, 3) := by decide +kernel
theorem dX3_runOn_42 : decode cX3_runOn 42 = .ok (.sipush (-1000), 3) := by decide +kernel
theorem dX3_runOn_45 : decode cX3_runOn 45 = .ok (.iload_n 3, 1) := by decide +kernel
theorem dX3_runOn_46 : decode cX3_runOn 46 = .ok (.isub, 1) := by decide +kernel
theorem dX3_runOn_47 : decode cX3_runOn 47 = .ok (.ireturn, 1) := by decide +kernel
theorem dX3_runOn_48 : decode cX3_runOn 48 = .ok (.iinc 2 1, 3) := by decide +kernel
theorem dX3_runOn_51 : decode cX3_runOn 51 = .ok (.goto (-44), 3) := by decide +kernel
theorem dX3_runOn_54 : decode cX3_runOn 54 = .ok (.sipush 140, 3) := by decide +kernel
theorem dX3_runOn_57 : decode cX3_runOn 57 = .ok (.ireturn, 1) := by decide +kernel
theorem dX3_runCommand_0 : decode cX3_runCommand 0 = .ok (.aload_n 0, 1) := by decide +kernel
theorem dX3_runCommand_1 : decode cX3_runCommand 1 = .ok (.getfield 19, 3) := by decide +kernel
theorem dX3_runCommand_4 : decode cX3_runCommand 4 = .ok (.istore_n 2, 1) := by decide +kernel
theorem dX3_runCommand_5 : decode cX3_runCommand 5 = .ok (.aload_n 0, 1) := by decide +kernel
theorem dX3_runCommand_6 : decode cX3_runCommand 6 = .ok (.invokevirtual 40, 3) := by decide +kernel
theorem dX3_runCommand_9 : decode cX3_runCommand 9 = .ok (.istore_n 3, 1) := by decide +kernel
theorem dX3_runCommand_10 : decode cX3_runCommand 10 = .ok (.iload_n 3, 1) := by decide +kernel
theorem dX3_runCommand_11 : decode cX3_runCommand 11 = .ok (.ifCond .ne 5, 3) := by decide +kernel
theorem dX3_runCommand_14 : decode cX3_runCommand 14 = .ok (.iload_n 2, 1) := by decide +kernel
theorem dX3_runCommand_15 : decode cX3_runCommand 15 = .ok (.ireturn, 1) := by decide +kernel
theorem dX3_runCommand_16 : decode cX3_runCommand 16 = .ok (.iload_n 3, 1) := by decide +kernel
theorem dX3_runCommand_17 : decode cX3_runCommand 17 = .ok (.invokestatic 44, 3) := by decide +kernel
theorem dX3_runCommand_20 : decode cX3_runCommand 20 = .ok (.istore 4, 2) := by decide +kernel
theorem dX3_runCommand_22 : decode cX3_runCommand 22 = .ok (.iconst 0, 1) := by decide +kernel
theorem dX3_runCommand_23 : decode cX3_runCommand 23 = .ok (.istore 5, 2) := by decide +kernel
theorem dX3_runCommand_25 : decode cX3_runCommand 25 = .ok (.iload 5, 2) := by decide +kernel
theorem dX3_runCommand_27 : decode cX3_runCommand 27 = .ok (.iload 4, 2) := by decide +kernel
theorem dX3_runCommand_29 : decode cX3_runCommand 29 = .ok (.if_icmp .ge 36, 3) := by decide +kernel
theorem dX3_runCommand_32 : decode cX3_runCommand 32 = .ok (.aload_n 0, 1) := by decide +kernel
theorem dX3_runCommand_33 : decode cX3_runCommand 33 = .ok (.invokevirtual 33, 3) := by decide +kernel
theorem dX3_runCommand_36 : decode cX3_runCommand 36 = .ok (.aload_n 0, 1) := by decide +kernel
theorem dX3_runCommand_37 : decode cX3_runCommand 37 = .ok (.invokevirtual 48, 3) := by decide +kernel
theorem dX3_runCommand_40 : decode cX3_runCommand 40 = .ok (.ifCond .ne 8, 3) := by decide +kernel
theorem dX3_runCommand_43 : decode cX3_runCommand 43 = .ok (.aload_n 0, 1) := by decide +kernel
theorem dX3_runCommand_44 : decode cX3_runCommand 44 = .ok (.getfield 19, 3) := by decide +kernel
theorem dX3_runCommand_47 : decode cX3_runCommand 47 = .ok (.ireturn, 1) := by decide +kernel
theorem dX3_runCommand_48 : decode cX3_runCommand 48 = .ok (.aload_n 0, 1) := by decide +kernel
theorem dX3_runCommand_49 : decode cX3_runCommand 49 = .ok (.getfield 25, 3) := by decide +kernel
theorem dX3_runCommand_52 : decode cX3_runCommand 52 = .ok (.iload 5, 2) := by decide +kernel
theorem dX3_runCommand_54 : decode cX3_runCommand 54 = .ok (.aload_n 0, 1) := by decide +kernel
theorem dX3_runCommand_55 : decode cX3_runCommand 55 = .ok (.invokevirtual 52, 3) := by decide +kernel
theorem dX3_runCommand_58 : decode cX3_runCommand 58 = .ok (.iastore, 1) := by decide +kernel
theorem dX3_runCommand_59 : decode cX3_runCommand 59 = .ok (.iinc 5 1, 3) := by decide +kernel
theorem dX3_runCommand_62 : decode cX3_runCommand 62 = .ok (.goto (-37), 3) := by decide +kernel
theorem dX3_runCommand_65 : decode cX3_runCommand 65 = .ok (.aload_n 0, 1) := by decide +kernel
theorem dX3_runCommand_66 : decode cX3_runCommand 66 = .ok (.invokevirtual 33, 3) := by decide +kernel
theorem dX3_runCommand_69 : decode cX3_runCommand 69 = .ok (.aload_n 0, 1) := by decide +kernel
theorem dX3_runCommand_70 : decode cX3_runCommand 70 = .ok (.ldc 55, 2) := by decide +kernel
theorem dX3_runCommand_72 : decode cX3_runCommand 72 = .ok (.invokevirtual 57, 3) := by decide +kernel
theorem dX3_runCommand_75 : decode cX3_runCommand 75 = .ok (.ifCond .ne 8, 3) := by decide +kernel
theorem dX3_runCommand_78 : decode cX3_runCommand 78 = .ok (.aload_n 0, 1) := by decide +kernel
theorem dX3_runCommand_79 : decode cX3_runCommand 79 = .ok (.getfield 19, 3) := by decide +kernel
theorem dX3_runCommand_82 : decode cX3_runCommand 82 = .ok (.ireturn, 1) := by decide +kernel
theorem dX3_runCommand_83 : decode cX3_runCommand 83 = .ok (.aload_n 0, 1) := by decide +kernel
theorem dX3_runCommand_84 : decode cX3_runCommand 84 = .ok (.iload_n 3, 1) := by decide +kernel
theorem dX3_runCommand_85 : decode cX3_runCommand 85 = .ok (.aload_n 1, 1) := by decide +kernel
theorem dX3_runCommand_86 : decode cX3_runCommand 86 = .ok (.invokevirtual 61, 3) := by decide +kernel
theorem dX3_runCommand_89 : decode cX3_runCommand 89 = .ok (.ifCond .ge 7, 3) := by decide +kernel
theorem dX3_runCommand_92 : decode cX3_runCommand 92 = .ok (.iload_n 2, 1) := by decide +kernel
theorem dX3_runCommand_93 : decode cX3_runCommand 93 = .ok (.goto 4, 3) := by decide +kernel
theorem dX3_runCommand_96 : decode cX3_runCommand 96 = .ok (.iconst (-1), 1) := by decide +kernel
theorem dX3_runCommand_97 : decode cX3_runCommand 97 = .ok (.ireturn, 1) := by decide +kernel
theorem dX3_readToken_0 : decode cX3_readToken 0 = .ok (.aload_n 0, 1) := by decide +kernel
theorem dX3_readToken_1 : decode cX3_readToken 1 = .ok (.aload_n 0, 1) := by decide +kernel
theorem dX3_readToken_2 : decode cX3_readToken 2 = .ok (.getfield 22, 3) := by decide +kernel
theorem dX3_readToken_5 : decode cX3_readToken 5 = .ok (.putfield 19, 3) := by decide +kernel
theorem dX3_readToken_8 : decode cX3_readToken 8 = .ok (.aload_n 0, 1) := by decide +kernel
theorem dX3_readToken_9 : decode cX3_readToken 9 = .ok (.getfield 19, 3) := by decide +kernel
theorem dX3_readToken_12 : decode cX3_readToken 12 = .ok (.aload_n 0, 1) := by decide +kernel
theorem dX3_readToken_13 : decode cX3_readToken 13 = .ok (.getfield 15, 3) := by decide +kernel
theorem dX3_readToken_16 : decode cX3_readToken 16 = .ok (.if_icmp .ge 30, 3) := by decide +kernel
theorem dX3_readToken_19 : decode cX3_readToken 19 = .ok (.aload_n 0, 1) := by decide +kernel
theorem dX3_readToken_20 : decode cX3_readToken 20 = .ok (.getfield 9, 3) := by decide +kernel
theorem dX3_readToken_23 : decode cX3_readToken 23 = .ok (.aload_n 0, 1) := by decide +kernel
theorem dX3_readToken_24 : decode cX3_readToken 24 = .ok (.getfield 19, 3) := by decide +kernel
theorem dX3_readToken_27 : decode cX3_readToken 27 = .ok (.caload, 1) := by decide +kernel
theorem dX3_readToken_28 : decode cX3_readToken 28 = .ok (.bipush 32, 2) := by decide +kernel
theorem dX3_readToken_30 : decode cX3_readToken 30 = .ok (.if_icmp .ne 16, 3) := by decide +kernel
theorem dX3_readToken_33 : decode cX3_readToken 33 = .ok (.aload_n 0, 1) := by decide +kernel
theorem dX3_readToken_34 : decode cX3_readToken 34 = .ok (.dup, 1) := by decide +kernel
theorem dX3_readToken_35 : decode cX3_readToken 35 = .ok (.getfield 19, 3) := by decide +kernel
theorem dX3_readToken_38 : decode cX3_readToken 38 = .ok (.iconst 1, 1) := by decide +kernel
theorem dX3_readToken_39 : decode cX3_readToken 39 = .ok (.iadd, 1) := by decide +kernel
theorem dX3_readToken_40 : decode cX3_readToken 40 = .ok (.putfield 19, 3) := by decide +kernel
theorem dX3_readToken_43 : decode cX3_readToken 43 = .ok (.goto (-35), 3) := by decide +kernel
theorem dX3_readToken_46 : decode cX3_readToken 46 = .ok (.aload_n 0, 1) := by decide +kernel
theorem dX3_readToken_47 : decode cX3_readToken 47 = .ok (.aload_n 0, 1) := by decide +kernel
theorem dX3_readToken_48 : decode cX3_readToken 48 = .ok (.getfield 19, 3) := by decide +kernel
theorem dX3_readToken_51 : decode cX3_readToken 51 = .ok (.putfield 22, 3) := by decide +kernel
theorem dX3_readToken_54 : decode cX3_readToken 54 = .ok (.aload_n 0, 1) := by decide +kernel
theorem dX3_readToken_55 : decode cX3_readToken 55 = .ok (.getfield 22, 3) := by decide +kernel
theorem dX3_readToken_58 : decode cX3_readToken 58 = .ok (.aload_n 0, 1) := by decide +kernel
theorem dX3_readToken_59 : decode cX3_readToken 59 = .ok (.getfield 15, 3) := by decide +kernel
theorem dX3_readToken_62 : decode cX3_readToken 62 = .ok (.if_icmp .lt 4, 3) := by decide +kernel
theorem dX3_readToken_65 : decode cX3_readToken 65 = .ok (.return_, 1) := by decide +kernel
theorem dX3_readToken_66 : decode cX3_readToken 66 = .ok (.aload_n 0, 1) := by decide +kernel
theorem dX3_readToken_67 : decode cX3_readToken 67 = .ok (.getfield 9, 3) := by decide +kernel
theorem dX3_readToken_70 : decode cX3_readToken 70 = .ok (.aload_n 0, 1) := by decide +kernel
theorem dX3_readToken_71 : decode cX3_readToken 71 = .ok (.getfield 19, 3) := by decide +kernel
theorem dX3_readToken_74 : decode cX3_readToken 74 = .ok (.caload, 1) := by decide +kernel
theorem dX3_readToken_75 : decode cX3_readToken 75 = .ok (.invokestatic 65, 3) := by decide +kernel
theorem dX3_readToken_78 : decode cX3_readToken 78 = .ok (.istore_n 1, 1) := by decide +kernel
theorem dX3_readToken_79 : decode cX3_readToken 79 = .ok (.aload_n 0, 1) := by decide +kernel
theorem dX3_readToken_80 : decode cX3_readToken 80 = .ok (.dup, 1) := by decide +kernel
theorem dX3_readToken_81 : decode cX3_readToken 81 = .ok (.getfield 22, 3) := by decide +kernel
theorem dX3_readToken_84 : decode cX3_readToken 84 = .ok (.iconst 1, 1) := by decide +kernel
theorem dX3_readToken_85 : decode cX3_readToken 85 = .ok (.iadd, 1) := by decide +kernel
theorem dX3_readToken_86 : decode cX3_readToken 86 = .ok (.putfield 22, 3) := by decide +kernel
theorem dX3_readToken_89 : decode cX3_readToken 89 = .ok (.iload_n 1, 1) := by decide +kernel
theorem dX3_readToken_90 : decode cX3_readToken 90 = .ok (.iconst 3, 1) := by decide +kernel
theorem dX3_readToken_91 : decode cX3_readToken 91 = .ok (.if_icmp .eq 43, 3) := by decide +kernel
theorem dX3_readToken_94 : decode cX3_readToken 94 = .ok (.aload_n 0, 1) := by decide +kernel
theorem dX3_readToken_95 : decode cX3_readToken 95 = .ok (.getfield 22, 3) := by decide +kernel
theorem dX3_readToken_98 : decode cX3_readToken 98 = .ok (.aload_n 0, 1) := by decide +kernel
theorem dX3_readToken_99 : decode cX3_readToken 99 = .ok (.getfield 15, 3) := by decide +kernel
theorem dX3_readToken_102 : decode cX3_readToken 102 = .ok (.if_icmp .ge 32, 3) := by decide +kernel
theorem dX3_readToken_105 : decode cX3_readToken 105 = .ok (.aload_n 0, 1) := by decide +kernel
theorem dX3_readToken_106 : decode cX3_readToken 106 = .ok (.getfield 9, 3) := by decide +kernel
theorem dX3_readToken_109 : decode cX3_readToken 109 = .ok (.aload_n 0, 1) := by decide +kernel
theorem dX3_readToken_110 : decode cX3_readToken 110 = .ok (.getfield 22, 3) := by decide +kernel
theorem dX3_readToken_113 : decode cX3_readToken 113 = .ok (.caload, 1) := by decide +kernel
theorem dX3_readToken_114 : decode cX3_readToken 114 = .ok (.invokestatic 65, 3) := by decide +kernel
theorem dX3_readToken_117 : decode cX3_readToken 117 = .ok (.iload_n 1, 1) := by decide +kernel
theorem dX3_readToken_118 : decode cX3_readToken 118 = .ok (.if_icmp .ne 16, 3) := by decide +kernel
theorem dX3_readToken_121 : decode cX3_readToken 121 = .ok (.aload_n 0, 1) := by decide +kernel
theorem dX3_readToken_122 : decode cX3_readToken 122 = .ok (.dup, 1) := by decide +kernel
theorem dX3_readToken_123 : decode cX3_readToken 123 = .ok (.getfield 22, 3) := by decide +kernel
theorem dX3_readToken_126 : decode cX3_readToken 126 = .ok (.iconst 1, 1) := by decide +kernel
theorem dX3_readToken_127 : decode cX3_readToken 127 = .ok (.iadd, 1) := by decide +kernel
theorem dX3_readToken_128 : decode cX3_readToken 128 = .ok (.putfield 22, 3) := by decide +kernel
theorem dX3_readToken_131 : decode cX3_readToken 131 = .ok (.goto (-42), 3) := by decide +kernel
theorem dX3_readToken_134 : decode cX3_readToken 134 = .ok (.return_, 1) := by decide +kernel
theorem dX3_kindOf_0 : decode cX3_kindOf 0 = .ok (.iload_n 0, 1) := by decide +kernel
theorem dX3_kindOf_1 : decode cX3_kindOf 1 = .ok (.bipush 97, 2) := by decide +kernel
theorem dX3_kindOf_3 : decode cX3_kindOf 3 = .ok (.if_icmp .lt 11, 3) := by decide +kernel
theorem dX3_kindOf_6 : decode cX3_kindOf 6 = .ok (.iload_n 0, 1) := by decide +kernel
theorem dX3_kindOf_7 : decode cX3_kindOf 7 = .ok (.bipush 122, 2) := by decide +kernel
theorem dX3_kindOf_9 : decode cX3_kindOf 9 = .ok (.if_icmp .gt 5, 3) := by decide +kernel
theorem dX3_kindOf_12 : decode cX3_kindOf 12 = .ok (.iconst 1, 1) := by decide +kernel
theorem dX3_kindOf_13 : decode cX3_kindOf 13 = .ok (.ireturn, 1) := by decide +kernel
theorem dX3_kindOf_14 : decode cX3_kindOf 14 = .ok (.iload_n 0, 1) := by decide +kernel
theorem dX3_kindOf_15 : decode cX3_kindOf 15 = .ok (.bipush 48, 2) := by decide +kernel
theorem dX3_kindOf_17 : decode cX3_kindOf 17 = .ok (.if_icmp .lt 13, 3) := by decide +kernel
theorem dX3_kindOf_20 : decode cX3_kindOf 20 = .ok (.iload_n 0, 1) := by decide +kernel
theorem dX3_kindOf_21 : decode cX3_kindOf 21 = .ok (.bipush 57, 2) := by decide +kernel
theorem dX3_kindOf_23 : decode cX3_kindOf 23 = .ok (.if_icmp .gt 7, 3) := by decide +kernel
theorem dX3_kindOf_26 : decode cX3_kindOf 26 = .ok (.iconst 2, 1) := by decide +kernel
theorem dX3_kindOf_27 : decode cX3_kindOf 27 = .ok (.goto 4, 3) := by decide +kernel
theorem dX3_kindOf_30 : decode cX3_kindOf 30 = .ok (.iconst 3, 1) := by decide +kernel
theorem dX3_kindOf_31 : decode cX3_kindOf 31 = .ok (.ireturn, 1) := by decide +kernel
theorem dX3_isToken_0 : decode cX3_isToken 0 = .ok (.aload_n 0, 1) := by decide +kernel
theorem dX3_isToken_1 : decode cX3_isToken 1 = .ok (.getfield 22, 3) := by decide +kernel
theorem dX3_isToken_4 : decode cX3_isToken 4 = .ok (.aload_n 0, 1) := by decide +kernel
theorem dX3_isToken_5 : decode cX3_isToken 5 = .ok (.getfield 19, 3) := by decide +kernel
theorem dX3_isToken_8 : decode cX3_isToken 8 = .ok (.isub, 1) := by decide +kernel
theorem dX3_isToken_9 : decode cX3_isToken 9 = .ok (.aload_n 1, 1) := by decide +kernel
theorem dX3_isToken_10 : decode cX3_isToken 10 = .ok (.invokevirtual 69, 3) := by decide +kernel
theorem dX3_isToken_13 : decode cX3_isToken 13 = .ok (.if_icmp .eq 5, 3) := by decide +kernel
theorem dX3_isToken_16 : decode cX3_isToken 16 = .ok (.iconst 0, 1) := by decide +kernel
theorem dX3_isToken_17 : decode cX3_isToken 17 = .ok (.ireturn, 1) := by decide +kernel
theorem dX3_isToken_18 : decode cX3_isToken 18 = .ok (.iconst 0, 1) := by decide +kernel
theorem dX3_isToken_19 : decode cX3_isToken 19 = .ok (.istore_n 2, 1) := by decide +kernel
theorem dX3_isToken_20 : decode cX3_isToken 20 = .ok (.iload_n 2, 1) := by decide +kernel
theorem dX3_isToken_21 : decode cX3_isToken 21 = .ok (.aload_n 1, 1) := by decide +kernel
theorem dX3_isToken_22 : decode cX3_isToken 22 = .ok (.invokevirtual 69, 3) := by decide +kernel
theorem dX3_isToken_25 : decode cX3_isToken 25 = .ok (.if_icmp .ge 30, 3) := by decide +kernel
theorem dX3_isToken_28 : decode cX3_isToken 28 = .ok (.aload_n 0, 1) := by decide +kernel
theorem dX3_isToken_29 : decode cX3_isToken 29 = .ok (.getfield 9, 3) := by decide +kernel
theorem dX3_isToken_32 : decode cX3_isToken 32 = .ok (.aload_n 0, 1) := by decide +kernel
theorem dX3_isToken_33 : decode cX3_isToken 33 = .ok (.getfield 19, 3) := by decide +kernel
theorem dX3_isToken_36 : decode cX3_isToken 36 = .ok (.iload_n 2, 1) := by decide +kernel
theorem dX3_isToken_37 : decode cX3_isToken 37 = .ok (.iadd, 1) := by decide +kernel
theorem dX3_isToken_38 : decode cX3_isToken 38 = .ok (.caload, 1) := by decide +kernel
theorem dX3_isToken_39 : decode cX3_isToken 39 = .ok (.aload_n 1, 1) := by decide +kernel
theorem dX3_isToken_40 : decode cX3_isToken 40 = .ok (.iload_n 2, 1) := by decide +kernel
theorem dX3_isToken_41 : decode cX3_isToken 41 = .ok (.invokevirtual 73, 3) := by decide +kernel
theorem dX3_isToken_44 : decode cX3_isToken 44 = .ok (.if_icmp .eq 5, 3) := by decide +kernel
theorem dX3_isToken_47 : decode cX3_isToken 47 = .ok (.iconst 0, 1) := by decide +kernel
theorem dX3_isToken_48 : decode cX3_isToken 48 = .ok (.ireturn, 1) := by decide +kernel
theorem dX3_isToken_49 : decode cX3_isToken 49 = .ok (.iinc 2 1, 3) := by decide +kernel
theorem dX3_isToken_52 : decode cX3_isToken 52 = .ok (.goto (-32), 3) := by decide +kernel
theorem dX3_isToken_55 : decode cX3_isToken 55 = .ok (.iconst 1, 1) := by decide +kernel
theorem dX3_isToken_56 : decode cX3_isToken 56 = .ok (.ireturn, 1) := by decide +kernel
theorem dX3_isNumber_0 : decode cX3_isNumber 0 = .ok (.aload_n 0, 1) := by decide +kernel
theorem dX3_isNumber_1 : decode cX3_isNumber 1 = .ok (.getfield 22, 3) := by decide +kernel
theorem dX3_isNumber_4 : decode cX3_isNumber 4 = .ok (.aload_n 0, 1) := by decide +kernel
theorem dX3_isNumber_5 : decode cX3_isNumber 5 = .ok (.getfield 19, 3) := by decide +kernel
theorem dX3_isNumber_8 : decode cX3_isNumber 8 = .ok (.isub, 1) := by decide +kernel
theorem dX3_isNumber_9 : decode cX3_isNumber 9 = .ok (.istore_n 1, 1) := by decide +kernel
theorem dX3_isNumber_10 : decode cX3_isNumber 10 = .ok (.iload_n 1, 1) := by decide +kernel
theorem dX3_isNumber_11 : decode cX3_isNumber 11 = .ok (.iconst 1, 1) := by decide +kernel
theorem dX3_isNumber_12 : decode cX3_isNumber 12 = .ok (.iconst 4, 1) := by decide +kernel
theorem dX3_isNumber_13 : decode cX3_isNumber 13 = .ok (.invokestatic 29, 3) := by decide +kernel
theorem dX3_isNumber_16 : decode cX3_isNumber 16 = .ok (.ifCond .eq 19, 3) := by decide +kernel
theorem dX3_isNumber_19 : decode cX3_isNumber 19 = .ok (.aload_n 0, 1) := by decide +kernel
theorem dX3_isNumber_20 : decode cX3_isNumber 20 = .ok (.getfield 9, 3) := by decide +kernel
theorem dX3_isNumber_23 : decode cX3_isNumber 23 = .ok (.aload_n 0, 1) := by decide +kernel
theorem dX3_isNumber_24 : decode cX3_isNumber 24 = .ok (.getfield 19, 3) := by decide +kernel
theorem dX3_isNumber_27 : decode cX3_isNumber 27 = .ok (.caload, 1) := by decide +kernel
theorem dX3_isNumber_28 : decode cX3_isNumber 28 = .ok (.invokestatic 65, 3) := by decide +kernel
theorem dX3_isNumber_31 : decode cX3_isNumber 31 = .ok (.iconst 2, 1) := by decide +kernel
theorem dX3_isNumber_32 : decode cX3_isNumber 32 = .ok (.if_icmp .eq 5, 3) := by decide +kernel
theorem dX3_isNumber_35 : decode cX3_isNumber 35 = .ok (.iconst 0, 1) := by decide +kernel
theorem dX3_isNumber_36 : decode cX3_isNumber 36 = .ok (.ireturn, 1) := by decide +kernel
theorem dX3_isNumber_37 : decode cX3_isNumber 37 = .ok (.iload_n 1, 1) := by decide +kernel
theorem dX3_isNumber_38 : decode cX3_isNumber 38 = .ok (.iconst 1, 1) := by decide +kernel
theorem dX3_isNumber_39 : decode cX3_isNumber 39 = .ok (.if_icmp .eq 17, 3) := by decide +kernel
theorem dX3_isNumber_42 : decode cX3_isNumber 42 = .ok (.aload_n 0, 1) := by decide +kernel
theorem dX3_isNumber_43 : decode cX3_isNumber 43 = .ok (.getfield 9, 3) := by decide +kernel
theorem dX3_isNumber_46 : decode cX3_isNumber 46 = .ok (.aload_n 0, 1) := by decide +kernel
theorem dX3_isNumber_47 : decode cX3_isNumber 47 = .ok (.getfield 19, 3) := by decide +kernel
theorem dX3_isNumber_50 : decode cX3_isNumber 50 = .ok (.caload, 1) := by decide +kernel
theorem dX3_isNumber_51 : decode cX3_isNumber 51 = .ok (.bipush 48, 2) := by decide +kernel
theorem dX3_isNumber_53 : decode cX3_isNumber 53 = .ok (.if_icmp .eq 7, 3) := by decide +kernel
theorem dX3_isNumber_56 : decode cX3_isNumber 56 = .ok (.iconst 1, 1) := by decide +kernel
theorem dX3_isNumber_57 : decode cX3_isNumber 57 = .ok (.goto 4, 3) := by decide +kernel
theorem dX3_isNumber_60 : decode cX3_isNumber 60 = .ok (.iconst 0, 1) := by decide +kernel
theorem dX3_isNumber_61 : decode cX3_isNumber 61 = .ok (.ireturn, 1) := by decide +kernel
theorem dX3_valueOfToken_0 : decode cX3_valueOfToken 0 = .ok (.iconst 0, 1) := by decide +kernel
theorem dX3_valueOfToken_1 : decode cX3_valueOfToken 1 = .ok (.istore_n 1, 1) := by decide +kernel
theorem dX3_valueOfToken_2 : decode cX3_valueOfToken 2 = .ok (.aload_n 0, 1) := by decide +kernel
theorem dX3_valueOfToken_3 : decode cX3_valueOfToken 3 = .ok (.getfield 19, 3) := by decide +kernel
theorem dX3_valueOfToken_6 : decode cX3_valueOfToken 6 = .ok (.istore_n 2, 1) := by decide +kernel
theorem dX3_valueOfToken_7 : decode cX3_valueOfToken 7 = .ok (.iload_n 2, 1) := by decide +kernel
theorem dX3_valueOfToken_8 : decode cX3_valueOfToken 8 = .ok (.aload_n 0, 1) := by decide +kernel
theorem dX3_valueOfToken_9 : decode cX3_valueOfToken 9 = .ok (.getfield 22, 3) := by decide +kernel
theorem dX3_valueOfToken_12 : decode cX3_valueOfToken 12 = .ok (.if_icmp .ge 24, 3) := by decide +kernel
theorem dX3_valueOfToken_15 : decode cX3_valueOfToken 15 = .ok (.iload_n 1, 1) := by decide +kernel
theorem dX3_valueOfToken_16 : decode cX3_valueOfToken 16 = .ok (.bipush 10, 2) := by decide +kernel
theorem dX3_valueOfToken_18 : decode cX3_valueOfToken 18 = .ok (.imul, 1) := by decide +kernel
theorem dX3_valueOfToken_19 : decode cX3_valueOfToken 19 = .ok (.aload_n 0, 1) := by decide +kernel
theorem dX3_valueOfToken_20 : decode cX3_valueOfToken 20 = .ok (.getfield 9, 3) := by decide +kernel
theorem dX3_valueOfToken_23 : decode cX3_valueOfToken 23 = .ok (.iload_n 2, 1) := by decide +kernel
theorem dX3_valueOfToken_24 : decode cX3_valueOfToken 24 = .ok (.caload, 1) := by decide +kernel
theorem dX3_valueOfToken_25 : decode cX3_valueOfToken 25 = .ok (.bipush 48, 2) := by decide +kernel
theorem dX3_valueOfToken_27 : decode cX3_valueOfToken 27 = .ok (.isub, 1) := by decide +kernel
theorem dX3_valueOfToken_28 : decode cX3_valueOfToken 28 = .ok (.iadd, 1) := by decide +kernel
theorem dX3_valueOfToken_29 : decode cX3_valueOfToken 29 = .ok (.istore_n 1, 1) := by decide +kernel
theorem dX3_valueOfToken_30 : decode cX3_valueOfToken 30 = .ok (.iinc 2 1, 3) := by decide +kernel
theorem dX3_valueOfToken_33 : decode cX3_valueOfToken 33 = .ok (.goto (-26), 3) := by decide +kernel
theorem dX3_valueOfToken_36 : decode cX3_valueOfToken 36 = .ok (.iload_n 1, 1) := by decide +kernel
theorem dX3_valueOfToken_37 : decode cX3_valueOfToken 37 = .ok (.ireturn, 1) := by decide +kernel
theorem dX3_commandOfToken_0 : decode cX3_commandOfToken 0 = .ok (.aload_n 0, 1) := by decide +kernel
theorem dX3_commandOfToken_1 : decode cX3_commandOfToken 1 = .ok (.ldc 77, 2) := by decide +kernel
theorem dX3_commandOfToken_3 : decode cX3_commandOfToken 3 = .ok (.invokevirtual 57, 3) := by decide +kernel
theorem dX3_commandOfToken_6 : decode cX3_commandOfToken 6 = .ok (.ifCond .eq 5, 3) := by decide +kernel
theorem dX3_commandOfToken_9 : decode cX3_commandOfToken 9 = .ok (.iconst 1, 1) := by decide +kernel
theorem dX3_commandOfToken_10 : decode cX3_commandOfToken 10 = .ok (.ireturn, 1) := by decide +kernel
theorem dX3_commandOfToken_11 : decode cX3_commandOfToken 11 = .ok (.aload_n 0, 1) := by decide +kernel
theorem dX3_commandOfToken_12 : decode cX3_commandOfToken 12 = .ok (.ldc 79, 2) := by decide +kernel
theorem dX3_commandOfToken_14 : decode cX3_commandOfToken 14 = .ok (.invokevirtual 57, 3) := by decide +kernel
theorem dX3_commandOfToken_17 : decode cX3_commandOfToken 17 = .ok (.ifCond .eq 5, 3) := by decide +kernel
theorem dX3_commandOfToken_20 : decode cX3_commandOfToken 20 = .ok (.iconst 2, 1) := by decide +kernel
theorem dX3_commandOfToken_21 : decode cX3_commandOfToken 21 = .ok (.ireturn, 1) := by decide +kernel
theorem dX3_commandOfToken_22 : decode cX3_commandOfToken 22 = .ok (.aload_n 0, 1) := by decide +kernel
theorem dX3_commandOfToken_23 : decode cX3_commandOfToken 23 = .ok (.ldc 81, 2) := by decide +kernel
theorem dX3_commandOfToken_25 : decode cX3_commandOfToken 25 = .ok (.invokevirtual 57, 3) := by decide +kernel
theorem dX3_commandOfToken_28 : decode cX3_commandOfToken 28 = .ok (.ifCond .eq 5, 3) := by decide +kernel
theorem dX3_commandOfToken_31 : decode cX3_commandOfToken 31 = .ok (.iconst 3, 1) := by decide +kernel
theorem dX3_commandOfToken_32 : decode cX3_commandOfToken 32 = .ok (.ireturn, 1) := by decide +kernel
theorem dX3_commandOfToken_33 : decode cX3_commandOfToken 33 = .ok (.aload_n 0, 1) := by decide +kernel
theorem dX3_commandOfToken_34 : decode cX3_commandOfToken 34 = .ok (.ldc 83, 2) := by decide +kernel
theorem dX3_commandOfToken_36 : decode cX3_commandOfToken 36 = .ok (.invokevirtual 57, 3) := by decide +kernel
theorem dX3_commandOfToken_39 : decode cX3_commandOfToken 39 = .ok (.ifCond .eq 5, 3) := by decide +kernel
theorem dX3_commandOfToken_42 : decode cX3_commandOfToken 42 = .ok (.iconst 4, 1) := by decide +kernel
theorem dX3_commandOfToken_43 : decode cX3_commandOfToken 43 = .ok (.ireturn, 1) := by decide +kernel
theorem dX3_commandOfToken_44 : decode cX3_commandOfToken 44 = .ok (.aload_n 0, 1) := by decide +kernel
theorem dX3_commandOfToken_45 : decode cX3_commandOfToken 45 = .ok (.ldc 85, 2) := by decide +kernel
theorem dX3_commandOfToken_47 : decode cX3_commandOfToken 47 = .ok (.invokevirtual 57, 3) := by decide +kernel
theorem dX3_commandOfToken_50 : decode cX3_commandOfToken 50 = .ok (.ifCond .eq 5, 3) := by decide +kernel
theorem dX3_commandOfToken_53 : decode cX3_commandOfToken 53 = .ok (.iconst 5, 1) := by decide +kernel
theorem dX3_commandOfToken_54 : decode cX3_commandOfToken 54 = .ok (.ireturn, 1) := by decide +kernel
theorem dX3_commandOfToken_55 : decode cX3_commandOfToken 55 = .ok (.aload_n 0, 1) := by decide +kernel
theorem dX3_commandOfToken_56 : decode cX3_commandOfToken 56 = .ok (.ldc 87, 2) := by decide +kernel
theorem dX3_commandOfToken_58 : decode cX3_commandOfToken 58 = .ok (.invokevirtual 57, 3) := by decide +kernel
theorem dX3_commandOfToken_61 : decode cX3_commandOfToken 61 = .ok (.ifCond .eq 6, 3) := by decide +kernel
theorem dX3_commandOfToken_64 : decode cX3_commandOfToken 64 = .ok (.bipush 6, 2) := by decide +kernel
theorem dX3_commandOfToken_66 : decode cX3_commandOfToken 66 = .ok (.ireturn, 1) := by decide +kernel
theorem dX3_commandOfToken_67 : decode cX3_commandOfToken 67 = .ok (.aload_n 0, 1) := by decide +kernel
theorem dX3_commandOfToken_68 : decode cX3_commandOfToken 68 = .ok (.ldc 89, 2) := by decide +kernel
theorem dX3_commandOfToken_70 : decode cX3_commandOfToken 70 = .ok (.invokevirtual 57, 3) := by decide +kernel
theorem dX3_commandOfToken_73 : decode cX3_commandOfToken 73 = .ok (.ifCond .eq 8, 3) := by decide +kernel
theorem dX3_commandOfToken_76 : decode cX3_commandOfToken 76 = .ok (.bipush 7, 2) := by decide +kernel
theorem dX3_commandOfToken_78 : decode cX3_commandOfToken 78 = .ok (.goto 4, 3) := by decide +kernel
theorem dX3_commandOfToken_81 : decode cX3_commandOfToken 81 = .ok (.iconst 0, 1) := by decide +kernel
theorem dX3_commandOfToken_82 : decode cX3_commandOfToken 82 = .ok (.ireturn, 1) := by decide +kernel
theorem dX3_numbersOf_0 : decode cX3_numbersOf 0 = .ok (.iload_n 0, 1) := by decide +kernel
theorem dX3_numbersOf_1 : decode cX3_numbersOf 1 = .ok (.tableswitch 39 1 5 #[37, 39, 39, 35, 37], 35) := by decide +kernel
theorem dX3_numbersOf_36 : decode cX3_numbersOf 36 = .ok (.iconst 3, 1) := by decide +kernel
theorem dX3_numbersOf_37 : decode cX3_numbersOf 37 = .ok (.ireturn, 1) := by decide +kernel
theorem dX3_numbersOf_38 : decode cX3_numbersOf 38 = .ok (.iconst 1, 1) := by decide +kernel
theorem dX3_numbersOf_39 : decode cX3_numbersOf 39 = .ok (.ireturn, 1) := by decide +kernel
theorem dX3_numbersOf_40 : decode cX3_numbersOf 40 = .ok (.iconst 2, 1) := by decide +kernel
theorem dX3_numbersOf_41 : decode cX3_numbersOf 41 = .ok (.ireturn, 1) := by decide +kernel
theorem dX3_perform_0 : decode cX3_perform 0 = .ok (.iload_n 1, 1) := by decide +kernel
theorem dX3_perform_1 : decode cX3_perform 1 = .ok (.tableswitch 157 1 7 #[43, 54, 71, 89, 112, 123, 140], 43) := by decide +kernel
theorem dX3_perform_44 : decode cX3_perform 44 = .ok (.aload_n 2, 1) := by decide +kernel
theorem dX3_perform_45 : decode cX3_perform 45 = .ok (.aload_n 0, 1) := by decide +kernel
theorem dX3_perform_46 : decode cX3_perform 46 = .ok (.getfield 25, 3) := by decide +kernel
theorem dX3_perform_49 : decode cX3_perform 49 = .ok (.iconst 0, 1) := by decide +kernel
theorem dX3_perform_50 : decode cX3_perform 50 = .ok (.iaload, 1) := by decide +kernel
theorem dX3_perform_51 : decode cX3_perform 51 = .ok (.invokevirtual 91, 3) := by decide +kernel
theorem dX3_perform_54 : decode cX3_perform 54 = .ok (.ireturn, 1) := by decide +kernel
theorem dX3_perform_55 : decode cX3_perform 55 = .ok (.aload_n 2, 1) := by decide +kernel
theorem dX3_perform_56 : decode cX3_perform 56 = .ok (.aload_n 0, 1) := by decide +kernel
theorem dX3_perform_57 : decode cX3_perform 57 = .ok (.getfield 25, 3) := by decide +kernel
theorem dX3_perform_60 : decode cX3_perform 60 = .ok (.iconst 0, 1) := by decide +kernel
theorem dX3_perform_61 : decode cX3_perform 61 = .ok (.iaload, 1) := by decide +kernel
theorem dX3_perform_62 : decode cX3_perform 62 = .ok (.aload_n 0, 1) := by decide +kernel
theorem dX3_perform_63 : decode cX3_perform 63 = .ok (.getfield 25, 3) := by decide +kernel
theorem dX3_perform_66 : decode cX3_perform 66 = .ok (.iconst 1, 1) := by decide +kernel
theorem dX3_perform_67 : decode cX3_perform 67 = .ok (.iaload, 1) := by decide +kernel
theorem dX3_perform_68 : decode cX3_perform 68 = .ok (.invokevirtual 96, 3) := by decide +kernel
theorem dX3_perform_71 : decode cX3_perform 71 = .ok (.ireturn, 1) := by decide +kernel
theorem dX3_perform_72 : decode cX3_perform 72 = .ok (.aload_n 2, 1) := by decide +kernel
theorem dX3_perform_73 : decode cX3_perform 73 = .ok (.aload_n 0, 1) := by decide +kernel
theorem dX3_perform_74 : decode cX3_perform 74 = .ok (.getfield 25, 3) := by decide +kernel
theorem dX3_perform_77 : decode cX3_perform 77 = .ok (.iconst 0, 1) := by decide +kernel
theorem dX3_perform_78 : decode cX3_perform 78 = .ok (.iaload, 1) := by decide +kernel
theorem dX3_perform_79 : decode cX3_perform 79 = .ok (.aload_n 0, 1) := by decide +kernel
theorem dX3_perform_80 : decode cX3_perform 80 = .ok (.getfield 25, 3) := by decide +kernel
theorem dX3_perform_83 : decode cX3_perform 83 = .ok (.iconst 1, 1) := by decide +kernel
theorem dX3_perform_84 : decode cX3_perform 84 = .ok (.iaload, 1) := by decide +kernel
theorem dX3_perform_85 : decode cX3_perform 85 = .ok (.iconst 1, 1) := by decide +kernel
theorem dX3_perform_86 : decode cX3_perform 86 = .ok (.invokevirtual 100, 3) := by decide +kernel
theorem dX3_perform_89 : decode cX3_perform 89 = .ok (.ireturn, 1) := by decide +kernel
theorem dX3_perform_90 : decode cX3_perform 90 = .ok (.aload_n 2, 1) := by decide +kernel
theorem dX3_perform_91 : decode cX3_perform 91 = .ok (.aload_n 0, 1) := by decide +kernel
theorem dX3_perform_92 : decode cX3_perform 92 = .ok (.getfield 25, 3) := by decide +kernel
theorem dX3_perform_95 : decode cX3_perform 95 = .ok (.iconst 0, 1) := by decide +kernel
theorem dX3_perform_96 : decode cX3_perform 96 = .ok (.iaload, 1) := by decide +kernel
theorem dX3_perform_97 : decode cX3_perform 97 = .ok (.aload_n 0, 1) := by decide +kernel
theorem dX3_perform_98 : decode cX3_perform 98 = .ok (.getfield 25, 3) := by decide +kernel
theorem dX3_perform_101 : decode cX3_perform 101 = .ok (.iconst 1, 1) := by decide +kernel
theorem dX3_perform_102 : decode cX3_perform 102 = .ok (.iaload, 1) := by decide +kernel
theorem dX3_perform_103 : decode cX3_perform 103 = .ok (.aload_n 0, 1) := by decide +kernel
theorem dX3_perform_104 : decode cX3_perform 104 = .ok (.getfield 25, 3) := by decide +kernel
theorem dX3_perform_107 : decode cX3_perform 107 = .ok (.iconst 2, 1) := by decide +kernel
theorem dX3_perform_108 : decode cX3_perform 108 = .ok (.iaload, 1) := by decide +kernel
theorem dX3_perform_109 : decode cX3_perform 109 = .ok (.invokevirtual 104, 3) := by decide +kernel
theorem dX3_perform_112 : decode cX3_perform 112 = .ok (.ireturn, 1) := by decide +kernel
theorem dX3_perform_113 : decode cX3_perform 113 = .ok (.aload_n 2, 1) := by decide +kernel
theorem dX3_perform_114 : decode cX3_perform 114 = .ok (.aload_n 0, 1) := by decide +kernel
theorem dX3_perform_115 : decode cX3_perform 115 = .ok (.getfield 25, 3) := by decide +kernel
theorem dX3_perform_118 : decode cX3_perform 118 = .ok (.iconst 0, 1) := by decide +kernel
theorem dX3_perform_119 : decode cX3_perform 119 = .ok (.iaload, 1) := by decide +kernel
theorem dX3_perform_120 : decode cX3_perform 120 = .ok (.invokevirtual 107, 3) := by decide +kernel
theorem dX3_perform_123 : decode cX3_perform 123 = .ok (.ireturn, 1) := by decide +kernel
theorem dX3_perform_124 : decode cX3_perform 124 = .ok (.aload_n 2, 1) := by decide +kernel
theorem dX3_perform_125 : decode cX3_perform 125 = .ok (.aload_n 0, 1) := by decide +kernel
theorem dX3_perform_126 : decode cX3_perform 126 = .ok (.getfield 25, 3) := by decide +kernel
theorem dX3_perform_129 : decode cX3_perform 129 = .ok (.iconst 0, 1) := by decide +kernel
theorem dX3_perform_130 : decode cX3_perform 130 = .ok (.iaload, 1) := by decide +kernel
theorem dX3_perform_131 : decode cX3_perform 131 = .ok (.aload_n 0, 1) := by decide +kernel
theorem dX3_perform_132 : decode cX3_perform 132 = .ok (.getfield 25, 3) := by decide +kernel
theorem dX3_perform_135 : decode cX3_perform 135 = .ok (.iconst 1, 1) := by decide +kernel
theorem dX3_perform_136 : decode cX3_perform 136 = .ok (.iaload, 1) := by decide +kernel
theorem dX3_perform_137 : decode cX3_perform 137 = .ok (.invokevirtual 110, 3) := by decide +kernel
theorem dX3_perform_140 : decode cX3_perform 140 = .ok (.ireturn, 1) := by decide +kernel
theorem dX3_perform_141 : decode cX3_perform 141 = .ok (.aload_n 2, 1) := by decide +kernel
theorem dX3_perform_142 : decode cX3_perform 142 = .ok (.aload_n 0, 1) := by decide +kernel
theorem dX3_perform_143 : decode cX3_perform 143 = .ok (.getfield 25, 3) := by decide +kernel
theorem dX3_perform_146 : decode cX3_perform 146 = .ok (.iconst 0, 1) := by decide +kernel
theorem dX3_perform_147 : decode cX3_perform 147 = .ok (.iaload, 1) := by decide +kernel
theorem dX3_perform_148 : decode cX3_perform 148 = .ok (.aload_n 0, 1) := by decide +kernel
theorem dX3_perform_149 : decode cX3_perform 149 = .ok (.getfield 25, 3) := by decide +kernel
theorem dX3_perform_152 : decode cX3_perform 152 = .ok (.iconst 1, 1) := by decide +kernel
theorem dX3_perform_153 : decode cX3_perform 153 = .ok (.iaload, 1) := by decide +kernel
theorem dX3_perform_154 : decode cX3_perform 154 = .ok (.invokevirtual 113, 3) := by decide +kernel
theorem dX3_perform_157 : decode cX3_perform 157 = .ok (.ireturn, 1) := by decide +kernel
theorem dX3_perform_158 : decode cX3_perform 158 = .ok (.iconst (-1), 1) := by decide +kernel
theorem dX3_perform_159 : decode cX3_perform 159 = .ok (.ireturn, 1) := by decide +kernel
theorem dX4_init_0 : decode cX4_init 0 = .ok (.aload_n 0, 1) := by decide +kernel
theorem dX4_init_1 : decode cX4_init 1 = .ok (.invokespecial 3, 3) := by decide +kernel
theorem dX4_init_4 : decode cX4_init 4 = .ok (.aload_n 0, 1) := by decide +kernel
theorem dX4_init_5 : decode cX4_init 5 = .ok (.new 9, 3) := by decide +kernel
theorem dX4_init_8 : decode cX4_init 8 = .ok (.dup, 1) := by decide +kernel
theorem dX4_init_9 : decode cX4_init 9 = .ok (.invokespecial 11, 3) := by decide +kernel
theorem dX4_init_12 : decode cX4_init 12 = .ok (.putfield 12, 3) := by decide +kernel
theorem dX4_init_15 : decode cX4_init 15 = .ok (.aload_n 0, 1) := by decide +kernel
theorem dX4_init_16 : decode cX4_init 16 = .ok (.iconst 2, 1) := by decide +kernel
theorem dX4_init_17 : decode cX4_init 17 = .ok (.anewarray 9, 3) := by decide +kernel
theorem dX4_init_20 : decode cX4_init 20 = .ok (.putfield 18, 3) := by decide +kernel
theorem dX4_init_23 : decode cX4_init 23 = .ok (.aload_n 0, 1) := by decide +kernel
theorem dX4_init_24 : decode cX4_init 24 = .ok (.iconst 2, 1) := by decide +kernel
theorem dX4_init_25 : decode cX4_init 25 = .ok (.newarray .boolean, 2) := by decide +kernel
theorem dX4_init_27 : decode cX4_init 27 = .ok (.putfield 22, 3) := by decide +kernel
theorem dX4_init_30 : decode cX4_init 30 = .ok (.iconst 0, 1) := by decide +kernel
theorem dX4_init_31 : decode cX4_init 31 = .ok (.istore_n 1, 1) := by decide +kernel
theorem dX4_init_32 : decode cX4_init 32 = .ok (.iload_n 1, 1) := by decide +kernel
theorem dX4_init_33 : decode cX4_init 33 = .ok (.iconst 2, 1) := by decide +kernel
theorem dX4_init_34 : decode cX4_init 34 = .ok (.if_icmp .ge 22, 3) := by decide +kernel
theorem dX4_init_37 : decode cX4_init 37 = .ok (.aload_n 0, 1) := by decide +kernel
theorem dX4_init_38 : decode cX4_init 38 = .ok (.getfield 18, 3) := by decide +kernel
theorem dX4_init_41 : decode cX4_init 41 = .ok (.iload_n 1, 1) := by decide +kernel
theorem dX4_init_42 : decode cX4_init 42 = .ok (.new 9, 3) := by decide +kernel
theorem dX4_init_45 : decode cX4_init 45 = .ok (.dup, 1) := by decide +kernel
theorem dX4_init_46 : decode cX4_init 46 = .ok (.invokespecial 11, 3) := by decide +kernel
theorem dX4_init_49 : decode cX4_init 49 = .ok (.aastore, 1) := by decide +kernel
theorem dX4_init_50 : decode cX4_init 50 = .ok (.iinc 1 1, 3) := by decide +kernel
theorem dX4_init_53 : decode cX4_init 53 = .ok (.goto (-21), 3) := by decide +kernel
theorem dX4_init_56 : decode cX4_init 56 = .ok (.return_, 1) := by decide +kernel
theorem dX4_copyFrom_0 : decode cX4_copyFrom 0 = .ok (.aload_n 0, 1) := by decide +kernel
theorem dX4_copyFrom_1 : decode cX4_copyFrom 1 = .ok (.getfield 12, 3) := by decide +kernel
theorem dX4_copyFrom_4 : decode cX4_copyFrom 4 = .ok (.aload_n 1, 1) := by decide +kernel
theorem dX4_copyFrom_5 : decode cX4_copyFrom 5 = .ok (.getfield 12, 3) := by decide +kernel
theorem dX4_copyFrom_8 : decode cX4_copyFrom 8 = .ok (.invokevirtual 26, 3) := by decide +kernel
theorem dX4_copyFrom_11 : decode cX4_copyFrom 11 = .ok (.iconst 0, 1) := by decide +kernel
theorem dX4_copyFrom_12 : decode cX4_copyFrom 12 = .ok (.istore_n 2, 1) := by decide +kernel
theorem dX4_copyFrom_13 : decode cX4_copyFrom 13 = .ok (.iload_n 2, 1) := by decide +kernel
theorem dX4_copyFrom_14 : decode cX4_copyFrom 14 = .ok (.iconst 2, 1) := by decide +kernel
theorem dX4_copyFrom_15 : decode cX4_copyFrom 15 = .ok (.if_icmp .ge 45, 3) := by decide +kernel
theorem dX4_copyFrom_18 : decode cX4_copyFrom 18 = .ok (.aload_n 0, 1) := by decide +kernel
theorem dX4_copyFrom_19 : decode cX4_copyFrom 19 = .ok (.getfield 22, 3) := by decide +kernel
theorem dX4_copyFrom_22 : decode cX4_copyFrom 22 = .ok (.iload_n 2, 1) := by decide +kernel
theorem dX4_copyFrom_23 : decode cX4_copyFrom 23 = .ok (.aload_n 1, 1) := by decide +kernel
theorem dX4_copyFrom_24 : decode cX4_copyFrom 24 = .ok (.getfield 22, 3) := by decide +kernel
theorem dX4_copyFrom_27 : decode cX4_copyFrom 27 = .ok (.iload_n 2, 1) := by decide +kernel
theorem dX4_copyFrom_28 : decode cX4_copyFrom 28 = .ok (.baload, 1) := by decide +kernel
theorem dX4_copyFrom_29 : decode cX4_copyFrom 29 = .ok (.bastore, 1) := by decide +kernel
theorem dX4_copyFrom_30 : decode cX4_copyFrom 30 = .ok (.aload_n 0, 1) := by decide +kernel
theorem dX4_copyFrom_31 : decode cX4_copyFrom 31 = .ok (.getfield 22, 3) := by decide +kernel
theorem dX4_copyFrom_34 : decode cX4_copyFrom 34 = .ok (.iload_n 2, 1) := by decide +kernel
theorem dX4_copyFrom_35 : decode cX4_copyFrom 35 = .ok (.baload, 1) := by decide +kernel
theorem dX4_copyFrom_36 : decode cX4_copyFrom 36 = .ok (.ifCond .eq 18, 3) := by decide +kernel
theorem dX4_copyFrom_39 : decode cX4_copyFrom 39 = .ok (.aload_n 0, 1) := by decide +kernel
theorem dX4_copyFrom_40 : decode cX4_copyFrom 40 = .ok (.getfield 18, 3) := by decide +kernel
theorem dX4_copyFrom_43 : decode cX4_copyFrom 43 = .ok (.iload_n 2, 1) := by decide +kernel
theorem dX4_copyFrom_44 : decode cX4_copyFrom 44 = .ok (.aaload, 1) := by decide +kernel
theorem dX4_copyFrom_45 : decode cX4_copyFrom 45 = .ok (.aload_n 1, 1) := by decide +kernel
theorem dX4_copyFrom_46 : decode cX4_copyFrom 46 = .ok (.getfield 18, 3) := by decide +kernel
theorem dX4_copyFrom_49 : decode cX4_copyFrom 49 = .ok (.iload_n 2, 1) := by decide +kernel
theorem dX4_copyFrom_50 : decode cX4_copyFrom 50 = .ok (.aaload, 1) := by decide +kernel
theorem dX4_copyFrom_51 : decode cX4_copyFrom 51 = .ok (.invokevirtual 26, 3) := by decide +kernel
theorem dX4_copyFrom_54 : decode cX4_copyFrom 54 = .ok (.iinc 2 1, 3) := by decide +kernel
theorem dX4_copyFrom_57 : decode cX4_copyFrom 57 = .ok (.goto (-44), 3) := by decide +kernel
theorem dX4_copyFrom_60 : decode cX4_copyFrom 60 = .ok (.return_, 1) := by decide +kernel
theorem dX4_snapshots_0 : decode cX4_snapshots 0 = .ok (.iconst 0, 1) := by decide +kernel
theorem dX4_snapshots_1 : decode cX4_snapshots 1 = .ok (.istore_n 1, 1) := by decide +kernel
theorem dX4_snapshots_2 : decode cX4_snapshots 2 = .ok (.iconst 0, 1) := by decide +kernel
theorem dX4_snapshots_3 : decode cX4_snapshots 3 = .ok (.istore_n 2, 1) := by decide +kernel
theorem dX4_snapshots_4 : decode cX4_snapshots 4 = .ok (.iload_n 2, 1) := by decide +kernel
theorem dX4_snapshots_5 : decode cX4_snapshots 5 = .ok (.iconst 2, 1) := by decide +kernel
theorem dX4_snapshots_6 : decode cX4_snapshots 6 = .ok (.if_icmp .ge 21, 3) := by decide +kernel
theorem dX4_snapshots_9 : decode cX4_snapshots 9 = .ok (.aload_n 0, 1) := by decide +kernel
theorem dX4_snapshots_10 : decode cX4_snapshots 10 = .ok (.getfield 22, 3) := by decide +kernel
theorem dX4_snapshots_13 : decode cX4_snapshots 13 = .ok (.iload_n 2, 1) := by decide +kernel
theorem dX4_snapshots_14 : decode cX4_snapshots 14 = .ok (.baload, 1) := by decide +kernel
theorem dX4_snapshots_15 : decode cX4_snapshots 15 = .ok (.ifCond .eq 6, 3) := by decide +kernel
theorem dX4_snapshots_18 : decode cX4_snapshots 18 = .ok (.iinc 1 1, 3) := by decide +kernel
theorem dX4_snapshots_21 : decode cX4_snapshots 21 = .ok (.iinc 2 1, 3) := by decide +kernel
theorem dX4_snapshots_24 : decode cX4_snapshots 24 = .ok (.goto (-20), 3) := by decide +kernel
theorem dX4_snapshots_27 : decode cX4_snapshots 27 = .ok (.iload_n 1, 1) := by decide +kernel
theorem dX4_snapshots_28 : decode cX4_snapshots 28 = .ok (.ireturn, 1) := by decide +kernel
theorem dX4_takeSnapshot_0 : decode cX4_takeSnapshot 0 = .ok (.iload_n 1, 1) := by decide +kernel
theorem dX4_takeSnapshot_1 : decode cX4_takeSnapshot 1 = .ok (.iconst 0, 1) := by decide +kernel
theorem dX4_takeSnapshot_2 : decode cX4_takeSnapshot 2 = .ok (.iconst 1, 1) := by decide +kernel
theorem dX4_takeSnapshot_3 : decode cX4_takeSnapshot 3 = .ok (.invokestatic 30, 3) := by decide +kernel
theorem dX4_takeSnapshot_6 : decode cX4_takeSnapshot 6 = .ok (.ifCond .ne 5, 3) := by decide +kernel
theorem dX4_takeSnapshot_9 : decode cX4_takeSnapshot 9 = .ok (.iconst (-1), 1) := by decide +kernel
theorem dX4_takeSnapshot_10 : decode cX4_takeSnapshot 10 = .ok (.ireturn, 1) := by decide +kernel
theorem dX4_takeSnapshot_11 : decode cX4_takeSnapshot 11 = .ok (.aload_n 0, 1) := by decide +kernel
theorem dX4_takeSnapshot_12 : decode cX4_takeSnapshot 12 = .ok (.getfield 18, 3) := by decide +kernel
theorem dX4_takeSnapshot_15 : decode cX4_takeSnapshot 15 = .ok (.iload_n 1, 1) := by decide +kernel
theorem dX4_takeSnapshot_16 : decode cX4_takeSnapshot 16 = .ok (.aaload, 1) := by decide +kernel
theorem dX4_takeSnapshot_17 : decode cX4_takeSnapshot 17 = .ok (.aload_n 0, 1) := by decide +kernel
theorem dX4_takeSnapshot_18 : decode cX4_takeSnapshot 18 = .ok (.getfield 12, 3) := by decide +kernel
theorem dX4_takeSnapshot_21 : decode cX4_takeSnapshot 21 = .ok (.invokevirtual 26, 3) := by decide +kernel
theorem dX4_takeSnapshot_24 : decode cX4_takeSnapshot 24 = .ok (.aload_n 0, 1) := by decide +kernel
theorem dX4_takeSnapshot_25 : decode cX4_takeSnapshot 25 = .ok (.getfield 22, 3) := by decide +kernel
theorem dX4_takeSnapshot_28 : decode cX4_takeSnapshot 28 = .ok (.iload_n 1, 1) := by decide +kernel
theorem dX4_takeSnapshot_29 : decode cX4_takeSnapshot 29 = .ok (.iconst 1, 1) := by decide +kernel
theorem dX4_takeSnapshot_30 : decode cX4_takeSnapshot 30 = .ok (.bastore, 1) := by decide +kernel
theorem dX4_takeSnapshot_31 : decode cX4_takeSnapshot 31 = .ok (.aload_n 0, 1) := by decide +kernel
theorem dX4_takeSnapshot_32 : decode cX4_takeSnapshot 32 = .ok (.getfield 12, 3) := by decide +kernel
theorem dX4_takeSnapshot_35 : decode cX4_takeSnapshot 35 = .ok (.getfield 34, 3) := by decide +kernel
theorem dX4_takeSnapshot_38 : decode cX4_takeSnapshot 38 = .ok (.ireturn, 1) := by decide +kernel
theorem dX4_restoreSnapshot_0 : decode cX4_restoreSnapshot 0 = .ok (.iload_n 1, 1) := by decide +kernel
theorem dX4_restoreSnapshot_1 : decode cX4_restoreSnapshot 1 = .ok (.iconst 0, 1) := by decide +kernel
theorem dX4_restoreSnapshot_2 : decode cX4_restoreSnapshot 2 = .ok (.iconst 1, 1) := by decide +kernel
theorem dX4_restoreSnapshot_3 : decode cX4_restoreSnapshot 3 = .ok (.invokestatic 30, 3) := by decide +kernel
theorem dX4_restoreSnapshot_6 : decode cX4_restoreSnapshot 6 = .ok (.ifCond .ne 5, 3) := by decide +kernel
theorem dX4_restoreSnapshot_9 : decode cX4_restoreSnapshot 9 = .ok (.iconst (-1), 1) := by decide +kernel
theorem dX4_restoreSnapshot_10 : decode cX4_restoreSnapshot 10 = .ok (.ireturn, 1) := by decide +kernel
theorem dX4_restoreSnapshot_11 : decode cX4_restoreSnapshot 11 = .ok (.aload_n 0, 1) := by decide +kernel
theorem dX4_restoreSnapshot_12 : decode cX4_restoreSnapshot 12 = .ok (.getfield 22, 3) := by decide +kernel
theorem dX4_restoreSnapshot_15 : decode cX4_restoreSnapshot 15 = .ok (.iload_n 1, 1) := by decide +kernel
theorem dX4_restoreSnapshot_16 : decode cX4_restoreSnapshot 16 = .ok (.baload, 1) := by decide +kernel
theorem dX4_restoreSnapshot_17 : decode cX4_restoreSnapshot 17 = .ok (.ifCond .ne 6, 3) := by decide +kernel
theorem dX4_restoreSnapshot_20 : decode cX4_restoreSnapshot 20 = .ok (.bipush (-2), 2) := by decide +kernel
theorem dX4_restoreSnapshot_22 : decode cX4_restoreSnapshot 22 = .ok (.ireturn, 1) := by decide +kernel
theorem dX4_restoreSnapshot_23 : decode cX4_restoreSnapshot 23 = .ok (.aload_n 0, 1) := by decide +kernel
theorem dX4_restoreSnapshot_24 : decode cX4_restoreSnapshot 24 = .ok (.getfield 12, 3) := by decide +kernel
theorem dX4_restoreSnapshot_27 : decode cX4_restoreSnapshot 27 = .ok (.aload_n 0, 1) := by decide +kernel
theorem dX4_restoreSnapshot_28 : decode cX4_restoreSnapshot 28 = .ok (.getfield 18, 3) := by decide +kernel
theorem dX4_restoreSnapshot_31 : decode cX4_restoreSnapshot 31 = .ok (.iload_n 1, 1) := by decide +kernel
theorem dX4_restoreSnapshot_32 : decode cX4_restoreSnapshot 32 = .ok (.aaload, 1) := by decide +kernel
theorem dX4_restoreSnapshot_33 : decode cX4_restoreSnapshot 33 = .ok (.invokevirtual 26, 3) := by decide +kernel
theorem dX4_restoreSnapshot_36 : decode cX4_restoreSnapshot 36 = .ok (.aload_n 0, 1) := by decide +kernel
theorem dX4_restoreSnapshot_37 : decode cX4_restoreSnapshot 37 = .ok (.getfield 12, 3) := by decide +kernel
theorem dX4_restoreSnapshot_40 : decode cX4_restoreSnapshot 40 = .ok (.getfield 34, 3) := by decide +kernel
theorem dX4_restoreSnapshot_43 : decode cX4_restoreSnapshot 43 = .ok (.ireturn, 1) := by decide +kernel
theorem dX5_init_0 : decode cX5_init 0 = .ok (.aload_n 0, 1) := by decide +kernel
theorem dX5_init_1 : decode cX5_init 1 = .ok (.invokespecial 3, 3) := by decide +kernel
theorem dX5_init_4 : decode cX5_init 4 = .ok (.aload_n 0, 1) := by decide +kernel
theorem dX5_init_5 : decode cX5_init 5 = .ok (.iconst 0, 1) := by decide +kernel
theorem dX5_init_6 : decode cX5_init 6 = .ok (.putfield 9, 3) := by decide +kernel
theorem dX5_init_9 : decode cX5_init 9 = .ok (.aload_n 0, 1) := by decide +kernel
theorem dX5_init_10 : decode cX5_init 10 = .ok (.iconst 0, 1) := by decide +kernel
theorem dX5_init_11 : decode cX5_init 11 = .ok (.putfield 15, 3) := by decide +kernel
theorem dX5_init_14 : decode cX5_init 14 = .ok (.aload_n 0, 1) := by decide +kernel
theorem dX5_init_15 : decode cX5_init 15 = .ok (.iconst 0, 1) := by decide +kernel
theorem dX5_init_16 : decode cX5_init 16 = .ok (.putfield 18, 3) := by decide +kernel
theorem dX5_init_19 : decode cX5_init 19 = .ok (.aload_n 0, 1) := by decide +kernel
theorem dX5_init_20 : decode cX5_init 20 = .ok (.iconst 0, 1) := by decide +kernel
theorem dX5_init_21 : decode cX5_init 21 = .ok (.putfield 21, 3) := by decide +kernel
theorem dX5_init_24 : decode cX5_init 24 = .ok (.aload_n 0, 1) := by decide +kernel
theorem dX5_init_25 : decode cX5_init 25 = .ok (.iconst 0, 1) := by decide +kernel
theorem dX5_init_26 : decode cX5_init 26 = .ok (.putfield 24, 3) := by decide +kernel
theorem dX5_init_29 : decode cX5_init 29 = .ok (.return_, 1) := by decide +kernel
theorem dX5_copyFrom_0 : decode cX5_copyFrom 0 = .ok (.aload_n 0, 1) := by decide +kernel
theorem dX5_copyFrom_1 : decode cX5_copyFrom 1 = .ok (.aload_n 1, 1) := by decide +kernel
theorem dX5_copyFrom_2 : decode cX5_copyFrom 2 = .ok (.getfield 9, 3) := by decide +kernel
theorem dX5_copyFrom_5 : decode cX5_copyFrom 5 = .ok (.putfield 9, 3) := by decide +kernel
theorem dX5_copyFrom_8 : decode cX5_copyFrom 8 = .ok (.aload_n 0, 1) := by decide +kernel
theorem dX5_copyFrom_9 : decode cX5_copyFrom 9 = .ok (.aload_n 1, 1) := by decide +kernel
theorem dX5_copyFrom_10 : decode cX5_copyFrom 10 = .ok (.getfield 15, 3) := by decide +kernel
theorem dX5_copyFrom_13 : decode cX5_copyFrom 13 = .ok (.putfield 15, 3) := by decide +kernel
theorem dX5_copyFrom_16 : decode cX5_copyFrom 16 = .ok (.aload_n 0, 1) := by decide +kernel
theorem dX5_copyFrom_17 : decode cX5_copyFrom 17 = .ok (.aload_n 1, 1) := by decide +kernel
theorem dX5_copyFrom_18 : decode cX5_copyFrom 18 = .ok (.getfield 18, 3) := by decide +kernel
theorem dX5_copyFrom_21 : decode cX5_copyFrom 21 = .ok (.putfield 18, 3) := by decide +kernel
theorem dX5_copyFrom_24 : decode cX5_copyFrom 24 = .ok (.aload_n 0, 1) := by decide +kernel
theorem dX5_copyFrom_25 : decode cX5_copyFrom 25 = .ok (.aload_n 1, 1) := by decide +kernel
theorem dX5_copyFrom_26 : decode cX5_copyFrom 26 = .ok (.getfield 21, 3) := by decide +kernel
theorem dX5_copyFrom_29 : decode cX5_copyFrom 29 = .ok (.putfield 21, 3) := by decide +kernel
theorem dX5_copyFrom_32 : decode cX5_copyFrom 32 = .ok (.aload_n 0, 1) := by decide +kernel
theorem dX5_copyFrom_33 : decode cX5_copyFrom 33 = .ok (.aload_n 1, 1) := by decide +kernel
theorem dX5_copyFrom_34 : decode cX5_copyFrom 34 = .ok (.getfield 24, 3) := by decide +kernel
theorem dX5_copyFrom_37 : decode cX5_copyFrom 37 = .ok (.putfield 24, 3) := by decide +kernel
theorem dX5_copyFrom_40 : decode cX5_copyFrom 40 = .ok (.return_, 1) := by decide +kernel
theorem dX5_isDry_0 : decode cX5_isDry 0 = .ok (.aload_n 0, 1) := by decide +kernel
theorem dX5_isDry_1 : decode cX5_isDry 1 = .ok (.getfield 21, 3) := by decide +kernel
theorem dX5_isDry_4 : decode cX5_isDry 4 = .ok (.sipush 30000, 3) := by decide +kernel
theorem dX5_isDry_7 : decode cX5_isDry 7 = .ok (.if_icmp .gt 7, 3) := by decide +kernel
theorem dX5_isDry_10 : decode cX5_isDry 10 = .ok (.iconst 1, 1) := by decide +kernel
theorem dX5_isDry_11 : decode cX5_isDry 11 = .ok (.goto 4, 3) := by decide +kernel
theorem dX5_isDry_14 : decode cX5_isDry 14 = .ok (.iconst 0, 1) := by decide +kernel
theorem dX5_isDry_15 : decode cX5_isDry 15 = .ok (.ireturn, 1) := by decide +kernel
theorem dX5_turfWeight_0 : decode cX5_turfWeight 0 = .ok (.sipush 1000, 3) := by decide +kernel
theorem dX5_turfWeight_3 : decode cX5_turfWeight 3 = .ok (.aload_n 0, 1) := by decide +kernel
theorem dX5_turfWeight_4 : decode cX5_turfWeight 4 = .ok (.getfield 21, 3) := by decide +kernel
theorem dX5_turfWeight_7 : decode cX5_turfWeight 7 = .ok (.bipush 100, 2) := by decide +kernel
theorem dX5_turfWeight_9 : decode cX5_turfWeight 9 = .ok (.idiv, 1) := by decide +kernel
theorem dX5_turfWeight_10 : decode cX5_turfWeight 10 = .ok (.iadd, 1) := by decide +kernel
theorem dX5_turfWeight_11 : decode cX5_turfWeight 11 = .ok (.ireturn, 1) := by decide +kernel
theorem dX5_loadOf_0 : decode cX5_loadOf 0 = .ok (.iload_n 1, 1) := by decide +kernel
theorem dX5_loadOf_1 : decode cX5_loadOf 1 = .ok (.aload_n 0, 1) := by decide +kernel
theorem dX5_loadOf_2 : decode cX5_loadOf 2 = .ok (.invokevirtual 27, 3) := by decide +kernel
theorem dX5_loadOf_5 : decode cX5_loadOf 5 = .ok (.imul, 1) := by decide +kernel
theorem dX5_loadOf_6 : decode cX5_loadOf 6 = .ok (.sipush 999, 3) := by decide +kernel
theorem dX5_loadOf_9 : decode cX5_loadOf 9 = .ok (.iadd, 1) := by decide +kernel
theorem dX5_loadOf_10 : decode cX5_loadOf 10 = .ok (.sipush 1000, 3) := by decide +kernel
theorem dX5_loadOf_13 : decode cX5_loadOf 13 = .ok (.idiv, 1) := by decide +kernel
theorem dX5_loadOf_14 : decode cX5_loadOf 14 = .ok (.ireturn, 1) := by decide +kernel
theorem dX5_greatestCart_0 : decode cX5_greatestCart 0 = .ok (.aload_n 0, 1) := by decide +kernel
theorem dX5_greatestCart_1 : decode cX5_greatestCart 1 = .ok (.invokevirtual 27, 3) := by decide +kernel
theorem dX5_greatestCart_4 : decode cX5_greatestCart 4 = .ok (.istore_n 3, 1) := by decide +kernel
theorem dX5_greatestCart_5 : decode cX5_greatestCart 5 = .ok (.iload_n 3, 1) := by decide +kernel
theorem dX5_greatestCart_6 : decode cX5_greatestCart 6 = .ok (.ifCond .gt 5, 3) := by decide +kernel
theorem dX5_greatestCart_9 : decode cX5_greatestCart 9 = .ok (.iconst 0, 1) := by decide +kernel
theorem dX5_greatestCart_10 : decode cX5_greatestCart 10 = .ok (.ireturn, 1) := by decide +kernel
theorem dX5_greatestCart_11 : decode cX5_greatestCart 11 = .ok (.iload_n 2, 1) := by decide +kernel
theorem dX5_greatestCart_12 : decode cX5_greatestCart 12 = .ok (.sipush 1000, 3) := by decide +kernel
theorem dX5_greatestCart_15 : decode cX5_greatestCart 15 = .ok (.imul, 1) := by decide +kernel
theorem dX5_greatestCart_16 : decode cX5_greatestCart 16 = .ok (.iload_n 3, 1) := by decide +kernel
theorem dX5_greatestCart_17 : decode cX5_greatestCart 17 = .ok (.idiv, 1) := by decide +kernel
theorem dX5_greatestCart_18 : decode cX5_greatestCart 18 = .ok (.istore 4, 2) := by decide +kernel
theorem dX5_greatestCart_20 : decode cX5_greatestCart 20 = .ok (.iload 4, 2) := by decide +kernel
theorem dX5_greatestCart_22 : decode cX5_greatestCart 22 = .ok (.iload_n 1, 1) := by decide +kernel
theorem dX5_greatestCart_23 : decode cX5_greatestCart 23 = .ok (.sipush 1000, 3) := by decide +kernel
theorem dX5_greatestCart_26 : decode cX5_greatestCart 26 = .ok (.invokestatic 31, 3) := by decide +kernel
theorem dX5_greatestCart_29 : decode cX5_greatestCart 29 = .ok (.invokestatic 31, 3) := by decide +kernel
theorem dX5_greatestCart_32 : decode cX5_greatestCart 32 = .ok (.ireturn, 1) := by decide +kernel
theorem dX5_wetnessAfterDay_0 : decode cX5_wetnessAfterDay 0 = .ok (.iload_n 2, 1) := by decide +kernel
theorem dX5_wetnessAfterDay_1 : decode cX5_wetnessAfterDay 1 = .ok (.aload_n 0, 1) := by decide +kernel
theorem dX5_wetnessAfterDay_2 : decode cX5_wetnessAfterDay 2 = .ok (.getfield 24, 3) := by decide +kernel
theorem dX5_wetnessAfterDay_5 : decode cX5_wetnessAfterDay 5 = .ok (.iconst 1, 1) := by decide +kernel
theorem dX5_wetnessAfterDay_6 : decode cX5_wetnessAfterDay 6 = .ok (.iadd, 1) := by decide +kernel
theorem dX5_wetnessAfterDay_7 : decode cX5_wetnessAfterDay 7 = .ok (.imul, 1) := by decide +kernel
theorem dX5_wetnessAfterDay_8 : decode cX5_wetnessAfterDay 8 = .ok (.istore 4, 2) := by decide +kernel
theorem dX5_wetnessAfterDay_10 : decode cX5_wetnessAfterDay 10 = .ok (.iload_n 1, 1) := by decide +kernel
theorem dX5_wetnessAfterDay_11 : decode cX5_wetnessAfterDay 11 = .ok (.i2d, 1) := by decide +kernel
theorem dX5_wetnessAfterDay_12 : decode cX5_wetnessAfterDay 12 = .ok (.dconst 1, 1) := by decide +kernel
theorem dX5_wetnessAfterDay_13 : decode cX5_wetnessAfterDay 13 = .ok (.iload 4, 2) := by decide +kernel
theorem dX5_wetnessAfterDay_15 : decode cX5_wetnessAfterDay 15 = .ok (.i2d, 1) := by decide +kernel
theorem dX5_wetnessAfterDay_16 : decode cX5_wetnessAfterDay 16 = .ok (.ldc2_w 37, 3) := by decide +kernel
theorem dX5_wetnessAfterDay_19 : decode cX5_wetnessAfterDay 19 = .ok (.ddiv, 1) := by decide +kernel
theorem dX5_wetnessAfterDay_20 : decode cX5_wetnessAfterDay 20 = .ok (.dsub, 1) := by decide +kernel
theorem dX5_wetnessAfterDay_21 : decode cX5_wetnessAfterDay 21 = .ok (.dmul, 1) := by decide +kernel
theorem dX5_wetnessAfterDay_22 : decode cX5_wetnessAfterDay 22 = .ok (.d2i, 1) := by decide +kernel
theorem dX5_wetnessAfterDay_23 : decode cX5_wetnessAfterDay 23 = .ok (.istore 5, 2) := by decide +kernel
theorem dX5_wetnessAfterDay_25 : decode cX5_wetnessAfterDay 25 = .ok (.ldc 39, 2) := by decide +kernel
theorem dX5_wetnessAfterDay_27 : decode cX5_wetnessAfterDay 27 = .ok (.iload 5, 2) := by decide +kernel
theorem dX5_wetnessAfterDay_29 : decode cX5_wetnessAfterDay 29 = .ok (.sipush 1500, 3) := by decide +kernel
theorem dX5_wetnessAfterDay_32 : decode cX5_wetnessAfterDay 32 = .ok (.iload_n 3, 1) := by decide +kernel
theorem dX5_wetnessAfterDay_33 : decode cX5_wetnessAfterDay 33 = .ok (.imul, 1) := by decide +kernel
theorem dX5_wetnessAfterDay_34 : decode cX5_wetnessAfterDay 34 = .ok (.iadd, 1) := by decide +kernel
theorem dX5_wetnessAfterDay_35 : decode cX5_wetnessAfterDay 35 = .ok (.invokestatic 31, 3) := by decide +kernel
theorem dX5_wetnessAfterDay_38 : decode cX5_wetnessAfterDay 38 = .ok (.ireturn, 1) := by decide +kernel
theorem dX5_takeAllOf_0 : decode cX5_takeAllOf 0 = .ok (.aload_n 0, 1) := by decide +kernel
theorem dX5_takeAllOf_1 : decode cX5_takeAllOf 1 = .ok (.getfield 18, 3) := by decide +kernel
theorem dX5_takeAllOf_4 : decode cX5_takeAllOf 4 = .ok (.aload_n 1, 1) := by decide +kernel
theorem dX5_takeAllOf_5 : decode cX5_takeAllOf 5 = .ok (.getfield 18, 3) := by decide +kernel
theorem dX5_takeAllOf_8 : decode cX5_takeAllOf 8 = .ok (.iadd, 1) := by decide +kernel
theorem dX5_takeAllOf_9 : decode cX5_takeAllOf 9 = .ok (.istore_n 2, 1) := by decide +kernel
theorem dX5_takeAllOf_10 : decode cX5_takeAllOf 10 = .ok (.iload_n 2, 1) := by decide +kernel
theorem dX5_takeAllOf_11 : decode cX5_takeAllOf 11 = .ok (.ifCond .le 41, 3) := by decide +kernel
theorem dX5_takeAllOf_14 : decode cX5_takeAllOf 14 = .ok (.aload_n 0, 1) := by decide +kernel
theorem dX5_takeAllOf_15 : decode cX5_takeAllOf 15 = .ok (.getfield 18, 3) := by decide +kernel
theorem dX5_takeAllOf_18 : decode cX5_takeAllOf 18 = .ok (.i2l, 1) := by decide +kernel
theorem dX5_takeAllOf_19 : decode cX5_takeAllOf 19 = .ok (.aload_n 0, 1) := by decide +kernel
theorem dX5_takeAllOf_20 : decode cX5_takeAllOf 20 = .ok (.getfield 21, 3) := by decide +kernel
theorem dX5_takeAllOf_23 : decode cX5_takeAllOf 23 = .ok (.i2l, 1) := by decide +kernel
theorem dX5_takeAllOf_24 : decode cX5_takeAllOf 24 = .ok (.lmul, 1) := by decide +kernel
theorem dX5_takeAllOf_25 : decode cX5_takeAllOf 25 = .ok (.aload_n 1, 1) := by decide +kernel
theorem dX5_takeAllOf_26 : decode cX5_takeAllOf 26 = .ok (.getfield 18, 3) := by decide +kernel
theorem dX5_takeAllOf_29 : decode cX5_takeAllOf 29 = .ok (.i2l, 1) := by decide +kernel
theorem dX5_takeAllOf_30 : decode cX5_takeAllOf 30 = .ok (.aload_n 1, 1) := by decide +kernel
theorem dX5_takeAllOf_31 : decode cX5_takeAllOf 31 = .ok (.getfield 21, 3) := by decide +kernel
theorem dX5_takeAllOf_34 : decode cX5_takeAllOf 34 = .ok (.i2l, 1) := by decide +kernel
theorem dX5_takeAllOf_35 : decode cX5_takeAllOf 35 = .ok (.lmul, 1) := by decide +kernel
theorem dX5_takeAllOf_36 : decode cX5_takeAllOf 36 = .ok (.ladd, 1) := by decide +kernel
theorem dX5_takeAllOf_37 : decode cX5_takeAllOf 37 = .ok (.lstore_n 3, 1) := by decide +kernel
theorem dX5_takeAllOf_38 : decode cX5_takeAllOf 38 = .ok (.aload_n 0, 1) := by decide +kernel
theorem dX5_takeAllOf_39 : decode cX5_takeAllOf 39 = .ok (.lload_n 3, 1) := by decide +kernel
theorem dX5_takeAllOf_40 : decode cX5_takeAllOf 40 = .ok (.iload_n 2, 1) := by decide +kernel
theorem dX5_takeAllOf_41 : decode cX5_takeAllOf 41 = .ok (.i2l, 1) := by decide +kernel
theorem dX5_takeAllOf_42 : decode cX5_takeAllOf 42 = .ok (.ladd, 1) := by decide +kernel
theorem dX5_takeAllOf_43 : decode cX5_takeAllOf 43 = .ok (.lconst 1, 1) := by decide +kernel
theorem dX5_takeAllOf_44 : decode cX5_takeAllOf 44 = .ok (.lsub, 1) := by decide +kernel
theorem dX5_takeAllOf_45 : decode cX5_takeAllOf 45 = .ok (.iload_n 2, 1) := by decide +kernel
theorem dX5_takeAllOf_46 : decode cX5_takeAllOf 46 = .ok (.i2l, 1) := by decide +kernel
theorem dX5_takeAllOf_47 : decode cX5_takeAllOf 47 = .ok (.ldiv, 1) := by decide +kernel
theorem dX5_takeAllOf_48 : decode cX5_takeAllOf 48 = .ok (.l2i, 1) := by decide +kernel
theorem dX5_takeAllOf_49 : decode cX5_takeAllOf 49 = .ok (.putfield 21, 3) := by decide +kernel
theorem dX5_takeAllOf_52 : decode cX5_takeAllOf 52 = .ok (.aload_n 0, 1) := by decide +kernel
theorem dX5_takeAllOf_53 : decode cX5_takeAllOf 53 = .ok (.iload_n 2, 1) := by decide +kernel
theorem dX5_takeAllOf_54 : decode cX5_takeAllOf 54 = .ok (.putfield 18, 3) := by decide +kernel
theorem dX5_takeAllOf_57 : decode cX5_takeAllOf 57 = .ok (.aload_n 0, 1) := by decide +kernel
theorem dX5_takeAllOf_58 : decode cX5_takeAllOf 58 = .ok (.aload_n 0, 1) := by decide +kernel
theorem dX5_takeAllOf_59 : decode cX5_takeAllOf 59 = .ok (.getfield 24, 3) := by decide +kernel
theorem dX5_takeAllOf_62 : decode cX5_takeAllOf 62 = .ok (.aload_n 1, 1) := by decide +kernel
theorem dX5_takeAllOf_63 : decode cX5_takeAllOf 63 = .ok (.getfield 24, 3) := by decide +kernel
theorem dX5_takeAllOf_66 : decode cX5_takeAllOf 66 = .ok (.invokestatic 31, 3) := by decide +kernel
theorem dX5_takeAllOf_69 : decode cX5_takeAllOf 69 = .ok (.putfield 24, 3) := by decide +kernel
theorem dX5_takeAllOf_72 : decode cX5_takeAllOf 72 = .ok (.return_, 1) := by decide +kernel
theorem dX6_init_0 : decode cX6_init 0 = .ok (.aload_n 0, 1) := by decide +kernel
theorem dX6_init_1 : decode cX6_init 1 = .ok (.invokespecial 1, 3) := by decide +kernel
theorem dX6_init_4 : decode cX6_init 4 = .ok (.aload_n 0, 1) := by decide +kernel
theorem dX6_init_5 : decode cX6_init 5 = .ok (.new 7, 3) := by decide +kernel
theorem dX6_init_8 : decode cX6_init 8 = .ok (.dup, 1) := by decide +kernel
theorem dX6_init_9 : decode cX6_init 9 = .ok (.invokespecial 9, 3) := by decide +kernel
theorem dX6_init_12 : decode cX6_init 12 = .ok (.putfield 10, 3) := by decide +kernel
theorem dX6_init_15 : decode cX6_init 15 = .ok (.aload_n 0, 1) := by decide +kernel
theorem dX6_init_16 : decode cX6_init 16 = .ok (.new 7, 3) := by decide +kernel
theorem dX6_init_19 : decode cX6_init 19 = .ok (.dup, 1) := by decide +kernel
theorem dX6_init_20 : decode cX6_init 20 = .ok (.invokespecial 9, 3) := by decide +kernel
theorem dX6_init_23 : decode cX6_init 23 = .ok (.putfield 16, 3) := by decide +kernel
theorem dX6_init_26 : decode cX6_init 26 = .ok (.aload_n 0, 1) := by decide +kernel
theorem dX6_init_27 : decode cX6_init 27 = .ok (.iconst 5, 1) := by decide +kernel
theorem dX6_init_28 : decode cX6_init 28 = .ok (.anewarray 7, 3) := by decide +kernel
theorem dX6_init_31 : decode cX6_init 31 = .ok (.putfield 19, 3) := by decide +kernel
theorem dX6_init_34 : decode cX6_init 34 = .ok (.aload_n 0, 1) := by decide +kernel
theorem dX6_init_35 : decode cX6_init 35 = .ok (.iconst 0, 1) := by decide +kernel
theorem dX6_init_36 : decode cX6_init 36 = .ok (.putfield 23, 3) := by decide +kernel
theorem dX6_init_39 : decode cX6_init 39 = .ok (.aload_n 0, 1) := by decide +kernel
theorem dX6_init_40 : decode cX6_init 40 = .ok (.new 27, 3) := by decide +kernel
theorem dX6_init_43 : decode cX6_init 43 = .ok (.dup, 1) := by decide +kernel
theorem dX6_init_44 : decode cX6_init 44 = .ok (.invokespecial 29, 3) := by decide +kernel
theorem dX6_init_47 : decode cX6_init 47 = .ok (.putfield 30, 3) := by decide +kernel
theorem dX6_init_50 : decode cX6_init 50 = .ok (.iconst 0, 1) := by decide +kernel
theorem dX6_init_51 : decode cX6_init 51 = .ok (.istore_n 1, 1) := by decide +kernel
theorem dX6_init_52 : decode cX6_init 52 = .ok (.iload_n 1, 1) := by decide +kernel
theorem dX6_init_53 : decode cX6_init 53 = .ok (.iconst 5, 1) := by decide +kernel
theorem dX6_init_54 : decode cX6_init 54 = .ok (.if_icmp .ge 22, 3) := by decide +kernel
theorem dX6_init_57 : decode cX6_init 57 = .ok (.aload_n 0, 1) := by decide +kernel
theorem dX6_init_58 : decode cX6_init 58 = .ok (.getfield 19, 3) := by decide +kernel
theorem dX6_init_61 : decode cX6_init 61 = .ok (.iload_n 1, 1) := by decide +kernel
theorem dX6_init_62 : decode cX6_init 62 = .ok (.new 7, 3) := by decide +kernel
theorem dX6_init_65 : decode cX6_init 65 = .ok (.dup, 1) := by decide +kernel
theorem dX6_init_66 : decode cX6_init 66 = .ok (.invokespecial 9, 3) := by decide +kernel
theorem dX6_init_69 : decode cX6_init 69 = .ok (.aastore, 1) := by decide +kernel
theorem dX6_init_70 : decode cX6_init 70 = .ok (.iinc 1 1, 3) := by decide +kernel
theorem dX6_init_73 : decode cX6_init 73 = .ok (.goto (-21), 3) := by decide +kernel
theorem dX6_init_76 : decode cX6_init 76 = .ok (.return_, 1) := by decide +kernel
theorem dX6_come_0 : decode cX6_come 0 = .ok (.aload_n 0, 1) := by decide +kernel
theorem dX6_come_1 : decode cX6_come 1 = .ok (.getfield 16, 3) := by decide +kernel
theorem dX6_come_4 : decode cX6_come 4 = .ok (.aload_n 0, 1) := by decide +kernel
theorem dX6_come_5 : decode cX6_come 5 = .ok (.getfield 10, 3) := by decide +kernel
theorem dX6_come_8 : decode cX6_come 8 = .ok (.invokevirtual 34, 3) := by decide +kernel
theorem dX6_come_11 : decode cX6_come 11 = .ok (.aload_n 0, 1) := by decide +kernel
theorem dX6_come_12 : decode cX6_come 12 = .ok (.aload_n 0, 1) := by decide +kernel
theorem dX6_come_13 : decode cX6_come 13 = .ok (.getfield 10, 3) := by decide +kernel
theorem dX6_come_16 : decode cX6_come 16 = .ok (.getfield 38, 3) := by decide +kernel
theorem dX6_come_19 : decode cX6_come 19 = .ok (.iload_n 1, 1) := by decide +kernel
theorem dX6_come_20 : decode cX6_come 20 = .ok (.invokevirtual 42, 3) := by decide +kernel
theorem dX6_come_23 : decode cX6_come 23 = .ok (.invokevirtual 48, 3) := by decide +kernel
theorem dX6_come_26 : decode cX6_come 26 = .ok (.ireturn, 1) := by decide +kernel
theorem dX6_setSpades_0 : decode cX6_setSpades 0 = .ok (.aload_n 0, 1) := by decide +kernel
theorem dX6_setSpades_1 : decode cX6_setSpades 1 = .ok (.getfield 16, 3) := by decide +kernel
theorem dX6_setSpades_4 : decode cX6_setSpades 4 = .ok (.aload_n 0, 1) := by decide +kernel
theorem dX6_setSpades_5 : decode cX6_setSpades 5 = .ok (.getfield 10, 3) := by decide +kernel
theorem dX6_setSpades_8 : decode cX6_setSpades 8 = .ok (.invokevirtual 34, 3) := by decide +kernel
theorem dX6_setSpades_11 : decode cX6_setSpades 11 = .ok (.aload_n 0, 1) := by decide +kernel
theorem dX6_setSpades_12 : decode cX6_setSpades 12 = .ok (.aload_n 0, 1) := by decide +kernel
theorem dX6_setSpades_13 : decode cX6_setSpades 13 = .ok (.getfield 10, 3) := by decide +kernel
theorem dX6_setSpades_16 : decode cX6_setSpades 16 = .ok (.getfield 38, 3) := by decide +kernel
theorem dX6_setSpades_19 : decode cX6_setSpades 19 = .ok (.iload_n 1, 1) := by decide +kernel
theorem dX6_setSpades_20 : decode cX6_setSpades 20 = .ok (.iload_n 2, 1) := by decide +kernel
theorem dX6_setSpades_21 : decode cX6_setSpades 21 = .ok (.invokevirtual 51, 3) := by decide +kernel
theorem dX6_setSpades_24 : decode cX6_setSpades 24 = .ok (.invokevirtual 48, 3) := by decide +kernel
theorem dX6_setSpades_27 : decode cX6_setSpades 27 = .ok (.ireturn, 1) := by decide +kernel
theorem dX6_addBank_0 : decode cX6_addBank 0 = .ok (.aload_n 0, 1) := by decide +kernel
theorem dX6_addBank_1 : decode cX6_addBank 1 = .ok (.getfield 16, 3) := by decide +kernel
theorem dX6_addBank_4 : decode cX6_addBank 4 = .ok (.aload_n 0, 1) := by decide +kernel
theorem dX6_addBank_5 : decode cX6_addBank 5 = .ok (.getfield 10, 3) := by decide +kernel
theorem dX6_addBank_8 : decode cX6_addBank 8 = .ok (.invokevirtual 34, 3) := by decide +kernel
theorem dX6_addBank_11 : decode cX6_addBank 11 = .ok (.aload_n 0, 1) := by decide +kernel
theorem dX6_addBank_12 : decode cX6_addBank 12 = .ok (.aload_n 0, 1) := by decide +kernel
theorem dX6_addBank_13 : decode cX6_addBank 13 = .ok (.getfield 10, 3) := by decide +kernel
theorem dX6_addBank_16 : decode cX6_addBank 16 = .ok (.getfield 38, 3) := by decide +kernel
theorem dX6_addBank_19 : decode cX6_addBank 19 = .ok (.iload_n 1, 1) := by decide +kernel
theorem dX6_addBank_20 : decode cX6_addBank 20 = .ok (.iload_n 2, 1) := by decide +kernel
theorem dX6_addBank_21 : decode cX6_addBank 21 = .ok (.invokevirtual 55, 3) := by decide +kernel
theorem dX6_addBank_24 : decode cX6_addBank 24 = .ok (.invokevirtual 48, 3) := by decide +kernel
theorem dX6_addBank_27 : decode cX6_addBank 27 = .ok (.ireturn, 1) := by decide +kernel
theorem dX6_setAllowance_0 : decode cX6_setAllowance 0 = .ok (.aload_n 0, 1) := by decide +kernel
theorem dX6_setAllowance_1 : decode cX6_setAllowance 1 = .ok (.getfield 16, 3) := by decide +kernel
theorem dX6_setAllowance_4 : decode cX6_setAllowance 4 = .ok (.aload_n 0, 1) := by decide +kernel
theorem dX6_setAllowance_5 : decode cX6_setAllowance 5 = .ok (.getfield 10, 3) := by decide +kernel
theorem dX6_setAllowance_8 : decode cX6_setAllowance 8 = .ok (.invokevirtual 34, 3) := by decide +kernel
theorem dX6_setAllowance_11 : decode cX6_setAllowance 11 = .ok (.aload_n 0, 1) := by decide +kernel
theorem dX6_setAllowance_12 : decode cX6_setAllowance 12 = .ok (.aload_n 0, 1) := by decide +kernel
theorem dX6_setAllowance_13 : decode cX6_setAllowance 13 = .ok (.getfield 10, 3) := by decide +kernel
theorem dX6_setAllowance_16 : decode cX6_setAllowance 16 = .ok (.getfield 38, 3) := by decide +kernel
theorem dX6_setAllowance_19 : decode cX6_setAllowance 19 = .ok (.iload_n 1, 1) := by decide +kernel
theorem dX6_setAllowance_20 : decode cX6_setAllowance 20 = .ok (.iload_n 2, 1) := by decide +kernel
theorem dX6_setAllowance_21 : decode cX6_setAllowance 21 = .ok (.invokevirtual 58, 3) := by decide +kernel
theorem dX6_setAllowance_24 : decode cX6_setAllowance 24 = .ok (.invokevirtual 48, 3) := by decide +kernel
theorem dX6_setAllowance_27 : decode cX6_setAllowance 27 = .ok (.ireturn, 1) := by decide +kernel
theorem dX6_grant_0 : decode cX6_grant 0 = .ok (.aload_n 0, 1) := by decide +kernel
theorem dX6_grant_1 : decode cX6_grant 1 = .ok (.getfield 16, 3) := by decide +kernel
theorem dX6_grant_4 : decode cX6_grant 4 = .ok (.aload_n 0, 1) := by decide +kernel
theorem dX6_grant_5 : decode cX6_grant 5 = .ok (.getfield 10, 3) := by decide +kernel
theorem dX6_grant_8 : decode cX6_grant 8 = .ok (.invokevirtual 34, 3) := by decide +kernel
theorem dX6_grant_11 : decode cX6_grant 11 = .ok (.aload_n 0, 1) := by decide +kernel
theorem dX6_grant_12 : decode cX6_grant 12 = .ok (.aload_n 0, 1) := by decide +kernel
theorem dX6_grant_13 : decode cX6_grant 13 = .ok (.getfield 10, 3) := by decide +kernel
theorem dX6_grant_16 : decode cX6_grant 16 = .ok (.getfield 38, 3) := by decide +kernel
theorem dX6_grant_19 : decode cX6_grant 19 = .ok (.iload_n 1, 1) := by decide +kernel
theorem dX6_grant_20 : decode cX6_grant 20 = .ok (.iload_n 2, 1) := by decide +kernel
theorem dX6_grant_21 : decode cX6_grant 21 = .ok (.iload_n 3, 1) := by decide +kernel
theorem dX6_grant_22 : decode cX6_grant 22 = .ok (.invokevirtual 61, 3) := by decide +kernel
theorem dX6_grant_25 : decode cX6_grant 25 = .ok (.invokevirtual 48, 3) := by decide +kernel
theorem dX6_grant_28 : decode cX6_grant 28 = .ok (.ireturn, 1) := by decide +kernel
theorem dX6_cut_0 : decode cX6_cut 0 = .ok (.aload_n 0, 1) := by decide +kernel
theorem dX6_cut_1 : decode cX6_cut 1 = .ok (.getfield 16, 3) := by decide +kernel
theorem dX6_cut_4 : decode cX6_cut 4 = .ok (.aload_n 0, 1) := by decide +kernel
theorem dX6_cut_5 : decode cX6_cut 5 = .ok (.getfield 10, 3) := by decide +kernel
theorem dX6_cut_8 : decode cX6_cut 8 = .ok (.invokevirtual 34, 3) := by decide +kernel
theorem dX6_cut_11 : decode cX6_cut 11 = .ok (.aload_n 0, 1) := by decide +kernel
theorem dX6_cut_12 : decode cX6_cut 12 = .ok (.aload_n 0, 1) := by decide +kernel
theorem dX6_cut_13 : decode cX6_cut 13 = .ok (.getfield 10, 3) := by decide +kernel
theorem dX6_cut_16 : decode cX6_cut 16 = .ok (.getfield 38, 3) := by decide +kernel
theorem dX6_cut_19 : decode cX6_cut 19 = .ok (.iload_n 1, 1) := by decide +kernel
theorem dX6_cut_20 : decode cX6_cut 20 = .ok (.iload_n 2, 1) := by decide +kernel
theorem dX6_cut_21 : decode cX6_cut 21 = .ok (.iload_n 3, 1) := by decide +kernel
theorem dX6_cut_22 : decode cX6_cut 22 = .ok (.invokevirtual 65, 3) := by decide +kernel
theorem dX6_cut_25 : decode cX6_cut 25 = .ok (.invokevirtual 48, 3) := by decide +kernel
theorem dX6_cut_28 : decode cX6_cut 28 = .ok (.ireturn, 1) := by decide +kernel
theorem dX6_turn_0 : decode cX6_turn 0 = .ok (.aload_n 0, 1) := by decide +kernel
theorem dX6_turn_1 : decode cX6_turn 1 = .ok (.getfield 16, 3) := by decide +kernel
theorem dX6_turn_4 : decode cX6_turn 4 = .ok (.aload_n 0, 1) := by decide +kernel
theorem dX6_turn_5 : decode cX6_turn 5 = .ok (.getfield 10, 3) := by decide +kernel
theorem dX6_turn_8 : decode cX6_turn 8 = .ok (.invokevirtual 34, 3) := by decide +kernel
theorem dX6_turn_11 : decode cX6_turn 11 = .ok (.aload_n 0, 1) := by decide +kernel
theorem dX6_turn_12 : decode cX6_turn 12 = .ok (.aload_n 0, 1) := by decide +kernel
theorem dX6_turn_13 : decode cX6_turn 13 = .ok (.getfield 10, 3) := by decide +kernel
theorem dX6_turn_16 : decode cX6_turn 16 = .ok (.getfield 38, 3) := by decide +kernel
theorem dX6_turn_19 : decode cX6_turn 19 = .ok (.iload_n 1, 1) := by decide +kernel
theorem dX6_turn_20 : decode cX6_turn 20 = .ok (.invokevirtual 68, 3) := by decide +kernel
theorem dX6_turn_23 : decode cX6_turn 23 = .ok (.invokevirtual 48, 3) := by decide +kernel
theorem dX6_turn_26 : decode cX6_turn 26 = .ok (.ireturn, 1) := by decide +kernel
theorem dX6_join_0 : decode cX6_join 0 = .ok (.aload_n 0, 1) := by decide +kernel
theorem dX6_join_1 : decode cX6_join 1 = .ok (.getfield 16, 3) := by decide +kernel
theorem dX6_join_4 : decode cX6_join 4 = .ok (.aload_n 0, 1) := by decide +kernel
theorem dX6_join_5 : decode cX6_join 5 = .ok (.getfield 10, 3) := by decide +kernel
theorem dX6_join_8 : decode cX6_join 8 = .ok (.invokevirtual 34, 3) := by decide +kernel
theorem dX6_join_11 : decode cX6_join 11 = .ok (.aload_n 0, 1) := by decide +kernel
theorem dX6_join_12 : decode cX6_join 12 = .ok (.aload_n 0, 1) := by decide +kernel
theorem dX6_join_13 : decode cX6_join 13 = .ok (.getfield 10, 3) := by decide +kernel
theorem dX6_join_16 : decode cX6_join 16 = .ok (.getfield 38, 3) := by decide +kernel
theorem dX6_join_19 : decode cX6_join 19 = .ok (.iload_n 1, 1) := by decide +kernel
theorem dX6_join_20 : decode cX6_join 20 = .ok (.iload_n 2, 1) := by decide +kernel
theorem dX6_join_21 : decode cX6_join 21 = .ok (.invokevirtual 71, 3) := by decide +kernel
theorem dX6_join_24 : decode cX6_join 24 = .ok (.invokevirtual 48, 3) := by decide +kernel
theorem dX6_join_27 : decode cX6_join 27 = .ok (.ireturn, 1) := by decide +kernel
theorem dX6_cart_0 : decode cX6_cart 0 = .ok (.aload_n 0, 1) := by decide +kernel
theorem dX6_cart_1 : decode cX6_cart 1 = .ok (.getfield 16, 3) := by decide +kernel
theorem dX6_cart_4 : decode cX6_cart 4 = .ok (.aload_n 0, 1) := by decide +kernel
theorem dX6_cart_5 : decode cX6_cart 5 = .ok (.getfield 10, 3) := by decide +kernel
theorem dX6_cart_8 : decode cX6_cart 8 = .ok (.invokevirtual 34, 3) := by decide +kernel
theorem dX6_cart_11 : decode cX6_cart 11 = .ok (.aload_n 0, 1) := by decide +kernel
theorem dX6_cart_12 : decode cX6_cart 12 = .ok (.aload_n 0, 1) := by decide +kernel
theorem dX6_cart_13 : decode cX6_cart 13 = .ok (.getfield 10, 3) := by decide +kernel
theorem dX6_cart_16 : decode cX6_cart 16 = .ok (.getfield 38, 3) := by decide +kernel
theorem dX6_cart_19 : decode cX6_cart 19 = .ok (.iload_n 1, 1) := by decide +kernel
theorem dX6_cart_20 : decode cX6_cart 20 = .ok (.iload_n 2, 1) := by decide +kernel
theorem dX6_cart_21 : decode cX6_cart 21 = .ok (.invokevirtual 74, 3) := by decide +kernel
theorem dX6_cart_24 : decode cX6_cart 24 = .ok (.invokevirtual 48, 3) := by decide +kernel
theorem dX6_cart_27 : decode cX6_cart 27 = .ok (.ireturn, 1) := by decide +kernel
theorem dX6_repair_0 : decode cX6_repair 0 = .ok (.aload_n 0, 1) := by decide +kernel
theorem dX6_repair_1 : decode cX6_repair 1 = .ok (.getfield 16, 3) := by decide +kernel
theorem dX6_repair_4 : decode cX6_repair 4 = .ok (.aload_n 0, 1) := by decide +kernel
theorem dX6_repair_5 : decode cX6_repair 5 = .ok (.getfield 10, 3) := by decide +kernel
theorem dX6_repair_8 : decode cX6_repair 8 = .ok (.invokevirtual 34, 3) := by decide +kernel
theorem dX6_repair_11 : decode cX6_repair 11 = .ok (.aload_n 0, 1) := by decide +kernel
theorem dX6_repair_12 : decode cX6_repair 12 = .ok (.aload_n 0, 1) := by decide +kernel
theorem dX6_repair_13 : decode cX6_repair 13 = .ok (.getfield 10, 3) := by decide +kernel
theorem dX6_repair_16 : decode cX6_repair 16 = .ok (.getfield 38, 3) := by decide +kernel
theorem dX6_repair_19 : decode cX6_repair 19 = .ok (.iload_n 1, 1) := by decide +kernel
theorem dX6_repair_20 : decode cX6_repair 20 = .ok (.invokevirtual 77, 3) := by decide +kernel
theorem dX6_repair_23 : decode cX6_repair 23 = .ok (.invokevirtual 48, 3) := by decide +kernel
theorem dX6_repair_26 : decode cX6_repair 26 = .ok (.ireturn, 1) := by decide +kernel
theorem dX6_day_0 : decode cX6_day 0 = .ok (.aload_n 0, 1) := by decide +kernel
theorem dX6_day_1 : decode cX6_day 1 = .ok (.getfield 16, 3) := by decide +kernel
theorem dX6_day_4 : decode cX6_day 4 = .ok (.aload_n 0, 1) := by decide +kernel
theorem dX6_day_5 : decode cX6_day 5 = .ok (.getfield 10, 3) := by decide +kernel
theorem dX6_day_8 : decode cX6_day 8 = .ok (.invokevirtual 34, 3) := by decide +kernel
theorem dX6_day_11 : decode cX6_day 11 = .ok (.aload_n 0, 1) := by decide +kernel
theorem dX6_day_12 : decode cX6_day 12 = .ok (.aload_n 0, 1) := by decide +kernel
theorem dX6_day_13 : decode cX6_day 13 = .ok (.getfield 10, 3) := by decide +kernel
theorem dX6_day_16 : decode cX6_day 16 = .ok (.getfield 38, 3) := by decide +kernel
theorem dX6_day_19 : decode cX6_day 19 = .ok (.iload_n 1, 1) := by decide +kernel
theorem dX6_day_20 : decode cX6_day 20 = .ok (.iload_n 2, 1) := by decide +kernel
theorem dX6_day_21 : decode cX6_day 21 = .ok (.invokevirtual 80, 3) := by decide +kernel
theorem dX6_day_24 : decode cX6_day 24 = .ok (.invokevirtual 48, 3) := by decide +kernel
theorem dX6_day_27 : decode cX6_day 27 = .ok (.ireturn, 1) := by decide +kernel
theorem dX6_endYear_0 : decode cX6_endYear 0 = .ok (.aload_n 0, 1) := by decide +kernel
theorem dX6_endYear_1 : decode cX6_endYear 1 = .ok (.getfield 16, 3) := by decide +kernel
theorem dX6_endYear_4 : decode cX6_endYear 4 = .ok (.aload_n 0, 1) := by decide +kernel
theorem dX6_endYear_5 : decode cX6_endYear 5 = .ok (.getfield 10, 3) := by decide +kernel
theorem dX6_endYear_8 : decode cX6_endYear 8 = .ok (.invokevirtual 34, 3) := by decide +kernel
theorem dX6_endYear_11 : decode cX6_endYear 11 = .ok (.aload_n 0, 1) := by decide +kernel
theorem dX6_endYear_12 : decode cX6_endYear 12 = .ok (.aload_n 0, 1) := by decide +kernel
theorem dX6_endYear_13 : decode cX6_endYear 13 = .ok (.getfield 10, 3) := by decide +kernel
theorem dX6_endYear_16 : decode cX6_endYear 16 = .ok (.getfield 38, 3) := by decide +kernel
theorem dX6_endYear_19 : decode cX6_endYear 19 = .ok (.invokevirtual 83, 3) := by decide +kernel
theorem dX6_endYear_22 : decode cX6_endYear 22 = .ok (.invokevirtual 48, 3) := by decide +kernel
theorem dX6_endYear_25 : decode cX6_endYear 25 = .ok (.ireturn, 1) := by decide +kernel
theorem dX6_take_0 : decode cX6_take 0 = .ok (.aload_n 0, 1) := by decide +kernel
theorem dX6_take_1 : decode cX6_take 1 = .ok (.getfield 16, 3) := by decide +kernel
theorem dX6_take_4 : decode cX6_take 4 = .ok (.aload_n 0, 1) := by decide +kernel
theorem dX6_take_5 : decode cX6_take 5 = .ok (.getfield 10, 3) := by decide +kernel
theorem dX6_take_8 : decode cX6_take 8 = .ok (.invokevirtual 34, 3) := by decide +kernel
theorem dX6_take_11 : decode cX6_take 11 = .ok (.aload_n 0, 1) := by decide +kernel
theorem dX6_take_12 : decode cX6_take 12 = .ok (.aload_n 0, 1) := by decide +kernel
theorem dX6_take_13 : decode cX6_take 13 = .ok (.getfield 10, 3) := by decide +kernel
theorem dX6_take_16 : decode cX6_take 16 = .ok (.iload_n 1, 1) := by decide +kernel
theorem dX6_take_17 : decode cX6_take 17 = .ok (.invokevirtual 87, 3) := by decide +kernel
theorem dX6_take_20 : decode cX6_take 20 = .ok (.invokevirtual 48, 3) := by decide +kernel
theorem dX6_take_23 : decode cX6_take 23 = .ok (.ireturn, 1) := by decide +kernel
theorem dX6_restore_0 : decode cX6_restore 0 = .ok (.aload_n 0, 1) := by decide +kernel
theorem dX6_restore_1 : decode cX6_restore 1 = .ok (.getfield 16, 3) := by decide +kernel
theorem dX6_restore_4 : decode cX6_restore 4 = .ok (.aload_n 0, 1) := by decide +kernel
theorem dX6_restore_5 : decode cX6_restore 5 = .ok (.getfield 10, 3) := by decide +kernel
theorem dX6_restore_8 : decode cX6_restore 8 = .ok (.invokevirtual 34, 3) := by decide +kernel
theorem dX6_restore_11 : decode cX6_restore 11 = .ok (.aload_n 0, 1) := by decide +kernel
theorem dX6_restore_12 : decode cX6_restore 12 = .ok (.aload_n 0, 1) := by decide +kernel
theorem dX6_restore_13 : decode cX6_restore 13 = .ok (.getfield 10, 3) := by decide +kernel
theorem dX6_restore_16 : decode cX6_restore 16 = .ok (.iload_n 1, 1) := by decide +kernel
theorem dX6_restore_17 : decode cX6_restore 17 = .ok (.invokevirtual 90, 3) := by decide +kernel
theorem dX6_restore_20 : decode cX6_restore 20 = .ok (.invokevirtual 48, 3) := by decide +kernel
theorem dX6_restore_23 : decode cX6_restore 23 = .ok (.ireturn, 1) := by decide +kernel
theorem dX6_undo_0 : decode cX6_undo 0 = .ok (.aload_n 0, 1) := by decide +kernel
theorem dX6_undo_1 : decode cX6_undo 1 = .ok (.getfield 23, 3) := by decide +kernel
theorem dX6_undo_4 : decode cX6_undo 4 = .ok (.ifCond .ne 6, 3) := by decide +kernel
theorem dX6_undo_7 : decode cX6_undo 7 = .ok (.bipush (-2), 2) := by decide +kernel
theorem dX6_undo_9 : decode cX6_undo 9 = .ok (.ireturn, 1) := by decide +kernel
theorem dX6_undo_10 : decode cX6_undo 10 = .ok (.aload_n 0, 1) := by decide +kernel
theorem dX6_undo_11 : decode cX6_undo 11 = .ok (.dup, 1) := by decide +kernel
theorem dX6_undo_12 : decode cX6_undo 12 = .ok (.getfield 23, 3) := by decide +kernel
theorem dX6_undo_15 : decode cX6_undo 15 = .ok (.iconst 1, 1) := by decide +kernel
theorem dX6_undo_16 : decode cX6_undo 16 = .ok (.isub, 1) := by decide +kernel
theorem dX6_undo_17 : decode cX6_undo 17 = .ok (.putfield 23, 3) := by decide +kernel
theorem dX6_undo_20 : decode cX6_undo 20 = .ok (.aload_n 0, 1) := by decide +kernel
theorem dX6_undo_21 : decode cX6_undo 21 = .ok (.getfield 19, 3) := by decide +kernel
theorem dX6_undo_24 : decode cX6_undo 24 = .ok (.aload_n 0, 1) := by decide +kernel
theorem dX6_undo_25 : decode cX6_undo 25 = .ok (.getfield 23, 3) := by decide +kernel
theorem dX6_undo_28 : decode cX6_undo 28 = .ok (.aaload, 1) := by decide +kernel
theorem dX6_undo_29 : decode cX6_undo 29 = .ok (.astore_n 1, 1) := by decide +kernel
theorem dX6_undo_30 : decode cX6_undo 30 = .ok (.aload_n 0, 1) := by decide +kernel
theorem dX6_undo_31 : decode cX6_undo 31 = .ok (.getfield 19, 3) := by decide +kernel
theorem dX6_undo_34 : decode cX6_undo 34 = .ok (.aload_n 0, 1) := by decide +kernel
theorem dX6_undo_35 : decode cX6_undo 35 = .ok (.getfield 23, 3) := by decide +kernel
theorem dX6_undo_38 : decode cX6_undo 38 = .ok (.aload_n 0, 1) := by decide +kernel
theorem dX6_undo_39 : decode cX6_undo 39 = .ok (.getfield 10, 3) := by decide +kernel
theorem dX6_undo_42 : decode cX6_undo 42 = .ok (.aastore, 1) := by decide +kernel
theorem dX6_undo_43 : decode cX6_undo 43 = .ok (.aload_n 0, 1) := by decide +kernel
theorem dX6_undo_44 : decode cX6_undo 44 = .ok (.aload_n 1, 1) := by decide +kernel
theorem dX6_undo_45 : decode cX6_undo 45 = .ok (.putfield 10, 3) := by decide +kernel
theorem dX6_undo_48 : decode cX6_undo 48 = .ok (.aload_n 0, 1) := by decide +kernel
theorem dX6_undo_49 : decode cX6_undo 49 = .ok (.getfield 23, 3) := by decide +kernel
theorem dX6_undo_52 : decode cX6_undo 52 = .ok (.ireturn, 1) := by decide +kernel
theorem dX6_append_0 : decode cX6_append 0 = .ok (.aload_n 0, 1) := by decide +kernel
theorem dX6_append_1 : decode cX6_append 1 = .ok (.getfield 30, 3) := by decide +kernel
theorem dX6_append_4 : decode cX6_append 4 = .ok (.iload_n 1, 1) := by decide +kernel
theorem dX6_append_5 : decode cX6_append 5 = .ok (.invokevirtual 93, 3) := by decide +kernel
theorem dX6_append_8 : decode cX6_append 8 = .ok (.ireturn, 1) := by decide +kernel
theorem dX6_clearText_0 : decode cX6_clearText 0 = .ok (.aload_n 0, 1) := by decide +kernel
theorem dX6_clearText_1 : decode cX6_clearText 1 = .ok (.getfield 30, 3) := by decide +kernel
theorem dX6_clearText_4 : decode cX6_clearText 4 = .ok (.invokevirtual 96, 3) := by decide +kernel
theorem dX6_clearText_7 : decode cX6_clearText 7 = .ok (.ireturn, 1) := by decide +kernel
theorem dX6_run_0 : decode cX6_run 0 = .ok (.aload_n 0, 1) := by decide +kernel
theorem dX6_run_1 : decode cX6_run 1 = .ok (.getfield 16, 3) := by decide +kernel
theorem dX6_run_4 : decode cX6_run 4 = .ok (.aload_n 0, 1) := by decide +kernel
theorem dX6_run_5 : decode cX6_run 5 = .ok (.getfield 10, 3) := by decide +kernel
theorem dX6_run_8 : decode cX6_run 8 = .ok (.invokevirtual 34, 3) := by decide +kernel
theorem dX6_run_11 : decode cX6_run 11 = .ok (.aload_n 0, 1) := by decide +kernel
theorem dX6_run_12 : decode cX6_run 12 = .ok (.getfield 30, 3) := by decide +kernel
theorem dX6_run_15 : decode cX6_run 15 = .ok (.aload_n 0, 1) := by decide +kernel
theorem dX6_run_16 : decode cX6_run 16 = .ok (.getfield 10, 3) := by decide +kernel
theorem dX6_run_19 : decode cX6_run 19 = .ok (.getfield 38, 3) := by decide +kernel
theorem dX6_run_22 : decode cX6_run 22 = .ok (.invokevirtual 99, 3) := by decide +kernel
theorem dX6_run_25 : decode cX6_run 25 = .ok (.istore_n 1, 1) := by decide +kernel
theorem dX6_run_26 : decode cX6_run 26 = .ok (.iload_n 1, 1) := by decide +kernel
theorem dX6_run_27 : decode cX6_run 27 = .ok (.ifCond .ge 16, 3) := by decide +kernel
theorem dX6_run_30 : decode cX6_run 30 = .ok (.aload_n 0, 1) := by decide +kernel
theorem dX6_run_31 : decode cX6_run 31 = .ok (.getfield 10, 3) := by decide +kernel
theorem dX6_run_34 : decode cX6_run 34 = .ok (.aload_n 0, 1) := by decide +kernel
theorem dX6_run_35 : decode cX6_run 35 = .ok (.getfield 16, 3) := by decide +kernel
theorem dX6_run_38 : decode cX6_run 38 = .ok (.invokevirtual 34, 3) := by decide +kernel
theorem dX6_run_41 : decode cX6_run 41 = .ok (.iload_n 1, 1) := by decide +kernel
theorem dX6_run_42 : decode cX6_run 42 = .ok (.ireturn, 1) := by decide +kernel
theorem dX6_run_43 : decode cX6_run 43 = .ok (.aload_n 0, 1) := by decide +kernel
theorem dX6_run_44 : decode cX6_run 44 = .ok (.getfield 30, 3) := by decide +kernel
theorem dX6_run_47 : decode cX6_run 47 = .ok (.invokevirtual 96, 3) := by decide +kernel
theorem dX6_run_50 : decode cX6_run 50 = .ok (.pop, 1) := by decide +kernel
theorem dX6_run_51 : decode cX6_run 51 = .ok (.aload_n 0, 1) := by decide +kernel
theorem dX6_run_52 : decode cX6_run 52 = .ok (.iload_n 1, 1) := by decide +kernel
theorem dX6_run_53 : decode cX6_run 53 = .ok (.invokevirtual 48, 3) := by decide +kernel
theorem dX6_run_56 : decode cX6_run 56 = .ok (.ireturn, 1) := by decide +kernel
theorem dX6_count_0 : decode cX6_count 0 = .ok (.iload_n 1, 1) := by decide +kernel
theorem dX6_count_1 : decode cX6_count 1 = .ok (.tableswitch 153 0 9 #[55, 66, 77, 88, 99, 110, 121, 132, 140, 145], 55) := by decide +kernel
theorem dX6_count_56 : decode cX6_count 56 = .ok (.aload_n 0, 1) := by decide +kernel
theorem dX6_count_57 : decode cX6_count 57 = .ok (.getfield 10, 3) := by decide +kernel
theorem dX6_count_60 : decode cX6_count 60 = .ok (.getfield 38, 3) := by decide +kernel
theorem dX6_count_63 : decode cX6_count 63 = .ok (.getfield 103, 3) := by decide +kernel
theorem dX6_count_66 : decode cX6_count 66 = .ok (.ireturn, 1) := by decide +kernel
theorem dX6_count_67 : decode cX6_count 67 = .ok (.aload_n 0, 1) := by decide +kernel
theorem dX6_count_68 : decode cX6_count 68 = .ok (.getfield 10, 3) := by decide +kernel
theorem dX6_count_71 : decode cX6_count 71 = .ok (.getfield 38, 3) := by decide +kernel
theorem dX6_count_74 : decode cX6_count 74 = .ok (.getfield 106, 3) := by decide +kernel
theorem dX6_count_77 : decode cX6_count 77 = .ok (.ireturn, 1) := by decide +kernel
theorem dX6_count_78 : decode cX6_count 78 = .ok (.aload_n 0, 1) := by decide +kernel
theorem dX6_count_79 : decode cX6_count 79 = .ok (.getfield 10, 3) := by decide +kernel
theorem dX6_count_82 : decode cX6_count 82 = .ok (.getfield 38, 3) := by decide +kernel
theorem dX6_count_85 : decode cX6_count 85 = .ok (.getfield 109, 3) := by decide +kernel
theorem dX6_count_88 : decode cX6_count 88 = .ok (.ireturn, 1) := by decide +kernel
theorem dX6_count_89 : decode cX6_count 89 = .ok (.aload_n 0, 1) := by decide +kernel
theorem dX6_count_90 : decode cX6_count 90 = .ok (.getfield 10, 3) := by decide +kernel
theorem dX6_count_93 : decode cX6_count 93 = .ok (.getfield 38, 3) := by decide +kernel
theorem dX6_count_96 : decode cX6_count 96 = .ok (.getfield 112, 3) := by decide +kernel
theorem dX6_count_99 : decode cX6_count 99 = .ok (.ireturn, 1) := by decide +kernel
theorem dX6_count_100 : decode cX6_count 100 = .ok (.aload_n 0, 1) := by decide +kernel
theorem dX6_count_101 : decode cX6_count 101 = .ok (.getfield 10, 3) := by decide +kernel
theorem dX6_count_104 : decode cX6_count 104 = .ok (.getfield 38, 3) := by decide +kernel
theorem dX6_count_107 : decode cX6_count 107 = .ok (.invokevirtual 115, 3) := by decide +kernel
theorem dX6_count_110 : decode cX6_count 110 = .ok (.ireturn, 1) := by decide +kernel
theorem dX6_count_111 : decode cX6_count 111 = .ok (.aload_n 0, 1) := by decide +kernel
theorem dX6_count_112 : decode cX6_count 112 = .ok (.getfield 10, 3) := by decide +kernel
theorem dX6_count_115 : decode cX6_count 115 = .ok (.getfield 38, 3) := by decide +kernel
theorem dX6_count_118 : decode cX6_count 118 = .ok (.getfield 118, 3) := by decide +kernel
theorem dX6_count_121 : decode cX6_count 121 = .ok (.ireturn, 1) := by decide +kernel
theorem dX6_count_122 : decode cX6_count 122 = .ok (.aload_n 0, 1) := by decide +kernel
theorem dX6_count_123 : decode cX6_count 123 = .ok (.getfield 10, 3) := by decide +kernel
theorem dX6_count_126 : decode cX6_count 126 = .ok (.getfield 38, 3) := by decide +kernel
theorem dX6_count_129 : decode cX6_count 129 = .ok (.getfield 121, 3) := by decide +kernel
theorem dX6_count_132 : decode cX6_count 132 = .ok (.ireturn, 1) := by decide +kernel
theorem dX6_count_133 : decode cX6_count 133 = .ok (.aload_n 0, 1) := by decide +kernel
theorem dX6_count_134 : decode cX6_count 134 = .ok (.getfield 10, 3) := by decide +kernel
theorem dX6_count_137 : decode cX6_count 137 = .ok (.invokevirtual 124, 3) := by decide +kernel
theorem dX6_count_140 : decode cX6_count 140 = .ok (.ireturn, 1) := by decide +kernel
theorem dX6_count_141 : decode cX6_count 141 = .ok (.aload_n 0, 1) := by decide +kernel
theorem dX6_count_142 : decode cX6_count 142 = .ok (.getfield 23, 3) := by decide +kernel
theorem dX6_count_145 : decode cX6_count 145 = .ok (.ireturn, 1) := by decide +kernel
theorem dX6_count_146 : decode cX6_count 146 = .ok (.aload_n 0, 1) := by decide +kernel
theorem dX6_count_147 : decode cX6_count 147 = .ok (.getfield 30, 3) := by decide +kernel
theorem dX6_count_150 : decode cX6_count 150 = .ok (.getfield 127, 3) := by decide +kernel
theorem dX6_count_153 : decode cX6_count 153 = .ok (.ireturn, 1) := by decide +kernel
theorem dX6_count_154 : decode cX6_count 154 = .ok (.iconst (-1), 1) := by decide +kernel
theorem dX6_count_155 : decode cX6_count 155 = .ok (.ireturn, 1) := by decide +kernel
theorem dX6_household_0 : decode cX6_household 0 = .ok (.aload_n 0, 1) := by decide +kernel
theorem dX6_household_1 : decode cX6_household 1 = .ok (.getfield 10, 3) := by decide +kernel
theorem dX6_household_4 : decode cX6_household 4 = .ok (.getfield 38, 3) := by decide +kernel
theorem dX6_household_7 : decode cX6_household 7 = .ok (.iload_n 1, 1) := by decide +kernel
theorem dX6_household_8 : decode cX6_household 8 = .ok (.iload_n 2, 1) := by decide +kernel
theorem dX6_household_9 : decode cX6_household 9 = .ok (.invokevirtual 130, 3) := by decide +kernel
theorem dX6_household_12 : decode cX6_household 12 = .ok (.ireturn, 1) := by decide +kernel
theorem dX6_bank_0 : decode cX6_bank 0 = .ok (.aload_n 0, 1) := by decide +kernel
theorem dX6_bank_1 : decode cX6_bank 1 = .ok (.getfield 10, 3) := by decide +kernel
theorem dX6_bank_4 : decode cX6_bank 4 = .ok (.getfield 38, 3) := by decide +kernel
theorem dX6_bank_7 : decode cX6_bank 7 = .ok (.iload_n 1, 1) := by decide +kernel
theorem dX6_bank_8 : decode cX6_bank 8 = .ok (.iload_n 2, 1) := by decide +kernel
theorem dX6_bank_9 : decode cX6_bank 9 = .ok (.invokevirtual 133, 3) := by decide +kernel
theorem dX6_bank_12 : decode cX6_bank 12 = .ok (.ireturn, 1) := by decide +kernel
theorem dX6_right_0 : decode cX6_right 0 = .ok (.aload_n 0, 1) := by decide +kernel
theorem dX6_right_1 : decode cX6_right 1 = .ok (.getfield 10, 3) := by decide +kernel
theorem dX6_right_4 : decode cX6_right 4 = .ok (.getfield 38, 3) := by decide +kernel
theorem dX6_right_7 : decode cX6_right 7 = .ok (.iload_n 1, 1) := by decide +kernel
theorem dX6_right_8 : decode cX6_right 8 = .ok (.iload_n 2, 1) := by decide +kernel
theorem dX6_right_9 : decode cX6_right 9 = .ok (.iload_n 3, 1) := by decide +kernel
theorem dX6_right_10 : decode cX6_right 10 = .ok (.invokevirtual 136, 3) := by decide +kernel
theorem dX6_right_13 : decode cX6_right 13 = .ok (.ireturn, 1) := by decide +kernel
theorem dX6_stack_0 : decode cX6_stack 0 = .ok (.aload_n 0, 1) := by decide +kernel
theorem dX6_stack_1 : decode cX6_stack 1 = .ok (.getfield 10, 3) := by decide +kernel
theorem dX6_stack_4 : decode cX6_stack 4 = .ok (.getfield 38, 3) := by decide +kernel
theorem dX6_stack_7 : decode cX6_stack 7 = .ok (.iload_n 1, 1) := by decide +kernel
theorem dX6_stack_8 : decode cX6_stack 8 = .ok (.iload_n 2, 1) := by decide +kernel
theorem dX6_stack_9 : decode cX6_stack 9 = .ok (.invokevirtual 139, 3) := by decide +kernel
theorem dX6_stack_12 : decode cX6_stack 12 = .ok (.ireturn, 1) := by decide +kernel
theorem dX6_dryIn_0 : decode cX6_dryIn 0 = .ok (.aload_n 0, 1) := by decide +kernel
theorem dX6_dryIn_1 : decode cX6_dryIn 1 = .ok (.getfield 10, 3) := by decide +kernel
theorem dX6_dryIn_4 : decode cX6_dryIn 4 = .ok (.getfield 38, 3) := by decide +kernel
theorem dX6_dryIn_7 : decode cX6_dryIn 7 = .ok (.iload_n 1, 1) := by decide +kernel
theorem dX6_dryIn_8 : decode cX6_dryIn 8 = .ok (.iload_n 2, 1) := by decide +kernel
theorem dX6_dryIn_9 : decode cX6_dryIn 9 = .ok (.iload_n 3, 1) := by decide +kernel
theorem dX6_dryIn_10 : decode cX6_dryIn 10 = .ok (.invokevirtual 142, 3) := by decide +kernel
theorem dX6_dryIn_13 : decode cX6_dryIn 13 = .ok (.ireturn, 1) := by decide +kernel
theorem dX6_cartLoad_0 : decode cX6_cartLoad 0 = .ok (.aload_n 0, 1) := by decide +kernel
theorem dX6_cartLoad_1 : decode cX6_cartLoad 1 = .ok (.getfield 10, 3) := by decide +kernel
theorem dX6_cartLoad_4 : decode cX6_cartLoad 4 = .ok (.getfield 38, 3) := by decide +kernel
theorem dX6_cartLoad_7 : decode cX6_cartLoad 7 = .ok (.iload_n 1, 1) := by decide +kernel
theorem dX6_cartLoad_8 : decode cX6_cartLoad 8 = .ok (.invokevirtual 145, 3) := by decide +kernel
theorem dX6_cartLoad_11 : decode cX6_cartLoad 11 = .ok (.ireturn, 1) := by decide +kernel
theorem dX6_carts_0 : decode cX6_carts 0 = .ok (.aload_n 0, 1) := by decide +kernel
theorem dX6_carts_1 : decode cX6_carts 1 = .ok (.getfield 10, 3) := by decide +kernel
theorem dX6_carts_4 : decode cX6_carts 4 = .ok (.getfield 38, 3) := by decide +kernel
theorem dX6_carts_7 : decode cX6_carts 7 = .ok (.iload_n 1, 1) := by decide +kernel
theorem dX6_carts_8 : decode cX6_carts 8 = .ok (.invokevirtual 148, 3) := by decide +kernel
theorem dX6_carts_11 : decode cX6_carts 11 = .ok (.ireturn, 1) := by decide +kernel
theorem dX6_worth_0 : decode cX6_worth 0 = .ok (.aload_n 0, 1) := by decide +kernel
theorem dX6_worth_1 : decode cX6_worth 1 = .ok (.getfield 10, 3) := by decide +kernel
theorem dX6_worth_4 : decode cX6_worth 4 = .ok (.getfield 38, 3) := by decide +kernel
theorem dX6_worth_7 : decode cX6_worth 7 = .ok (.iload_n 1, 1) := by decide +kernel
theorem dX6_worth_8 : decode cX6_worth 8 = .ok (.iload_n 2, 1) := by decide +kernel
theorem dX6_worth_9 : decode cX6_worth 9 = .ok (.invokevirtual 151, 3) := by decide +kernel
theorem dX6_worth_12 : decode cX6_worth 12 = .ok (.ireturn, 1) := by decide +kernel
theorem dX6_nextToCut_0 : decode cX6_nextToCut 0 = .ok (.aload_n 0, 1) := by decide +kernel
theorem dX6_nextToCut_1 : decode cX6_nextToCut 1 = .ok (.getfield 10, 3) := by decide +kernel
theorem dX6_nextToCut_4 : decode cX6_nextToCut 4 = .ok (.getfield 38, 3) := by decide +kernel
theorem dX6_nextToCut_7 : decode cX6_nextToCut 7 = .ok (.iload_n 1, 1) := by decide +kernel
theorem dX6_nextToCut_8 : decode cX6_nextToCut 8 = .ok (.invokevirtual 154, 3) := by decide +kernel
theorem dX6_nextToCut_11 : decode cX6_nextToCut 11 = .ok (.ireturn, 1) := by decide +kernel
theorem dX6_recorded_0 : decode cX6_recorded 0 = .ok (.iload_n 1, 1) := by decide +kernel
theorem dX6_recorded_1 : decode cX6_recorded 1 = .ok (.ifCond .ge 5, 3) := by decide +kernel
theorem dX6_recorded_4 : decode cX6_recorded 4 = .ok (.iload_n 1, 1) := by decide +kernel
theorem dX6_recorded_5 : decode cX6_recorded 5 = .ok (.ireturn, 1) := by decide +kernel
theorem dX6_recorded_6 : decode cX6_recorded 6 = .ok (.aload_n 0, 1) := by decide +kernel
theorem dX6_recorded_7 : decode cX6_recorded 7 = .ok (.getfield 23, 3) := by decide +kernel
theorem dX6_recorded_10 : decode cX6_recorded 10 = .ok (.iconst 5, 1) := by decide +kernel
theorem dX6_recorded_11 : decode cX6_recorded 11 = .ok (.if_icmp .ne 7, 3) := by decide +kernel
theorem dX6_recorded_14 : decode cX6_recorded 14 = .ok (.aload_n 0, 1) := by decide +kernel
theorem dX6_recorded_15 : decode cX6_recorded 15 = .ok (.invokevirtual 157, 3) := by decide +kernel
theorem dX6_recorded_18 : decode cX6_recorded 18 = .ok (.aload_n 0, 1) := by decide +kernel
theorem dX6_recorded_19 : decode cX6_recorded 19 = .ok (.getfield 19, 3) := by decide +kernel
theorem dX6_recorded_22 : decode cX6_recorded 22 = .ok (.aload_n 0, 1) := by decide +kernel
theorem dX6_recorded_23 : decode cX6_recorded 23 = .ok (.getfield 23, 3) := by decide +kernel
theorem dX6_recorded_26 : decode cX6_recorded 26 = .ok (.aaload, 1) := by decide +kernel
theorem dX6_recorded_27 : decode cX6_recorded 27 = .ok (.astore_n 2, 1) := by decide +kernel
theorem dX6_recorded_28 : decode cX6_recorded 28 = .ok (.aload_n 0, 1) := by decide +kernel
theorem dX6_recorded_29 : decode cX6_recorded 29 = .ok (.getfield 19, 3) := by decide +kernel
theorem dX6_recorded_32 : decode cX6_recorded 32 = .ok (.aload_n 0, 1) := by decide +kernel
theorem dX6_recorded_33 : decode cX6_recorded 33 = .ok (.getfield 23, 3) := by decide +kernel
theorem dX6_recorded_36 : decode cX6_recorded 36 = .ok (.aload_n 0, 1) := by decide +kernel
theorem dX6_recorded_37 : decode cX6_recorded 37 = .ok (.getfield 16, 3) := by decide +kernel
theorem dX6_recorded_40 : decode cX6_recorded 40 = .ok (.aastore, 1) := by decide +kernel
theorem dX6_recorded_41 : decode cX6_recorded 41 = .ok (.aload_n 0, 1) := by decide +kernel
theorem dX6_recorded_42 : decode cX6_recorded 42 = .ok (.aload_n 2, 1) := by decide +kernel
theorem dX6_recorded_43 : decode cX6_recorded 43 = .ok (.putfield 16, 3) := by decide +kernel
theorem dX6_recorded_46 : decode cX6_recorded 46 = .ok (.aload_n 0, 1) := by decide +kernel
theorem dX6_recorded_47 : decode cX6_recorded 47 = .ok (.dup, 1) := by decide +kernel
theorem dX6_recorded_48 : decode cX6_recorded 48 = .ok (.getfield 23, 3) := by decide +kernel
theorem dX6_recorded_51 : decode cX6_recorded 51 = .ok (.iconst 1, 1) := by decide +kernel
theorem dX6_recorded_52 : decode cX6_recorded 52 = .ok (.iadd, 1) := by decide +kernel
theorem dX6_recorded_53 : decode cX6_recorded 53 = .ok (.putfield 23, 3) := by decide +kernel
theorem dX6_recorded_56 : decode cX6_recorded 56 = .ok (.iload_n 1, 1) := by decide +kernel
theorem dX6_recorded_57 : decode cX6_recorded 57 = .ok (.ireturn, 1) := by decide +kernel
theorem dX6_dropOldestState_0 : decode cX6_dropOldestState 0 = .ok (.aload_n 0, 1) := by decide +kernel
theorem dX6_dropOldestState_1 : decode cX6_dropOldestState 1 = .ok (.getfield 19, 3) := by decide +kernel
theorem dX6_dropOldestState_4 : decode cX6_dropOldestState 4 = .ok (.iconst 0, 1) := by decide +kernel
theorem dX6_dropOldestState_5 : decode cX6_dropOldestState 5 = .ok (.aaload, 1) := by decide +kernel
theorem dX6_dropOldestState_6 : decode cX6_dropOldestState 6 = .ok (.astore_n 1, 1) := by decide +kernel
theorem dX6_dropOldestState_7 : decode cX6_dropOldestState 7 = .ok (.iconst 1, 1) := by decide +kernel
theorem dX6_dropOldestState_8 : decode cX6_dropOldestState 8 = .ok (.istore_n 2, 1) := by decide +kernel
theorem dX6_dropOldestState_9 : decode cX6_dropOldestState 9 = .ok (.iload_n 2, 1) := by decide +kernel
theorem dX6_dropOldestState_10 : decode cX6_dropOldestState 10 = .ok (.iconst 5, 1) := by decide +kernel
theorem dX6_dropOldestState_11 : decode cX6_dropOldestState 11 = .ok (.if_icmp .ge 23, 3) := by decide +kernel
theorem dX6_dropOldestState_14 : decode cX6_dropOldestState 14 = .ok (.aload_n 0, 1) := by decide +kernel
theorem dX6_dropOldestState_15 : decode cX6_dropOldestState 15 = .ok (.getfield 19, 3) := by decide +kernel
theorem dX6_dropOldestState_18 : decode cX6_dropOldestState 18 = .ok (.iload_n 2, 1) := by decide +kernel
theorem dX6_dropOldestState_19 : decode cX6_dropOldestState 19 = .ok (.iconst 1, 1) := by decide +kernel
theorem dX6_dropOldestState_20 : decode cX6_dropOldestState 20 = .ok (.isub, 1) := by decide +kernel
theorem dX6_dropOldestState_21 : decode cX6_dropOldestState 21 = .ok (.aload_n 0, 1) := by decide +kernel
theorem dX6_dropOldestState_22 : decode cX6_dropOldestState 22 = .ok (.getfield 19, 3) := by decide +kernel
theorem dX6_dropOldestState_25 : decode cX6_dropOldestState 25 = .ok (.iload_n 2, 1) := by decide +kernel
theorem dX6_dropOldestState_26 : decode cX6_dropOldestState 26 = .ok (.aaload, 1) := by decide +kernel
theorem dX6_dropOldestState_27 : decode cX6_dropOldestState 27 = .ok (.aastore, 1) := by decide +kernel
theorem dX6_dropOldestState_28 : decode cX6_dropOldestState 28 = .ok (.iinc 2 1, 3) := by decide +kernel
theorem dX6_dropOldestState_31 : decode cX6_dropOldestState 31 = .ok (.goto (-22), 3) := by decide +kernel
theorem dX6_dropOldestState_34 : decode cX6_dropOldestState 34 = .ok (.aload_n 0, 1) := by decide +kernel
theorem dX6_dropOldestState_35 : decode cX6_dropOldestState 35 = .ok (.iconst 4, 1) := by decide +kernel
theorem dX6_dropOldestState_36 : decode cX6_dropOldestState 36 = .ok (.putfield 23, 3) := by decide +kernel
theorem dX6_dropOldestState_39 : decode cX6_dropOldestState 39 = .ok (.aload_n 0, 1) := by decide +kernel
theorem dX6_dropOldestState_40 : decode cX6_dropOldestState 40 = .ok (.getfield 19, 3) := by decide +kernel
theorem dX6_dropOldestState_43 : decode cX6_dropOldestState 43 = .ok (.aload_n 0, 1) := by decide +kernel
theorem dX6_dropOldestState_44 : decode cX6_dropOldestState 44 = .ok (.getfield 23, 3) := by decide +kernel
theorem dX6_dropOldestState_47 : decode cX6_dropOldestState 47 = .ok (.aload_n 1, 1) := by decide +kernel
theorem dX6_dropOldestState_48 : decode cX6_dropOldestState 48 = .ok (.aastore, 1) := by decide +kernel
theorem dX6_dropOldestState_49 : decode cX6_dropOldestState 49 = .ok (.return_, 1) := by decide +kernel
theorem dX6_isWithin_0 : decode cX6_isWithin 0 = .ok (.iload_n 0, 1) := by decide +kernel
theorem dX6_isWithin_1 : decode cX6_isWithin 1 = .ok (.iload_n 1, 1) := by decide +kernel
theorem dX6_isWithin_2 : decode cX6_isWithin 2 = .ok (.if_icmp .lt 12, 3) := by decide +kernel
theorem dX6_isWithin_5 : decode cX6_isWithin 5 = .ok (.iload_n 0, 1) := by decide +kernel
theorem dX6_isWithin_6 : decode cX6_isWithin 6 = .ok (.iload_n 2, 1) := by decide +kernel
theorem dX6_isWithin_7 : decode cX6_isWithin 7 = .ok (.if_icmp .gt 7, 3) := by decide +kernel
theorem dX6_isWithin_10 : decode cX6_isWithin 10 = .ok (.iconst 1, 1) := by decide +kernel
theorem dX6_isWithin_11 : decode cX6_isWithin 11 = .ok (.goto 4, 3) := by decide +kernel
theorem dX6_isWithin_14 : decode cX6_isWithin 14 = .ok (.iconst 0, 1) := by decide +kernel
theorem dX6_isWithin_15 : decode cX6_isWithin 15 = .ok (.ireturn, 1) := by decide +kernel
theorem dX7_init_0 : decode cX7_init 0 = .ok (.aload_n 0, 1) := by decide +kernel
theorem dX7_init_1 : decode cX7_init 1 = .ok (.invokespecial 1, 3) := by decide +kernel
theorem dX7_init_4 : decode cX7_init 4 = .ok (.aload_n 0, 1) := by decide +kernel
theorem dX7_init_5 : decode cX7_init 5 = .ok (.sipush 410, 3) := by decide +kernel
theorem dX7_init_8 : decode cX7_init 8 = .ok (.newarray .int, 2) := by decide +kernel
theorem dX7_init_10 : decode cX7_init 10 = .ok (.putfield 7, 3) := by decide +kernel
theorem dX7_init_13 : decode cX7_init 13 = .ok (.aload_n 0, 1) := by decide +kernel
theorem dX7_init_14 : decode cX7_init 14 = .ok (.sipush 2050, 3) := by decide +kernel
theorem dX7_init_17 : decode cX7_init 17 = .ok (.newarray .int, 2) := by decide +kernel
theorem dX7_init_19 : decode cX7_init 19 = .ok (.putfield 13, 3) := by decide +kernel
theorem dX7_init_22 : decode cX7_init 22 = .ok (.aload_n 0, 1) := by decide +kernel
theorem dX7_init_23 : decode cX7_init 23 = .ok (.sipush 410, 3) := by decide +kernel
theorem dX7_init_26 : decode cX7_init 26 = .ok (.newarray .int, 2) := by decide +kernel
theorem dX7_init_28 : decode cX7_init 28 = .ok (.putfield 16, 3) := by decide +kernel
theorem dX7_init_31 : decode cX7_init 31 = .ok (.aload_n 0, 1) := by decide +kernel
theorem dX7_init_32 : decode cX7_init 32 = .ok (.sipush 140, 3) := by decide +kernel
theorem dX7_init_35 : decode cX7_init 35 = .ok (.newarray .int, 2) := by decide +kernel
theorem dX7_init_37 : decode cX7_init 37 = .ok (.putfield 19, 3) := by decide +kernel
theorem dX7_init_40 : decode cX7_init 40 = .ok (.aload_n 0, 1) := by decide +kernel
theorem dX7_init_41 : decode cX7_init 41 = .ok (.iconst 3, 1) := by decide +kernel
theorem dX7_init_42 : decode cX7_init 42 = .ok (.newarray .int, 2) := by decide +kernel
theorem dX7_init_44 : decode cX7_init 44 = .ok (.putfield 22, 3) := by decide +kernel
theorem dX7_init_47 : decode cX7_init 47 = .ok (.aload_n 0, 1) := by decide +kernel
theorem dX7_init_48 : decode cX7_init 48 = .ok (.iconst 0, 1) := by decide +kernel
theorem dX7_init_49 : decode cX7_init 49 = .ok (.putfield 25, 3) := by decide +kernel
theorem dX7_init_52 : decode cX7_init 52 = .ok (.return_, 1) := by decide +kernel
theorem dX7_in_0 : decode cX7_in 0 = .ok (.iload_n 0, 1) := by decide +kernel
theorem dX7_in_1 : decode cX7_in 1 = .ok (.iload_n 1, 1) := by decide +kernel
theorem dX7_in_2 : decode cX7_in 2 = .ok (.if_icmp .lt 12, 3) := by decide +kernel
theorem dX7_in_5 : decode cX7_in 5 = .ok (.iload_n 0, 1) := by decide +kernel
theorem dX7_in_6 : decode cX7_in 6 = .ok (.iload_n 2, 1) := by decide +kernel
theorem dX7_in_7 : decode cX7_in 7 = .ok (.if_icmp .gt 7, 3) := by decide +kernel
theorem dX7_in_10 : decode cX7_in 10 = .ok (.iconst 1, 1) := by decide +kernel
theorem dX7_in_11 : decode cX7_in 11 = .ok (.goto 4, 3) := by decide +kernel
theorem dX7_in_14 : decode cX7_in 14 = .ok (.iconst 0, 1) := by decide +kernel
theorem dX7_in_15 : decode cX7_in 15 = .ok (.ireturn, 1) := by decide +kernel
theorem dX7_acts_0 : decode cX7_acts 0 = .ok (.aload_n 0, 1) := by decide +kernel
theorem dX7_acts_1 : decode cX7_acts 1 = .ok (.getfield 25, 3) := by decide +kernel
theorem dX7_acts_4 : decode cX7_acts 4 = .ok (.ifCond .eq 4, 3) := by decide +kernel
theorem dX7_acts_7 : decode cX7_acts 7 = .ok (.return_, 1) := by decide +kernel
theorem dX7_acts_8 : decode cX7_acts 8 = .ok (.aload_n 0, 1) := by decide +kernel
theorem dX7_acts_9 : decode cX7_acts 9 = .ok (.getfield 29, 3) := by decide +kernel
theorem dX7_acts_12 : decode cX7_acts 12 = .ok (.iconst 5, 1) := by decide +kernel
theorem dX7_acts_13 : decode cX7_acts 13 = .ok (.if_icmp .ne 44, 3) := by decide +kernel
theorem dX7_acts_16 : decode cX7_acts 16 = .ok (.iconst 0, 1) := by decide +kernel
theorem dX7_acts_17 : decode cX7_acts 17 = .ok (.istore_n 1, 1) := by decide +kernel
theorem dX7_acts_18 : decode cX7_acts 18 = .ok (.iload_n 1, 1) := by decide +kernel
theorem dX7_acts_19 : decode cX7_acts 19 = .ok (.sipush 1640, 3) := by decide +kernel
theorem dX7_acts_22 : decode cX7_acts 22 = .ok (.if_icmp .ge 25, 3) := by decide +kernel
theorem dX7_acts_25 : decode cX7_acts 25 = .ok (.aload_n 0, 1) := by decide +kernel
theorem dX7_acts_26 : decode cX7_acts 26 = .ok (.getfield 13, 3) := by decide +kernel
theorem dX7_acts_29 : decode cX7_acts 29 = .ok (.iload_n 1, 1) := by decide +kernel
theorem dX7_acts_30 : decode cX7_acts 30 = .ok (.aload_n 0, 1) := by decide +kernel
theorem dX7_acts_31 : decode cX7_acts 31 = .ok (.getfield 13, 3) := by decide +kernel
theorem dX7_acts_34 : decode cX7_acts 34 = .ok (.iload_n 1, 1) := by decide +kernel
theorem dX7_acts_35 : decode cX7_acts 35 = .ok (.sipush 410, 3) := by decide +kernel
theorem dX7_acts_38 : decode cX7_acts 38 = .ok (.iadd, 1) := by decide +kernel
theorem dX7_acts_39 : decode cX7_acts 39 = .ok (.iaload, 1) := by decide +kernel
theorem dX7_acts_40 : decode cX7_acts 40 = .ok (.iastore, 1) := by decide +kernel
theorem dX7_acts_41 : decode cX7_acts 41 = .ok (.iinc 1 1, 3) := by decide +kernel
theorem dX7_acts_44 : decode cX7_acts 44 = .ok (.goto (-26), 3) := by decide +kernel
theorem dX7_acts_47 : decode cX7_acts 47 = .ok (.aload_n 0, 1) := by decide +kernel
theorem dX7_acts_48 : decode cX7_acts 48 = .ok (.dup, 1) := by decide +kernel
theorem dX7_acts_49 : decode cX7_acts 49 = .ok (.getfield 29, 3) := by decide +kernel
theorem dX7_acts_52 : decode cX7_acts 52 = .ok (.iconst 1, 1) := by decide +kernel
theorem dX7_acts_53 : decode cX7_acts 53 = .ok (.isub, 1) := by decide +kernel
theorem dX7_acts_54 : decode cX7_acts 54 = .ok (.putfield 29, 3) := by decide +kernel
theorem dX7_acts_57 : decode cX7_acts 57 = .ok (.iconst 0, 1) := by decide +kernel
theorem dX7_acts_58 : decode cX7_acts 58 = .ok (.istore_n 1, 1) := by decide +kernel
theorem dX7_acts_59 : decode cX7_acts 59 = .ok (.iload_n 1, 1) := by decide +kernel
theorem dX7_acts_60 : decode cX7_acts 60 = .ok (.sipush 410, 3) := by decide +kernel
theorem dX7_acts_63 : decode cX7_acts 63 = .ok (.if_icmp .ge 30, 3) := by decide +kernel
theorem dX7_acts_66 : decode cX7_acts 66 = .ok (.aload_n 0, 1) := by decide +kernel
theorem dX7_acts_67 : decode cX7_acts 67 = .ok (.getfield 13, 3) := by decide +kernel
theorem dX7_acts_70 : decode cX7_acts 70 = .ok (.sipush 410, 3) := by decide +kernel
theorem dX7_acts_73 : decode cX7_acts 73 = .ok (.aload_n 0, 1) := by decide +kernel
theorem dX7_acts_74 : decode cX7_acts 74 = .ok (.getfield 29, 3) := by decide +kernel
theorem dX7_acts_77 : decode cX7_acts 77 = .ok (.imul, 1) := by decide +kernel
theorem dX7_acts_78 : decode cX7_acts 78 = .ok (.iload_n 1, 1) := by decide +kernel
theorem dX7_acts_79 : decode cX7_acts 79 = .ok (.iadd, 1) := by decide +kernel
theorem dX7_acts_80 : decode cX7_acts 80 = .ok (.aload_n 0, 1) := by decide +kernel
theorem dX7_acts_81 : decode cX7_acts 81 = .ok (.getfield 7, 3) := by decide +kernel
theorem dX7_acts_84 : decode cX7_acts 84 = .ok (.iload_n 1, 1) := by decide +kernel
theorem dX7_acts_85 : decode cX7_acts 85 = .ok (.iaload, 1) := by decide +kernel
theorem dX7_acts_86 : decode cX7_acts 86 = .ok (.iastore, 1) := by decide +kernel
theorem dX7_acts_87 : decode cX7_acts 87 = .ok (.iinc 1 1, 3) := by decide +kernel
theorem dX7_acts_90 : decode cX7_acts 90 = .ok (.goto (-31), 3) := by decide +kernel
theorem dX7_acts_93 : decode cX7_acts 93 = .ok (.aload_n 0, 1) := by decide +kernel
theorem dX7_acts_94 : decode cX7_acts 94 = .ok (.dup, 1) := by decide +kernel
theorem dX7_acts_95 : decode cX7_acts 95 = .ok (.getfield 29, 3) := by decide +kernel
theorem dX7_acts_98 : decode cX7_acts 98 = .ok (.iconst 1, 1) := by decide +kernel
theorem dX7_acts_99 : decode cX7_acts 99 = .ok (.iadd, 1) := by decide +kernel
theorem dX7_acts_100 : decode cX7_acts 100 = .ok (.putfield 29, 3) := by decide +kernel
theorem dX7_acts_103 : decode cX7_acts 103 = .ok (.return_, 1) := by decide +kernel
theorem dX7_isHouse_0 : decode cX7_isHouse 0 = .ok (.iload_n 1, 1) := by decide +kernel
theorem dX7_isHouse_1 : decode cX7_isHouse 1 = .ok (.ifCond .lt 17, 3) := by decide +kernel
theorem dX7_isHouse_4 : decode cX7_isHouse 4 = .ok (.iload_n 1, 1) := by decide +kernel
theorem dX7_isHouse_5 : decode cX7_isHouse 5 = .ok (.aload_n 0, 1) := by decide +kernel
theorem dX7_isHouse_6 : decode cX7_isHouse 6 = .ok (.getfield 7, 3) := by decide +kernel
theorem dX7_isHouse_9 : decode cX7_isHouse 9 = .ok (.iconst 1, 1) := by decide +kernel
theorem dX7_isHouse_10 : decode cX7_isHouse 10 = .ok (.iaload, 1) := by decide +kernel
theorem dX7_isHouse_11 : decode cX7_isHouse 11 = .ok (.if_icmp .ge 7, 3) := by decide +kernel
theorem dX7_isHouse_14 : decode cX7_isHouse 14 = .ok (.iconst 1, 1) := by decide +kernel
theorem dX7_isHouse_15 : decode cX7_isHouse 15 = .ok (.goto 4, 3) := by decide +kernel
theorem dX7_isHouse_18 : decode cX7_isHouse 18 = .ok (.iconst 0, 1) := by decide +kernel
theorem dX7_isHouse_19 : decode cX7_isHouse 19 = .ok (.ireturn, 1) := by decide +kernel
theorem dX7_isBank_0 : decode cX7_isBank 0 = .ok (.iload_n 1, 1) := by decide +kernel
theorem dX7_isBank_1 : decode cX7_isBank 1 = .ok (.ifCond .lt 17, 3) := by decide +kernel
theorem dX7_isBank_4 : decode cX7_isBank 4 = .ok (.iload_n 1, 1) := by decide +kernel
theorem dX7_isBank_5 : decode cX7_isBank 5 = .ok (.aload_n 0, 1) := by decide +kernel
theorem dX7_isBank_6 : decode cX7_isBank 6 = .ok (.getfield 7, 3) := by decide +kernel
theorem dX7_isBank_9 : decode cX7_isBank 9 = .ok (.iconst 2, 1) := by decide +kernel
theorem dX7_isBank_10 : decode cX7_isBank 10 = .ok (.iaload, 1) := by decide +kernel
theorem dX7_isBank_11 : decode cX7_isBank 11 = .ok (.if_icmp .ge 7, 3) := by decide +kernel
theorem dX7_isBank_14 : decode cX7_isBank 14 = .ok (.iconst 1, 1) := by decide +kernel
theorem dX7_isBank_15 : decode cX7_isBank 15 = .ok (.goto 4, 3) := by decide +kernel
theorem dX7_isBank_18 : decode cX7_isBank 18 = .ok (.iconst 0, 1) := by decide +kernel
theorem dX7_isBank_19 : decode cX7_isBank 19 = .ok (.ireturn, 1) := by decide +kernel
theorem dX7_isStack_0 : decode cX7_isStack 0 = .ok (.iload_n 1, 1) := by decide +kernel
theorem dX7_isStack_1 : decode cX7_isStack 1 = .ok (.ifCond .lt 17, 3) := by decide +kernel
theorem dX7_isStack_4 : decode cX7_isStack 4 = .ok (.iload_n 1, 1) := by decide +kernel
theorem dX7_isStack_5 : decode cX7_isStack 5 = .ok (.aload_n 0, 1) := by decide +kernel
theorem dX7_isStack_6 : decode cX7_isStack 6 = .ok (.getfield 7, 3) := by decide +kernel
theorem dX7_isStack_9 : decode cX7_isStack 9 = .ok (.iconst 3, 1) := by decide +kernel
theorem dX7_isStack_10 : decode cX7_isStack 10 = .ok (.iaload, 1) := by decide +kernel
theorem dX7_isStack_11 : decode cX7_isStack 11 = .ok (.if_icmp .ge 7, 3) := by decide +kernel
theorem dX7_isStack_14 : decode cX7_isStack 14 = .ok (.iconst 1, 1) := by decide +kernel
theorem dX7_isStack_15 : decode cX7_isStack 15 = .ok (.goto 4, 3) := by decide +kernel
theorem dX7_isStack_18 : decode cX7_isStack 18 = .ok (.iconst 0, 1) := by decide +kernel
theorem dX7_isStack_19 : decode cX7_isStack 19 = .ok (.ireturn, 1) := by decide +kernel
theorem dX7_inHouse_0 : decode cX7_inHouse 0 = .ok (.aload_n 0, 1) := by decide +kernel
theorem dX7_inHouse_1 : decode cX7_inHouse 1 = .ok (.getfield 7, 3) := by decide +kernel
theorem dX7_inHouse_4 : decode cX7_inHouse 4 = .ok (.bipush 6, 2) := by decide +kernel
theorem dX7_inHouse_6 : decode cX7_inHouse 6 = .ok (.iconst 3, 1) := by decide +kernel
theorem dX7_inHouse_7 : decode cX7_inHouse 7 = .ok (.iload_n 1, 1) := by decide +kernel
theorem dX7_inHouse_8 : decode cX7_inHouse 8 = .ok (.imul, 1) := by decide +kernel
theorem dX7_inHouse_9 : decode cX7_inHouse 9 = .ok (.iadd, 1) := by decide +kernel
theorem dX7_inHouse_10 : decode cX7_inHouse 10 = .ok (.iload_n 2, 1) := by decide +kernel
theorem dX7_inHouse_11 : decode cX7_inHouse 11 = .ok (.iadd, 1) := by decide +kernel
theorem dX7_inHouse_12 : decode cX7_inHouse 12 = .ok (.iaload, 1) := by decide +kernel
theorem dX7_inHouse_13 : decode cX7_inHouse 13 = .ok (.ireturn, 1) := by decide +kernel
theorem dX7_inBank_0 : decode cX7_inBank 0 = .ok (.aload_n 0, 1) := by decide +kernel
theorem dX7_inBank_1 : decode cX7_inBank 1 = .ok (.getfield 7, 3) := by decide +kernel
theorem dX7_inBank_4 : decode cX7_inBank 4 = .ok (.bipush 24, 2) := by decide +kernel
theorem dX7_inBank_6 : decode cX7_inBank 6 = .ok (.bipush 7, 2) := by decide +kernel
theorem dX7_inBank_8 : decode cX7_inBank 8 = .ok (.iload_n 1, 1) := by decide +kernel
theorem dX7_inBank_9 : decode cX7_inBank 9 = .ok (.imul, 1) := by decide +kernel
theorem dX7_inBank_10 : decode cX7_inBank 10 = .ok (.iadd, 1) := by decide +kernel
theorem dX7_inBank_11 : decode cX7_inBank 11 = .ok (.iload_n 2, 1) := by decide +kernel
theorem dX7_inBank_12 : decode cX7_inBank 12 = .ok (.iadd, 1) := by decide +kernel
theorem dX7_inBank_13 : decode cX7_inBank 13 = .ok (.iaload, 1) := by decide +kernel
theorem dX7_inBank_14 : decode cX7_inBank 14 = .ok (.ireturn, 1) := by decide +kernel
theorem dX7_inStack_0 : decode cX7_inStack 0 = .ok (.aload_n 0, 1) := by decide +kernel
theorem dX7_inStack_1 : decode cX7_inStack 1 = .ok (.getfield 7, 3) := by decide +kernel
theorem dX7_inStack_4 : decode cX7_inStack 4 = .ok (.bipush 76, 2) := by decide +kernel
theorem dX7_inStack_6 : decode cX7_inStack 6 = .ok (.iconst 5, 1) := by decide +kernel
theorem dX7_inStack_7 : decode cX7_inStack 7 = .ok (.iload_n 1, 1) := by decide +kernel
theorem dX7_inStack_8 : decode cX7_inStack 8 = .ok (.imul, 1) := by decide +kernel
theorem dX7_inStack_9 : decode cX7_inStack 9 = .ok (.iadd, 1) := by decide +kernel
theorem dX7_inStack_10 : decode cX7_inStack 10 = .ok (.iload_n 2, 1) := by decide +kernel
theorem dX7_inStack_11 : decode cX7_inStack 11 = .ok (.iadd, 1) := by decide +kernel
theorem dX7_inStack_12 : decode cX7_inStack 12 = .ok (.iaload, 1) := by decide +kernel
theorem dX7_inStack_13 : decode cX7_inStack 13 = .ok (.ireturn, 1) := by decide +kernel
theorem dX7_come_0 : decode cX7_come 0 = .ok (.iload_n 1, 1) := by decide +kernel
theorem dX7_come_1 : decode cX7_come 1 = .ok (.iconst 1, 1) := by decide +kernel
theorem dX7_come_2 : decode cX7_come 2 = .ok (.bipush 9, 2) := by decide +kernel
theorem dX7_come_4 : decode cX7_come 4 = .ok (.invokestatic 33, 3) := by decide +kernel
theorem dX7_come_7 : decode cX7_come 7 = .ok (.ifCond .ne 5, 3) := by decide +kernel
theorem dX7_come_10 : decode cX7_come 10 = .ok (.iconst (-1), 1) := by decide +kernel
theorem dX7_come_11 : decode cX7_come 11 = .ok (.ireturn, 1) := by decide +kernel
theorem dX7_come_12 : decode cX7_come 12 = .ok (.aload_n 0, 1) := by decide +kernel
theorem dX7_come_13 : decode cX7_come 13 = .ok (.getfield 7, 3) := by decide +kernel
theorem dX7_come_16 : decode cX7_come 16 = .ok (.iconst 1, 1) := by decide +kernel
theorem dX7_come_17 : decode cX7_come 17 = .ok (.iaload, 1) := by decide +kernel
theorem dX7_come_18 : decode cX7_come 18 = .ok (.bipush 6, 2) := by decide +kernel
theorem dX7_come_20 : decode cX7_come 20 = .ok (.if_icmp .ne 6, 3) := by decide +kernel
theorem dX7_come_23 : decode cX7_come 23 = .ok (.bipush (-3), 2) := by decide +kernel
theorem dX7_come_25 : decode cX7_come 25 = .ok (.ireturn, 1) := by decide +kernel
theorem dX7_come_26 : decode cX7_come 26 = .ok (.aload_n 0, 1) := by decide +kernel
theorem dX7_come_27 : decode cX7_come 27 = .ok (.invokevirtual 37, 3) := by decide +kernel
theorem dX7_come_30 : decode cX7_come 30 = .ok (.aload_n 0, 1) := by decide +kernel
theorem dX7_come_31 : decode cX7_come 31 = .ok (.getfield 7, 3) := by decide +kernel
theorem dX7_come_34 : decode cX7_come 34 = .ok (.iconst 1, 1) := by decide +kernel
theorem dX7_come_35 : decode cX7_come 35 = .ok (.iaload, 1) := by decide +kernel
theorem dX7_come_36 : decode cX7_come 36 = .ok (.istore_n 2, 1) := by decide +kernel
theorem dX7_come_37 : decode cX7_come 37 = .ok (.aload_n 0, 1) := by decide +kernel
theorem dX7_come_38 : decode cX7_come 38 = .ok (.getfield 7, 3) := by decide +kernel
theorem dX7_come_41 : decode cX7_come 41 = .ok (.bipush 6, 2) := by decide +kernel
theorem dX7_come_43 : decode cX7_come 43 = .ok (.iconst 3, 1) := by decide +kernel
theorem dX7_come_44 : decode cX7_come 44 = .ok (.iload_n 2, 1) := by decide +kernel
theorem dX7_come_45 : decode cX7_come 45 = .ok (.imul, 1) := by decide +kernel
theorem dX7_come_46 : decode cX7_come 46 = .ok (.iadd, 1) := by decide +kernel
theorem dX7_come_47 : decode cX7_come 47 = .ok (.iload_n 1, 1) := by decide +kernel
theorem dX7_come_48 : decode cX7_come 48 = .ok (.iastore, 1) := by decide +kernel
theorem dX7_come_49 : decode cX7_come 49 = .ok (.aload_n 0, 1) := by decide +kernel
theorem dX7_come_50 : decode cX7_come 50 = .ok (.getfield 7, 3) := by decide +kernel
theorem dX7_come_53 : decode cX7_come 53 = .ok (.bipush 6, 2) := by decide +kernel
theorem dX7_come_55 : decode cX7_come 55 = .ok (.iconst 3, 1) := by decide +kernel
theorem dX7_come_56 : decode cX7_come 56 = .ok (.iload_n 2, 1) := by decide +kernel
theorem dX7_come_57 : decode cX7_come 57 = .ok (.imul, 1) := by decide +kernel
theorem dX7_come_58 : decode cX7_come 58 = .ok (.iadd, 1) := by decide +kernel
theorem dX7_come_59 : decode cX7_come 59 = .ok (.iconst 1, 1) := by decide +kernel
theorem dX7_come_60 : decode cX7_come 60 = .ok (.iadd, 1) := by decide +kernel
theorem dX7_come_61 : decode cX7_come 61 = .ok (.iconst 0, 1) := by decide +kernel
theorem dX7_come_62 : decode cX7_come 62 = .ok (.iastore, 1) := by decide +kernel
theorem dX7_come_63 : decode cX7_come 63 = .ok (.aload_n 0, 1) := by decide +kernel
theorem dX7_come_64 : decode cX7_come 64 = .ok (.getfield 7, 3) := by decide +kernel
theorem dX7_come_67 : decode cX7_come 67 = .ok (.bipush 6, 2) := by decide +kernel
theorem dX7_come_69 : decode cX7_come 69 = .ok (.iconst 3, 1) := by decide +kernel
theorem dX7_come_70 : decode cX7_come 70 = .ok (.iload_n 2, 1) := by decide +kernel
theorem dX7_come_71 : decode cX7_come 71 = .ok (.imul, 1) := by decide +kernel
theorem dX7_come_72 : decode cX7_come 72 = .ok (.iadd, 1) := by decide +kernel
theorem dX7_come_73 : decode cX7_come 73 = .ok (.iconst 2, 1) := by decide +kernel
theorem dX7_come_74 : decode cX7_come 74 = .ok (.iadd, 1) := by decide +kernel
theorem dX7_come_75 : decode cX7_come 75 = .ok (.iconst 0, 1) := by decide +kernel
theorem dX7_come_76 : decode cX7_come 76 = .ok (.iastore, 1) := by decide +kernel
theorem dX7_come_77 : decode cX7_come 77 = .ok (.iconst 0, 1) := by decide +kernel
theorem dX7_come_78 : decode cX7_come 78 = .ok (.istore_n 3, 1) := by decide +kernel
theorem dX7_come_79 : decode cX7_come 79 = .ok (.iload_n 3, 1) := by decide +kernel
theorem dX7_come_80 : decode cX7_come 80 = .ok (.iconst 4, 1) := by decide +kernel
theorem dX7_come_81 : decode cX7_come 81 = .ok (.if_icmp .ge 23, 3) := by decide +kernel
theorem dX7_come_84 : decode cX7_come 84 = .ok (.aload_n 0, 1) := by decide +kernel
theorem dX7_come_85 : decode cX7_come 85 = .ok (.getfield 7, 3) := by decide +kernel
theorem dX7_come_88 : decode cX7_come 88 = .ok (.bipush 52, 2) := by decide +kernel
theorem dX7_come_90 : decode cX7_come 90 = .ok (.iconst 4, 1) := by decide +kernel
theorem dX7_come_91 : decode cX7_come 91 = .ok (.iload_n 2, 1) := by decide +kernel
theorem dX7_come_92 : decode cX7_come 92 = .ok (.imul, 1) := by decide +kernel
theorem dX7_come_93 : decode cX7_come 93 = .ok (.iadd, 1) := by decide +kernel
theorem dX7_come_94 : decode cX7_come 94 = .ok (.iload_n 3, 1) := by decide +kernel
theorem dX7_come_95 : decode cX7_come 95 = .ok (.iadd, 1) := by decide +kernel
theorem dX7_come_96 : decode cX7_come 96 = .ok (.iconst 0, 1) := by decide +kernel
theorem dX7_come_97 : decode cX7_come 97 = .ok (.iastore, 1) := by decide +kernel
theorem dX7_come_98 : decode cX7_come 98 = .ok (.iinc 3 1, 3) := by decide +kernel
theorem dX7_come_101 : decode cX7_come 101 = .ok (.goto (-22), 3) := by decide +kernel
theorem dX7_come_104 : decode cX7_come 104 = .ok (.aload_n 0, 1) := by decide +kernel
theorem dX7_come_105 : decode cX7_come 105 = .ok (.getfield 7, 3) := by decide +kernel
theorem dX7_come_108 : decode cX7_come 108 = .ok (.iconst 1, 1) := by decide +kernel
theorem dX7_come_109 : decode cX7_come 109 = .ok (.dup2, 1) := by decide +kernel
theorem dX7_come_110 : decode cX7_come 110 = .ok (.iaload, 1) := by decide +kernel
theorem dX7_come_111 : decode cX7_come 111 = .ok (.iconst 1, 1) := by decide +kernel
theorem dX7_come_112 : decode cX7_come 112 = .ok (.iadd, 1) := by decide +kernel
theorem dX7_come_113 : decode cX7_come 113 = .ok (.iastore, 1) := by decide +kernel
theorem dX7_come_114 : decode cX7_come 114 = .ok (.iload_n 2, 1) := by decide +kernel
theorem dX7_come_115 : decode cX7_come 115 = .ok (.ireturn, 1) := by decide +kernel
theorem dX7_setSpades_0 : decode cX7_setSpades 0 = .ok (.aload_n 0, 1) := by decide +kernel
theorem dX7_setSpades_1 : decode cX7_setSpades 1 = .ok (.iload_n 1, 1) := by decide +kernel
theorem dX7_setSpades_2 : decode cX7_setSpades 2 = .ok (.invokevirtual 40, 3) := by decide +kernel
theorem dX7_setSpades_5 : decode cX7_setSpades 5 = .ok (.ifCond .eq 13, 3) := by decide +kernel
theorem dX7_setSpades_8 : decode cX7_setSpades 8 = .ok (.iload_n 2, 1) := by decide +kernel
theorem dX7_setSpades_9 : decode cX7_setSpades 9 = .ok (.iconst 1, 1) := by decide +kernel
theorem dX7_setSpades_10 : decode cX7_setSpades 10 = .ok (.bipush 9, 2) := by decide +kernel
theorem dX7_setSpades_12 : decode cX7_setSpades 12 = .ok (.invokestatic 33, 3) := by decide +kernel
theorem dX7_setSpades_15 : decode cX7_setSpades 15 = .ok (.ifCond .ne 5, 3) := by decide +kernel
theorem dX7_setSpades_18 : decode cX7_setSpades 18 = .ok (.iconst (-1), 1) := by decide +kernel
theorem dX7_setSpades_19 : decode cX7_setSpades 19 = .ok (.ireturn, 1) := by decide +kernel
theorem dX7_setSpades_20 : decode cX7_setSpades 20 = .ok (.aload_n 0, 1) := by decide +kernel
theorem dX7_setSpades_21 : decode cX7_setSpades 21 = .ok (.invokevirtual 37, 3) := by decide +kernel
theorem dX7_setSpades_24 : decode cX7_setSpades 24 = .ok (.aload_n 0, 1) := by decide +kernel
theorem dX7_setSpades_25 : decode cX7_setSpades 25 = .ok (.iload_n 1, 1) := by decide +kernel
theorem dX7_setSpades_26 : decode cX7_setSpades 26 = .ok (.iconst 0, 1) := by decide +kernel
theorem dX7_setSpades_27 : decode cX7_setSpades 27 = .ok (.invokevirtual 44, 3) := by decide +kernel
theorem dX7_setSpades_30 : decode cX7_setSpades 30 = .ok (.istore_n 3, 1) := by decide +kernel
theorem dX7_setSpades_31 : decode cX7_setSpades 31 = .ok (.aload_n 0, 1) := by decide +kernel
theorem dX7_setSpades_32 : decode cX7_setSpades 32 = .ok (.getfield 7, 3) := by decide +kernel
theorem dX7_setSpades_35 : decode cX7_setSpades 35 = .ok (.bipush 6, 2) := by decide +kernel
theorem dX7_setSpades_37 : decode cX7_setSpades 37 = .ok (.iconst 3, 1) := by decide +kernel
theorem dX7_setSpades_38 : decode cX7_setSpades 38 = .ok (.iload_n 1, 1) := by decide +kernel
theorem dX7_setSpades_39 : decode cX7_setSpades 39 = .ok (.imul, 1) := by decide +kernel
theorem dX7_setSpades_40 : decode cX7_setSpades 40 = .ok (.iadd, 1) := by decide +kernel
theorem dX7_setSpades_41 : decode cX7_setSpades 41 = .ok (.iload_n 2, 1) := by decide +kernel
theorem dX7_setSpades_42 : decode cX7_setSpades 42 = .ok (.iastore, 1) := by decide +kernel
theorem dX7_setSpades_43 : decode cX7_setSpades 43 = .ok (.iload_n 3, 1) := by decide +kernel
theorem dX7_setSpades_44 : decode cX7_setSpades 44 = .ok (.ireturn, 1) := by decide +kernel
theorem dX7_addBank_0 : decode cX7_addBank 0 = .ok (.iload_n 1, 1) := by decide +kernel
theorem dX7_addBank_1 : decode cX7_addBank 1 = .ok (.iconst 0, 1) := by decide +kernel
theorem dX7_addBank_2 : decode cX7_addBank 2 = .ok (.sipush 5000, 3) := by decide +kernel
theorem dX7_addBank_5 : decode cX7_addBank 5 = .ok (.invokestatic 33, 3) := by decide +kernel
theorem dX7_addBank_8 : decode cX7_addBank 8 = .ok (.ifCond .eq 15, 3) := by decide +kernel
theorem dX7_addBank_11 : decode cX7_addBank 11 = .ok (.iload_n 2, 1) := by decide +kernel
theorem dX7_addBank_12 : decode cX7_addBank 12 = .ok (.bipush 100, 2) := by decide +kernel
theorem dX7_addBank_14 : decode cX7_addBank 14 = .ok (.sipush 3000, 3) := by decide +kernel
theorem dX7_addBank_17 : decode cX7_addBank 17 = .ok (.invokestatic 33, 3) := by decide +kernel
theorem dX7_addBank_20 : decode cX7_addBank 20 = .ok (.ifCond .ne 5, 3) := by decide +kernel
theorem dX7_addBank_23 : decode cX7_addBank 23 = .ok (.iconst (-1), 1) := by decide +kernel
theorem dX7_addBank_24 : decode cX7_addBank 24 = .ok (.ireturn, 1) := by decide +kernel
theorem dX7_addBank_25 : decode cX7_addBank 25 = .ok (.aload_n 0, 1) := by decide +kernel
theorem dX7_addBank_26 : decode cX7_addBank 26 = .ok (.getfield 7, 3) := by decide +kernel
theorem dX7_addBank_29 : decode cX7_addBank 29 = .ok (.iconst 2, 1) := by decide +kernel
theorem dX7_addBank_30 : decode cX7_addBank 30 = .ok (.iaload, 1) := by decide +kernel
theorem dX7_addBank_31 : decode cX7_addBank 31 = .ok (.iconst 4, 1) := by decide +kernel
theorem dX7_addBank_32 : decode cX7_addBank 32 = .ok (.if_icmp .ne 6, 3) := by decide +kernel
theorem dX7_addBank_35 : decode cX7_addBank 35 = .ok (.bipush (-3), 2) := by decide +kernel
theorem dX7_addBank_37 : decode cX7_addBank 37 = .ok (.ireturn, 1) := by decide +kernel
theorem dX7_addBank_38 : decode cX7_addBank 38 = .ok (.aload_n 0, 1) := by decide +kernel
theorem dX7_addBank_39 : decode cX7_addBank 39 = .ok (.invokevirtual 37, 3) := by decide +kernel
theorem dX7_addBank_42 : decode cX7_addBank 42 = .ok (.aload_n 0, 1) := by decide +kernel
theorem dX7_addBank_43 : decode cX7_addBank 43 = .ok (.getfield 7, 3) := by decide +kernel
theorem dX7_addBank_46 : decode cX7_addBank 46 = .ok (.iconst 2, 1) := by decide +kernel
theorem dX7_addBank_47 : decode cX7_addBank 47 = .ok (.iaload, 1) := by decide +kernel
theorem dX7_addBank_48 : decode cX7_addBank 48 = .ok (.istore_n 3, 1) := by decide +kernel
theorem dX7_addBank_49 : decode cX7_addBank 49 = .ok (.iconst 0, 1) := by decide +kernel
theorem dX7_addBank_50 : decode cX7_addBank 50 = .ok (.istore 4, 2) := by decide +kernel
theorem dX7_addBank_52 : decode cX7_addBank 52 = .ok (.iload 4, 2) := by decide +kernel
theorem dX7_addBank_54 : decode cX7_addBank 54 = .ok (.bipush 7, 2) := by decide +kernel
theorem dX7_addBank_56 : decode cX7_addBank 56 = .ok (.if_icmp .ge 44, 3) := by decide +kernel
theorem dX7_addBank_59 : decode cX7_addBank 59 = .ok (.aload_n 0, 1) := by decide +kernel
theorem dX7_addBank_60 : decode cX7_addBank 60 = .ok (.getfield 7, 3) := by decide +kernel
theorem dX7_addBank_63 : decode cX7_addBank 63 = .ok (.bipush 24, 2) := by decide +kernel
theorem dX7_addBank_65 : decode cX7_addBank 65 = .ok (.bipush 7, 2) := by decide +kernel
theorem dX7_addBank_67 : decode cX7_addBank 67 = .ok (.iload_n 3, 1) := by decide +kernel
theorem dX7_addBank_68 : decode cX7_addBank 68 = .ok (.imul, 1) := by decide +kernel
theorem dX7_addBank_69 : decode cX7_addBank 69 = .ok (.iadd, 1) := by decide +kernel
theorem dX7_addBank_70 : decode cX7_addBank 70 = .ok (.iload 4, 2) := by decide +kernel
theorem dX7_addBank_72 : decode cX7_addBank 72 = .ok (.iadd, 1) := by decide +kernel
theorem dX7_addBank_73 : decode cX7_addBank 73 = .ok (.iload 4, 2) := by decide +kernel
theorem dX7_addBank_75 : decode cX7_addBank 75 = .ok (.ifCond .ne 7, 3) := by decide +kernel
theorem dX7_addBank_78 : decode cX7_addBank 78 = .ok (.iload_n 1, 1) := by decide +kernel
theorem dX7_addBank_79 : decode cX7_addBank 79 = .ok (.goto 14, 3) := by decide +kernel
theorem dX7_addBank_82 : decode cX7_addBank 82 = .ok (.iload 4, 2) := by decide +kernel
theorem dX7_addBank_84 : decode cX7_addBank 84 = .ok (.iconst 1, 1) := by decide +kernel
theorem dX7_addBank_85 : decode cX7_addBank 85 = .ok (.if_icmp .ne 7, 3) := by decide +kernel
theorem dX7_addBank_88 : decode cX7_addBank 88 = .ok (.iload_n 2, 1) := by decide +kernel
theorem dX7_addBank_89 : decode cX7_addBank 89 = .ok (.goto 4, 3) := by decide +kernel
theorem dX7_addBank_92 : decode cX7_addBank 92 = .ok (.iconst 0, 1) := by decide +kernel
theorem dX7_addBank_93 : decode cX7_addBank 93 = .ok (.iastore, 1) := by decide +kernel
theorem dX7_addBank_94 : decode cX7_addBank 94 = .ok (.iinc 4 1, 3) := by decide +kernel
theorem dX7_addBank_97 : decode cX7_addBank 97 = .ok (.goto (-45), 3) := by decide +kernel
theorem dX7_addBank_100 : decode cX7_addBank 100 = .ok (.aload_n 0, 1) := by decide +kernel
theorem dX7_addBank_101 : decode cX7_addBank 101 = .ok (.getfield 7, 3) := by decide +kernel
theorem dX7_addBank_104 : decode cX7_addBank 104 = .ok (.iconst 2, 1) := by decide +kernel
theorem dX7_addBank_105 : decode cX7_addBank 105 = .ok (.dup2, 1) := by decide +kernel
theorem dX7_addBank_106 : decode cX7_addBank 106 = .ok (.iaload, 1) := by decide +kernel
theorem dX7_addBank_107 : decode cX7_addBank 107 = .ok (.iconst 1, 1) := by decide +kernel
theorem dX7_addBank_108 : decode cX7_addBank 108 = .ok (.iadd, 1) := by decide +kernel
theorem dX7_addBank_109 : decode cX7_addBank 109 = .ok (.iastore, 1) := by decide +kernel
theorem dX7_addBank_110 : decode cX7_addBank 110 = .ok (.iload_n 3, 1) := by decide +kernel
theorem dX7_addBank_111 : decode cX7_addBank 111 = .ok (.ireturn, 1) := by decide +kernel
theorem dX7_setAllowance_0 : decode cX7_setAllowance 0 = .ok (.aload_n 0, 1) := by decide +kernel
theorem dX7_setAllowance_1 : decode cX7_setAllowance 1 = .ok (.iload_n 1, 1) := by decide +kernel
theorem dX7_setAllowance_2 : decode cX7_setAllowance 2 = .ok (.invokevirtual 48, 3) := by decide +kernel
theorem dX7_setAllowance_5 : decode cX7_setAllowance 5 = .ok (.ifCond .eq 14, 3) := by decide +kernel
theorem dX7_setAllowance_8 : decode cX7_setAllowance 8 = .ok (.iload_n 2, 1) := by decide +kernel
theorem dX7_setAllowance_9 : decode cX7_setAllowance 9 = .ok (.iconst 0, 1) := by decide +kernel
theorem dX7_setAllowance_10 : decode cX7_setAllowance 10 = .ok (.sipush 5000, 3) := by decide +kernel
theorem dX7_setAllowance_13 : decode cX7_setAllowance 13 = .ok (.invokestatic 33, 3) := by decide +kernel
theorem dX7_setAllowance_16 : decode cX7_setAllowance 16 = .ok (.ifCond .ne 5, 3) := by decide +kernel
theorem dX7_setAllowance_19 : decode cX7_setAllowance 19 = .ok (.iconst (-1), 1) := by decide +kernel
theorem dX7_setAllowance_20 : decode cX7_setAllowance 20 = .ok (.ireturn, 1) := by decide +kernel
theorem dX7_setAllowance_21 : decode cX7_setAllowance 21 = .ok (.aload_n 0, 1) := by decide +kernel
theorem dX7_setAllowance_22 : decode cX7_setAllowance 22 = .ok (.invokevirtual 37, 3) := by decide +kernel
theorem dX7_setAllowance_25 : decode cX7_setAllowance 25 = .ok (.aload_n 0, 1) := by decide +kernel
theorem dX7_setAllowance_26 : decode cX7_setAllowance 26 = .ok (.iload_n 1, 1) := by decide +kernel
theorem dX7_setAllowance_27 : decode cX7_setAllowance 27 = .ok (.iconst 0, 1) := by decide +kernel
theorem dX7_setAllowance_28 : decode cX7_setAllowance 28 = .ok (.invokevirtual 51, 3) := by decide +kernel
theorem dX7_setAllowance_31 : decode cX7_setAllowance 31 = .ok (.istore_n 3, 1) := by decide +kernel
theorem dX7_setAllowance_32 : decode cX7_setAllowance 32 = .ok (.aload_n 0, 1) := by decide +kernel
theorem dX7_setAllowance_33 : decode cX7_setAllowance 33 = .ok (.getfield 7, 3) := by decide +kernel
theorem dX7_setAllowance_36 : decode cX7_setAllowance 36 = .ok (.bipush 24, 2) := by decide +kernel
theorem dX7_setAllowance_38 : decode cX7_setAllowance 38 = .ok (.bipush 7, 2) := by decide +kernel
theorem dX7_setAllowance_40 : decode cX7_setAllowance 40 = .ok (.iload_n 1, 1) := by decide +kernel
theorem dX7_setAllowance_41 : decode cX7_setAllowance 41 = .ok (.imul, 1) := by decide +kernel
theorem dX7_setAllowance_42 : decode cX7_setAllowance 42 = .ok (.iadd, 1) := by decide +kernel
theorem dX7_setAllowance_43 : decode cX7_setAllowance 43 = .ok (.iload_n 2, 1) := by decide +kernel
theorem dX7_setAllowance_44 : decode cX7_setAllowance 44 = .ok (.iastore, 1) := by decide +kernel
theorem dX7_setAllowance_45 : decode cX7_setAllowance 45 = .ok (.iload_n 3, 1) := by decide +kernel
theorem dX7_setAllowance_46 : decode cX7_setAllowance 46 = .ok (.ireturn, 1) := by decide +kernel
theorem dX7_hasRight_0 : decode cX7_hasRight 0 = .ok (.aload_n 0, 1) := by decide +kernel
theorem dX7_hasRight_1 : decode cX7_hasRight 1 = .ok (.iload_n 2, 1) := by decide +kernel
theorem dX7_hasRight_2 : decode cX7_hasRight 2 = .ok (.iconst 3, 1) := by decide +kernel
theorem dX7_hasRight_3 : decode cX7_hasRight 3 = .ok (.invokevirtual 51, 3) := by decide +kernel
theorem dX7_hasRight_6 : decode cX7_hasRight 6 = .ok (.iload_n 1, 1) := by decide +kernel
theorem dX7_hasRight_7 : decode cX7_hasRight 7 = .ok (.ishr, 1) := by decide +kernel
theorem dX7_hasRight_8 : decode cX7_hasRight 8 = .ok (.iconst 1, 1) := by decide +kernel
theorem dX7_hasRight_9 : decode cX7_hasRight 9 = .ok (.iand, 1) := by decide +kernel
theorem dX7_hasRight_10 : decode cX7_hasRight 10 = .ok (.iconst 1, 1) := by decide +kernel
theorem dX7_hasRight_11 : decode cX7_hasRight 11 = .ok (.if_icmp .ne 7, 3) := by decide +kernel
theorem dX7_hasRight_14 : decode cX7_hasRight 14 = .ok (.iconst 1, 1) := by decide +kernel
theorem dX7_hasRight_15 : decode cX7_hasRight 15 = .ok (.goto 4, 3) := by decide +kernel
theorem dX7_hasRight_18 : decode cX7_hasRight 18 = .ok (.iconst 0, 1) := by decide +kernel
theorem dX7_hasRight_19 : decode cX7_hasRight 19 = .ok (.ireturn, 1) := by decide +kernel
theorem dX7_ones_0 : decode cX7_ones 0 = .ok (.iconst 0, 1) := by decide +kernel
theorem dX7_ones_1 : decode cX7_ones 1 = .ok (.istore_n 1, 1) := by decide +kernel
theorem dX7_ones_2 : decode cX7_ones 2 = .ok (.iconst 0, 1) := by decide +kernel
theorem dX7_ones_3 : decode cX7_ones 3 = .ok (.istore_n 2, 1) := by decide +kernel
theorem dX7_ones_4 : decode cX7_ones 4 = .ok (.iload_n 2, 1) := by decide +kernel
theorem dX7_ones_5 : decode cX7_ones 5 = .ok (.bipush 6, 2) := by decide +kernel
theorem dX7_ones_7 : decode cX7_ones 7 = .ok (.if_icmp .ge 17, 3) := by decide +kernel
theorem dX7_ones_10 : decode cX7_ones 10 = .ok (.iload_n 1, 1) := by decide +kernel
theorem dX7_ones_11 : decode cX7_ones 11 = .ok (.iload_n 0, 1) := by decide +kernel
theorem dX7_ones_12 : decode cX7_ones 12 = .ok (.iload_n 2, 1) := by decide +kernel
theorem dX7_ones_13 : decode cX7_ones 13 = .ok (.ishr, 1) := by decide +kernel
theorem dX7_ones_14 : decode cX7_ones 14 = .ok (.iconst 1, 1) := by decide +kernel
theorem dX7_ones_15 : decode cX7_ones 15 = .ok (.iand, 1) := by decide +kernel
theorem dX7_ones_16 : decode cX7_ones 16 = .ok (.iadd, 1) := by decide +kernel
theorem dX7_ones_17 : decode cX7_ones 17 = .ok (.istore_n 1, 1) := by decide +kernel
theorem dX7_ones_18 : decode cX7_ones 18 = .ok (.iinc 2 1, 3) := by decide +kernel
theorem dX7_ones_21 : decode cX7_ones 21 = .ok (.goto (-17), 3) := by decide +kernel
theorem dX7_ones_24 : decode cX7_ones 24 = .ok (.iload_n 1, 1) := by decide +kernel
theorem dX7_ones_25 : decode cX7_ones 25 = .ok (.ireturn, 1) := by decide +kernel
theorem dX7_grant_0 : decode cX7_grant 0 = .ok (.aload_n 0, 1) := by decide +kernel
theorem dX7_grant_1 : decode cX7_grant 1 = .ok (.iload_n 1, 1) := by decide +kernel
theorem dX7_grant_2 : decode cX7_grant 2 = .ok (.invokevirtual 40, 3) := by decide +kernel
theorem dX7_grant_5 : decode cX7_grant 5 = .ok (.ifCond .eq 20, 3) := by decide +kernel
theorem dX7_grant_8 : decode cX7_grant 8 = .ok (.aload_n 0, 1) := by decide +kernel
theorem dX7_grant_9 : decode cX7_grant 9 = .ok (.iload_n 2, 1) := by decide +kernel
theorem dX7_grant_10 : decode cX7_grant 10 = .ok (.invokevirtual 48, 3) := by decide +kernel
theorem dX7_grant_13 : decode cX7_grant 13 = .ok (.ifCond .eq 12, 3) := by decide +kernel
theorem dX7_grant_16 : decode cX7_grant 16 = .ok (.iload_n 3, 1) := by decide +kernel
theorem dX7_grant_17 : decode cX7_grant 17 = .ok (.iconst 0, 1) := by decide +kernel
theorem dX7_grant_18 : decode cX7_grant 18 = .ok (.iconst 1, 1) := by decide +kernel
theorem dX7_grant_19 : decode cX7_grant 19 = .ok (.invokestatic 33, 3) := by decide +kernel
theorem dX7_grant_22 : decode cX7_grant 22 = .ok (.ifCond .ne 5, 3) := by decide +kernel
theorem dX7_grant_25 : decode cX7_grant 25 = .ok (.iconst (-1), 1) := by decide +kernel
theorem dX7_grant_26 : decode cX7_grant 26 = .ok (.ireturn, 1) := by decide +kernel
theorem dX7_grant_27 : decode cX7_grant 27 = .ok (.aload_n 0, 1) := by decide +kernel
theorem dX7_grant_28 : decode cX7_grant 28 = .ok (.invokevirtual 37, 3) := by decide +kernel
theorem dX7_grant_31 : decode cX7_grant 31 = .ok (.aload_n 0, 1) := by decide +kernel
theorem dX7_grant_32 : decode cX7_grant 32 = .ok (.iload_n 2, 1) := by decide +kernel
theorem dX7_grant_33 : decode cX7_grant 33 = .ok (.iconst 3, 1) := by decide +kernel
theorem dX7_grant_34 : decode cX7_grant 34 = .ok (.invokevirtual 51, 3) := by decide +kernel
theorem dX7_grant_37 : decode cX7_grant 37 = .ok (.iconst 1, 1) := by decide +kernel
theorem dX7_grant_38 : decode cX7_grant 38 = .ok (.iload_n 1, 1) := by decide +kernel
theorem dX7_grant_39 : decode cX7_grant 39 = .ok (.ishl, 1) := by decide +kernel
theorem dX7_grant_40 : decode cX7_grant 40 = .ok (.iconst (-1), 1) := by decide +kernel
theorem dX7_grant_41 : decode cX7_grant 41 = .ok (.ixor, 1) := by decide +kernel
theorem dX7_grant_42 : decode cX7_grant 42 = .ok (.iand, 1) := by decide +kernel
theorem dX7_grant_43 : decode cX7_grant 43 = .ok (.iload_n 3, 1) := by decide +kernel
theorem dX7_grant_44 : decode cX7_grant 44 = .ok (.iload_n 1, 1) := by decide +kernel
theorem dX7_grant_45 : decode cX7_grant 45 = .ok (.ishl, 1) := by decide +kernel
theorem dX7_grant_46 : decode cX7_grant 46 = .ok (.ior, 1) := by decide +kernel
theorem dX7_grant_47 : decode cX7_grant 47 = .ok (.istore 4, 2) := by decide +kernel
theorem dX7_grant_49 : decode cX7_grant 49 = .ok (.aload_n 0, 1) := by decide +kernel
theorem dX7_grant_50 : decode cX7_grant 50 = .ok (.getfield 7, 3) := by decide +kernel
theorem dX7_grant_53 : decode cX7_grant 53 = .ok (.bipush 24, 2) := by decide +kernel
theorem dX7_grant_55 : decode cX7_grant 55 = .ok (.bipush 7, 2) := by decide +kernel
theorem dX7_grant_57 : decode cX7_grant 57 = .ok (.iload_n 2, 1) := by decide +kernel
theorem dX7_grant_58 : decode cX7_grant 58 = .ok (.imul, 1) := by decide +kernel
theorem dX7_grant_59 : decode cX7_grant 59 = .ok (.iadd, 1) := by decide +kernel
theorem dX7_grant_60 : decode cX7_grant 60 = .ok (.iconst 3, 1) := by decide +kernel
theorem dX7_grant_61 : decode cX7_grant 61 = .ok (.iadd, 1) := by decide +kernel
theorem dX7_grant_62 : decode cX7_grant 62 = .ok (.iload 4, 2) := by decide +kernel
theorem dX7_grant_64 : decode cX7_grant 64 = .ok (.iastore, 1) := by decide +kernel
theorem dX7_grant_65 : decode cX7_grant 65 = .ok (.iload 4, 2) := by decide +kernel
theorem dX7_grant_67 : decode cX7_grant 67 = .ok (.invokestatic 54, 3) := by decide +kernel
theorem dX7_grant_70 : decode cX7_grant 70 = .ok (.ireturn, 1) := by decide +kernel
theorem dX7_spadesOf_0 : decode cX7_spadesOf 0 = .ok (.iconst 0, 1) := by decide +kernel
theorem dX7_spadesOf_1 : decode cX7_spadesOf 1 = .ok (.istore_n 2, 1) := by decide +kernel
theorem dX7_spadesOf_2 : decode cX7_spadesOf 2 = .ok (.iconst 0, 1) := by decide +kernel
theorem dX7_spadesOf_3 : decode cX7_spadesOf 3 = .ok (.istore_n 3, 1) := by decide +kernel
theorem dX7_spadesOf_4 : decode cX7_spadesOf 4 = .ok (.iload_n 3, 1) := by decide +kernel
theorem dX7_spadesOf_5 : decode cX7_spadesOf 5 = .ok (.aload_n 0, 1) := by decide +kernel
theorem dX7_spadesOf_6 : decode cX7_spadesOf 6 = .ok (.getfield 7, 3) := by decide +kernel
theorem dX7_spadesOf_9 : decode cX7_spadesOf 9 = .ok (.iconst 1, 1) := by decide +kernel
theorem dX7_spadesOf_10 : decode cX7_spadesOf 10 = .ok (.iaload, 1) := by decide +kernel
theorem dX7_spadesOf_11 : decode cX7_spadesOf 11 = .ok (.if_icmp .ge 31, 3) := by decide +kernel
theorem dX7_spadesOf_14 : decode cX7_spadesOf 14 = .ok (.iload_n 2, 1) := by decide +kernel
theorem dX7_spadesOf_15 : decode cX7_spadesOf 15 = .ok (.aload_n 0, 1) := by decide +kernel
theorem dX7_spadesOf_16 : decode cX7_spadesOf 16 = .ok (.iload_n 3, 1) := by decide +kernel
theorem dX7_spadesOf_17 : decode cX7_spadesOf 17 = .ok (.iload_n 1, 1) := by decide +kernel
theorem dX7_spadesOf_18 : decode cX7_spadesOf 18 = .ok (.invokevirtual 58, 3) := by decide +kernel
theorem dX7_spadesOf_21 : decode cX7_spadesOf 21 = .ok (.ifCond .eq 12, 3) := by decide +kernel
theorem dX7_spadesOf_24 : decode cX7_spadesOf 24 = .ok (.aload_n 0, 1) := by decide +kernel
theorem dX7_spadesOf_25 : decode cX7_spadesOf 25 = .ok (.iload_n 3, 1) := by decide +kernel
theorem dX7_spadesOf_26 : decode cX7_spadesOf 26 = .ok (.iconst 0, 1) := by decide +kernel
theorem dX7_spadesOf_27 : decode cX7_spadesOf 27 = .ok (.invokevirtual 44, 3) := by decide +kernel
theorem dX7_spadesOf_30 : decode cX7_spadesOf 30 = .ok (.goto 4, 3) := by decide +kernel
theorem dX7_spadesOf_33 : decode cX7_spadesOf 33 = .ok (.iconst 0, 1) := by decide +kernel
theorem dX7_spadesOf_34 : decode cX7_spadesOf 34 = .ok (.iadd, 1) := by decide +kernel
theorem dX7_spadesOf_35 : decode cX7_spadesOf 35 = .ok (.istore_n 2, 1) := by decide +kernel
theorem dX7_spadesOf_36 : decode cX7_spadesOf 36 = .ok (.iinc 3 1, 3) := by decide +kernel
theorem dX7_spadesOf_39 : decode cX7_spadesOf 39 = .ok (.goto (-35), 3) := by decide +kernel
theorem dX7_spadesOf_42 : decode cX7_spadesOf 42 = .ok (.iload_n 2, 1) := by decide +kernel
theorem dX7_spadesOf_43 : decode cX7_spadesOf 43 = .ok (.ireturn, 1) := by decide +kernel
theorem dX7_shareOf_0 : decode cX7_shareOf 0 = .ok (.aload_n 0, 1) := by decide +kernel
theorem dX7_shareOf_1 : decode cX7_shareOf 1 = .ok (.iload_n 2, 1) := by decide +kernel
theorem dX7_shareOf_2 : decode cX7_shareOf 2 = .ok (.invokevirtual 62, 3) := by decide +kernel
theorem dX7_shareOf_5 : decode cX7_shareOf 5 = .ok (.istore_n 3, 1) := by decide +kernel
theorem dX7_shareOf_6 : decode cX7_shareOf 6 = .ok (.aload_n 0, 1) := by decide +kernel
theorem dX7_shareOf_7 : decode cX7_shareOf 7 = .ok (.iload_n 1, 1) := by decide +kernel
theorem dX7_shareOf_8 : decode cX7_shareOf 8 = .ok (.iload_n 2, 1) := by decide +kernel
theorem dX7_shareOf_9 : decode cX7_shareOf 9 = .ok (.invokevirtual 58, 3) := by decide +kernel
theorem dX7_shareOf_12 : decode cX7_shareOf 12 = .ok (.ifCond .ne 5, 3) := by decide +kernel
theorem dX7_shareOf_15 : decode cX7_shareOf 15 = .ok (.iconst 0, 1) := by decide +kernel
theorem dX7_shareOf_16 : decode cX7_shareOf 16 = .ok (.ireturn, 1) := by decide +kernel
theorem dX7_shareOf_17 : decode cX7_shareOf 17 = .ok (.aload_n 0, 1) := by decide +kernel
theorem dX7_shareOf_18 : decode cX7_shareOf 18 = .ok (.iload_n 2, 1) := by decide +kernel
theorem dX7_shareOf_19 : decode cX7_shareOf 19 = .ok (.iconst 0, 1) := by decide +kernel
theorem dX7_shareOf_20 : decode cX7_shareOf 20 = .ok (.invokevirtual 51, 3) := by decide +kernel
theorem dX7_shareOf_23 : decode cX7_shareOf 23 = .ok (.istore 4, 2) := by decide +kernel
theorem dX7_shareOf_25 : decode cX7_shareOf 25 = .ok (.iconst 0, 1) := by decide +kernel
theorem dX7_shareOf_26 : decode cX7_shareOf 26 = .ok (.istore 5, 2) := by decide +kernel
theorem dX7_shareOf_28 : decode cX7_shareOf 28 = .ok (.iconst 0, 1) := by decide +kernel
theorem dX7_shareOf_29 : decode cX7_shareOf 29 = .ok (.istore 6, 2) := by decide +kernel
theorem dX7_shareOf_31 : decode cX7_shareOf 31 = .ok (.iload 6, 2) := by decide +kernel
theorem dX7_shareOf_33 : decode cX7_shareOf 33 = .ok (.aload_n 0, 1) := by decide +kernel
theorem dX7_shareOf_34 : decode cX7_shareOf 34 = .ok (.getfield 7, 3) := by decide +kernel
theorem dX7_shareOf_37 : decode cX7_shareOf 37 = .ok (.iconst 1, 1) := by decide +kernel
theorem dX7_shareOf_38 : decode cX7_shareOf 38 = .ok (.iaload, 1) := by decide +kernel
theorem dX7_shareOf_39 : decode cX7_shareOf 39 = .ok (.if_icmp .ge 70, 3) := by decide +kernel
theorem dX7_shareOf_42 : decode cX7_shareOf 42 = .ok (.iload 4, 2) := by decide +kernel
theorem dX7_shareOf_44 : decode cX7_shareOf 44 = .ok (.aload_n 0, 1) := by decide +kernel
theorem dX7_shareOf_45 : decode cX7_shareOf 45 = .ok (.iload 6, 2) := by decide +kernel
theorem dX7_shareOf_47 : decode cX7_shareOf 47 = .ok (.iload_n 2, 1) := by decide +kernel
theorem dX7_shareOf_48 : decode cX7_shareOf 48 = .ok (.invokevirtual 58, 3) := by decide +kernel
theorem dX7_shareOf_51 : decode cX7_shareOf 51 = .ok (.ifCond .eq 22, 3) := by decide +kernel
theorem dX7_shareOf_54 : decode cX7_shareOf 54 = .ok (.aload_n 0, 1) := by decide +kernel
theorem dX7_shareOf_55 : decode cX7_shareOf 55 = .ok (.iload_n 2, 1) := by decide +kernel
theorem dX7_shareOf_56 : decode cX7_shareOf 56 = .ok (.iconst 0, 1) := by decide +kernel
theorem dX7_shareOf_57 : decode cX7_shareOf 57 = .ok (.invokevirtual 51, 3) := by decide +kernel
theorem dX7_shareOf_60 : decode cX7_shareOf 60 = .ok (.aload_n 0, 1) := by decide +kernel
theorem dX7_shareOf_61 : decode cX7_shareOf 61 = .ok (.iload 6, 2) := by decide +kernel
theorem dX7_shareOf_63 : decode cX7_shareOf 63 = .ok (.iconst 0, 1) := by decide +kernel
theorem dX7_shareOf_64 : decode cX7_shareOf 64 = .ok (.invokevirtual 44, 3) := by decide +kernel
theorem dX7_shareOf_67 : decode cX7_shareOf 67 = .ok (.imul, 1) := by decide +kernel
theorem dX7_shareOf_68 : decode cX7_shareOf 68 = .ok (.iload_n 3, 1) := by decide +kernel
theorem dX7_shareOf_69 : decode cX7_shareOf 69 = .ok (.idiv, 1) := by decide +kernel
theorem dX7_shareOf_70 : decode cX7_shareOf 70 = .ok (.goto 4, 3) := by decide +kernel
theorem dX7_shareOf_73 : decode cX7_shareOf 73 = .ok (.iconst 0, 1) := by decide +kernel
theorem dX7_shareOf_74 : decode cX7_shareOf 74 = .ok (.isub, 1) := by decide +kernel
theorem dX7_shareOf_75 : decode cX7_shareOf 75 = .ok (.istore 4, 2) := by decide +kernel
theorem dX7_shareOf_77 : decode cX7_shareOf 77 = .ok (.iload 5, 2) := by decide +kernel
theorem dX7_shareOf_79 : decode cX7_shareOf 79 = .ok (.iload 6, 2) := by decide +kernel
theorem dX7_shareOf_81 : decode cX7_shareOf 81 = .ok (.iload_n 1, 1) := by decide +kernel
theorem dX7_shareOf_82 : decode cX7_shareOf 82 = .ok (.if_icmp .ge 17, 3) := by decide +kernel
theorem dX7_shareOf_85 : decode cX7_shareOf 85 = .ok (.aload_n 0, 1) := by decide +kernel
theorem dX7_shareOf_86 : decode cX7_shareOf 86 = .ok (.iload 6, 2) := by decide +kernel
theorem dX7_shareOf_88 : decode cX7_shareOf 88 = .ok (.iload_n 2, 1) := by decide +kernel
theorem dX7_shareOf_89 : decode cX7_shareOf 89 = .ok (.invokevirtual 58, 3) := by decide +kernel
theorem dX7_shareOf_92 : decode cX7_shareOf 92 = .ok (.ifCond .eq 7, 3) := by decide +kernel
theorem dX7_shareOf_95 : decode cX7_shareOf 95 = .ok (.iconst 1, 1) := by decide +kernel
theorem dX7_shareOf_96 : decode cX7_shareOf 96 = .ok (.goto 4, 3) := by decide +kernel
theorem dX7_shareOf_99 : decode cX7_shareOf 99 = .ok (.iconst 0, 1) := by decide +kernel
theorem dX7_shareOf_100 : decode cX7_shareOf 100 = .ok (.iadd, 1) := by decide +kernel
theorem dX7_shareOf_101 : decode cX7_shareOf 101 = .ok (.istore 5, 2) := by decide +kernel
theorem dX7_shareOf_103 : decode cX7_shareOf 103 = .ok (.iinc 6 1, 3) := by decide +kernel
theorem dX7_shareOf_106 : decode cX7_shareOf 106 = .ok (.goto (-75), 3) := by decide +kernel
theorem dX7_shareOf_109 : decode cX7_shareOf 109 = .ok (.aload_n 0, 1) := by decide +kernel
theorem dX7_shareOf_110 : decode cX7_shareOf 110 = .ok (.iload_n 2, 1) := by decide +kernel
theorem dX7_shareOf_111 : decode cX7_shareOf 111 = .ok (.iconst 0, 1) := by decide +kernel
theorem dX7_shareOf_112 : decode cX7_shareOf 112 = .ok (.invokevirtual 51, 3) := by decide +kernel
theorem dX7_shareOf_115 : decode cX7_shareOf 115 = .ok (.aload_n 0, 1) := by decide +kernel
theorem dX7_shareOf_116 : decode cX7_shareOf 116 = .ok (.iload_n 1, 1) := by decide +kernel
theorem dX7_shareOf_117 : decode cX7_shareOf 117 = .ok (.iconst 0, 1) := by decide +kernel
theorem dX7_shareOf_118 : decode cX7_shareOf 118 = .ok (.invokevirtual 44, 3) := by decide +kernel
theorem dX7_shareOf_121 : decode cX7_shareOf 121 = .ok (.imul, 1) := by decide +kernel
theorem dX7_shareOf_122 : decode cX7_shareOf 122 = .ok (.iload_n 3, 1) := by decide +kernel
theorem dX7_shareOf_123 : decode cX7_shareOf 123 = .ok (.idiv, 1) := by decide +kernel
theorem dX7_shareOf_124 : decode cX7_shareOf 124 = .ok (.iload 5, 2) := by decide +kernel
theorem dX7_shareOf_126 : decode cX7_shareOf 126 = .ok (.iload 4, 2) := by decide +kernel
theorem dX7_shareOf_128 : decode cX7_shareOf 128 = .ok (.if_icmp .ge 7, 3) := by decide +kernel
theorem dX7_shareOf_131 : decode cX7_shareOf 131 = .ok (.iconst 1, 1) := by decide +kernel
theorem dX7_shareOf_132 : decode cX7_shareOf 132 = .ok (.goto 4, 3) := by decide +kernel
theorem dX7_shareOf_135 : decode cX7_shareOf 135 = .ok (.iconst 0, 1) := by decide +kernel
theorem dX7_shareOf_136 : decode cX7_shareOf 136 = .ok (.iadd, 1) := by decide +kernel
theorem dX7_shareOf_137 : decode cX7_shareOf 137 = .ok (.ireturn, 1) := by decide +kernel
theorem dX7_mayCut_0 : decode cX7_mayCut 0 = .ok (.aload_n 0, 1) := by decide +kernel
theorem dX7_mayCut_1 : decode cX7_mayCut 1 = .ok (.iload_n 1, 1) := by decide +kernel
theorem dX7_mayCut_2 : decode cX7_mayCut 2 = .ok (.iload_n 2, 1) := by decide +kernel
theorem dX7_mayCut_3 : decode cX7_mayCut 3 = .ok (.invokevirtual 65, 3) := by decide +kernel
theorem dX7_mayCut_6 : decode cX7_mayCut 6 = .ok (.aload_n 0, 1) := by decide +kernel
theorem dX7_mayCut_7 : decode cX7_mayCut 7 = .ok (.getfield 7, 3) := by decide +kernel
theorem dX7_mayCut_10 : decode cX7_mayCut 10 = .ok (.bipush 52, 2) := by decide +kernel
theorem dX7_mayCut_12 : decode cX7_mayCut 12 = .ok (.iconst 4, 1) := by decide +kernel
theorem dX7_mayCut_13 : decode cX7_mayCut 13 = .ok (.iload_n 1, 1) := by decide +kernel
theorem dX7_mayCut_14 : decode cX7_mayCut 14 = .ok (.imul, 1) := by decide +kernel
theorem dX7_mayCut_15 : decode cX7_mayCut 15 = .ok (.iadd, 1) := by decide +kernel
theorem dX7_mayCut_16 : decode cX7_mayCut 16 = .ok (.iload_n 2, 1) := by decide +kernel
theorem dX7_mayCut_17 : decode cX7_mayCut 17 = .ok (.iadd, 1) := by decide +kernel
theorem dX7_mayCut_18 : decode cX7_mayCut 18 = .ok (.iaload, 1) := by decide +kernel
theorem dX7_mayCut_19 : decode cX7_mayCut 19 = .ok (.isub, 1) := by decide +kernel
theorem dX7_mayCut_20 : decode cX7_mayCut 20 = .ok (.istore_n 3, 1) := by decide +kernel
theorem dX7_mayCut_21 : decode cX7_mayCut 21 = .ok (.iload_n 3, 1) := by decide +kernel
theorem dX7_mayCut_22 : decode cX7_mayCut 22 = .ok (.ifCond .ge 7, 3) := by decide +kernel
theorem dX7_mayCut_25 : decode cX7_mayCut 25 = .ok (.iconst 0, 1) := by decide +kernel
theorem dX7_mayCut_26 : decode cX7_mayCut 26 = .ok (.goto 4, 3) := by decide +kernel
theorem dX7_mayCut_29 : decode cX7_mayCut 29 = .ok (.iload_n 3, 1) := by decide +kernel
theorem dX7_mayCut_30 : decode cX7_mayCut 30 = .ok (.ireturn, 1) := by decide +kernel
theorem dX7_cut_0 : decode cX7_cut 0 = .ok (.aload_n 0, 1) := by decide +kernel
theorem dX7_cut_1 : decode cX7_cut 1 = .ok (.iload_n 1, 1) := by decide +kernel
theorem dX7_cut_2 : decode cX7_cut 2 = .ok (.invokevirtual 40, 3) := by decide +kernel
theorem dX7_cut_5 : decode cX7_cut 5 = .ok (.ifCond .eq 22, 3) := by decide +kernel
theorem dX7_cut_8 : decode cX7_cut 8 = .ok (.aload_n 0, 1) := by decide +kernel
theorem dX7_cut_9 : decode cX7_cut 9 = .ok (.iload_n 2, 1) := by decide +kernel
theorem dX7_cut_10 : decode cX7_cut 10 = .ok (.invokevirtual 48, 3) := by decide +kernel
theorem dX7_cut_13 : decode cX7_cut 13 = .ok (.ifCond .eq 14, 3) := by decide +kernel
theorem dX7_cut_16 : decode cX7_cut 16 = .ok (.iload_n 3, 1) := by decide +kernel
theorem dX7_cut_17 : decode cX7_cut 17 = .ok (.iconst 1, 1) := by decide +kernel
theorem dX7_cut_18 : decode cX7_cut 18 = .ok (.sipush 1000, 3) := by decide +kernel
theorem dX7_cut_21 : decode cX7_cut 21 = .ok (.invokestatic 33, 3) := by decide +kernel
theorem dX7_cut_24 : decode cX7_cut 24 = .ok (.ifCond .ne 5, 3) := by decide +kernel
theorem dX7_cut_27 : decode cX7_cut 27 = .ok (.iconst (-1), 1) := by decide +kernel
theorem dX7_cut_28 : decode cX7_cut 28 = .ok (.ireturn, 1) := by decide +kernel
theorem dX7_cut_29 : decode cX7_cut 29 = .ok (.iload_n 3, 1) := by decide +kernel
theorem dX7_cut_30 : decode cX7_cut 30 = .ok (.aload_n 0, 1) := by decide +kernel
theorem dX7_cut_31 : decode cX7_cut 31 = .ok (.iload_n 1, 1) := by decide +kernel
theorem dX7_cut_32 : decode cX7_cut 32 = .ok (.iload_n 2, 1) := by decide +kernel
theorem dX7_cut_33 : decode cX7_cut 33 = .ok (.invokevirtual 68, 3) := by decide +kernel
theorem dX7_cut_36 : decode cX7_cut 36 = .ok (.if_icmp .le 6, 3) := by decide +kernel
theorem dX7_cut_39 : decode cX7_cut 39 = .ok (.bipush (-2), 2) := by decide +kernel
theorem dX7_cut_41 : decode cX7_cut 41 = .ok (.ireturn, 1) := by decide +kernel
theorem dX7_cut_42 : decode cX7_cut 42 = .ok (.aload_n 0, 1) := by decide +kernel
theorem dX7_cut_43 : decode cX7_cut 43 = .ok (.getfield 7, 3) := by decide +kernel
theorem dX7_cut_46 : decode cX7_cut 46 = .ok (.iconst 3, 1) := by decide +kernel
theorem dX7_cut_47 : decode cX7_cut 47 = .ok (.iaload, 1) := by decide +kernel
theorem dX7_cut_48 : decode cX7_cut 48 = .ok (.bipush 12, 2) := by decide +kernel
theorem dX7_cut_50 : decode cX7_cut 50 = .ok (.if_icmp .ne 6, 3) := by decide +kernel
theorem dX7_cut_53 : decode cX7_cut 53 = .ok (.bipush (-3), 2) := by decide +kernel
theorem dX7_cut_55 : decode cX7_cut 55 = .ok (.ireturn, 1) := by decide +kernel
theorem dX7_cut_56 : decode cX7_cut 56 = .ok (.aload_n 0, 1) := by decide +kernel
theorem dX7_cut_57 : decode cX7_cut 57 = .ok (.invokevirtual 37, 3) := by decide +kernel
theorem dX7_cut_60 : decode cX7_cut 60 = .ok (.aload_n 0, 1) := by decide +kernel
theorem dX7_cut_61 : decode cX7_cut 61 = .ok (.getfield 7, 3) := by decide +kernel
theorem dX7_cut_64 : decode cX7_cut 64 = .ok (.bipush 52, 2) := by decide +kernel
theorem dX7_cut_66 : decode cX7_cut 66 = .ok (.iconst 4, 1) := by decide +kernel
theorem dX7_cut_67 : decode cX7_cut 67 = .ok (.iload_n 1, 1) := by decide +kernel
theorem dX7_cut_68 : decode cX7_cut 68 = .ok (.imul, 1) := by decide +kernel
theorem dX7_cut_69 : decode cX7_cut 69 = .ok (.iadd, 1) := by decide +kernel
theorem dX7_cut_70 : decode cX7_cut 70 = .ok (.iload_n 2, 1) := by decide +kernel
theorem dX7_cut_71 : decode cX7_cut 71 = .ok (.iadd, 1) := by decide +kernel
theorem dX7_cut_72 : decode cX7_cut 72 = .ok (.dup2, 1) := by decide +kernel
theorem dX7_cut_73 : decode cX7_cut 73 = .ok (.iaload, 1) := by decide +kernel
theorem dX7_cut_74 : decode cX7_cut 74 = .ok (.iload_n 3, 1) := by decide +kernel
theorem dX7_cut_75 : decode cX7_cut 75 = .ok (.iadd, 1) := by decide +kernel
theorem dX7_cut_76 : decode cX7_cut 76 = .ok (.iastore, 1) := by decide +kernel
theorem dX7_cut_77 : decode cX7_cut 77 = .ok (.aload_n 0, 1) := by decide +kernel
theorem dX7_cut_78 : decode cX7_cut 78 = .ok (.getfield 7, 3) := by decide +kernel
theorem dX7_cut_81 : decode cX7_cut 81 = .ok (.bipush 24, 2) := by decide +kernel
theorem dX7_cut_83 : decode cX7_cut 83 = .ok (.bipush 7, 2) := by decide +kernel
theorem dX7_cut_85 : decode cX7_cut 85 = .ok (.iload_n 2, 1) := by decide +kernel
theorem dX7_cut_86 : decode cX7_cut 86 = .ok (.imul, 1) := by decide +kernel
theorem dX7_cut_87 : decode cX7_cut 87 = .ok (.iadd, 1) := by decide +kernel
theorem dX7_cut_88 : decode cX7_cut 88 = .ok (.iconst 4, 1) := by decide +kernel
theorem dX7_cut_89 : decode cX7_cut 89 = .ok (.iadd, 1) := by decide +kernel
theorem dX7_cut_90 : decode cX7_cut 90 = .ok (.dup2, 1) := by decide +kernel
theorem dX7_cut_91 : decode cX7_cut 91 = .ok (.iaload, 1) := by decide +kernel
theorem dX7_cut_92 : decode cX7_cut 92 = .ok (.iload_n 3, 1) := by decide +kernel
theorem dX7_cut_93 : decode cX7_cut 93 = .ok (.iadd, 1) := by decide +kernel
theorem dX7_cut_94 : decode cX7_cut 94 = .ok (.iastore, 1) := by decide +kernel
theorem dX7_cut_95 : decode cX7_cut 95 = .ok (.bipush 76, 2) := by decide +kernel
theorem dX7_cut_97 : decode cX7_cut 97 = .ok (.iconst 5, 1) := by decide +kernel
theorem dX7_cut_98 : decode cX7_cut 98 = .ok (.aload_n 0, 1) := by decide +kernel
theorem dX7_cut_99 : decode cX7_cut 99 = .ok (.getfield 7, 3) := by decide +kernel
theorem dX7_cut_102 : decode cX7_cut 102 = .ok (.iconst 3, 1) := by decide +kernel
theorem dX7_cut_103 : decode cX7_cut 103 = .ok (.iaload, 1) := by decide +kernel
theorem dX7_cut_104 : decode cX7_cut 104 = .ok (.imul, 1) := by decide +kernel
theorem dX7_cut_105 : decode cX7_cut 105 = .ok (.iadd, 1) := by decide +kernel
theorem dX7_cut_106 : decode cX7_cut 106 = .ok (.istore 4, 2) := by decide +kernel
theorem dX7_cut_108 : decode cX7_cut 108 = .ok (.aload_n 0, 1) := by decide +kernel
theorem dX7_cut_109 : decode cX7_cut 109 = .ok (.getfield 7, 3) := by decide +kernel
theorem dX7_cut_112 : decode cX7_cut 112 = .ok (.iload 4, 2) := by decide +kernel
theorem dX7_cut_114 : decode cX7_cut 114 = .ok (.iconst 0, 1) := by decide +kernel
theorem dX7_cut_115 : decode cX7_cut 115 = .ok (.iadd, 1) := by decide +kernel
theorem dX7_cut_116 : decode cX7_cut 116 = .ok (.iload_n 1, 1) := by decide +kernel
theorem dX7_cut_117 : decode cX7_cut 117 = .ok (.iastore, 1) := by decide +kernel
theorem dX7_cut_118 : decode cX7_cut 118 = .ok (.aload_n 0, 1) := by decide +kernel
theorem dX7_cut_119 : decode cX7_cut 119 = .ok (.getfield 7, 3) := by decide +kernel
theorem dX7_cut_122 : decode cX7_cut 122 = .ok (.iload 4, 2) := by decide +kernel
theorem dX7_cut_124 : decode cX7_cut 124 = .ok (.iconst 1, 1) := by decide +kernel
theorem dX7_cut_125 : decode cX7_cut 125 = .ok (.iadd, 1) := by decide +kernel
theorem dX7_cut_126 : decode cX7_cut 126 = .ok (.iload_n 2, 1) := by decide +kernel
theorem dX7_cut_127 : decode cX7_cut 127 = .ok (.iastore, 1) := by decide +kernel
theorem dX7_cut_128 : decode cX7_cut 128 = .ok (.aload_n 0, 1) := by decide +kernel
theorem dX7_cut_129 : decode cX7_cut 129 = .ok (.getfield 7, 3) := by decide +kernel
theorem dX7_cut_132 : decode cX7_cut 132 = .ok (.iload 4, 2) := by decide +kernel
theorem dX7_cut_134 : decode cX7_cut 134 = .ok (.iconst 2, 1) := by decide +kernel
theorem dX7_cut_135 : decode cX7_cut 135 = .ok (.iadd, 1) := by decide +kernel
theorem dX7_cut_136 : decode cX7_cut 136 = .ok (.iload_n 3, 1) := by decide +kernel
theorem dX7_cut_137 : decode cX7_cut 137 = .ok (.iastore, 1) := by decide +kernel
theorem dX7_cut_138 : decode cX7_cut 138 = .ok (.aload_n 0, 1) := by decide +kernel
theorem dX7_cut_139 : decode cX7_cut 139 = .ok (.getfield 7, 3) := by decide +kernel
theorem dX7_cut_142 : decode cX7_cut 142 = .ok (.iload 4, 2) := by decide +kernel
theorem dX7_cut_144 : decode cX7_cut 144 = .ok (.iconst 3, 1) := by decide +kernel
theorem dX7_cut_145 : decode cX7_cut 145 = .ok (.iadd, 1) := by decide +kernel
theorem dX7_cut_146 : decode cX7_cut 146 = .ok (.ldc 71, 2) := by decide +kernel
theorem dX7_cut_148 : decode cX7_cut 148 = .ok (.iastore, 1) := by decide +kernel
theorem dX7_cut_149 : decode cX7_cut 149 = .ok (.aload_n 0, 1) := by decide +kernel
theorem dX7_cut_150 : decode cX7_cut 150 = .ok (.getfield 7, 3) := by decide +kernel
theorem dX7_cut_153 : decode cX7_cut 153 = .ok (.iload 4, 2) := by decide +kernel
theorem dX7_cut_155 : decode cX7_cut 155 = .ok (.iconst 4, 1) := by decide +kernel
theorem dX7_cut_156 : decode cX7_cut 156 = .ok (.iadd, 1) := by decide +kernel
theorem dX7_cut_157 : decode cX7_cut 157 = .ok (.iconst 0, 1) := by decide +kernel
theorem dX7_cut_158 : decode cX7_cut 158 = .ok (.iastore, 1) := by decide +kernel
theorem dX7_cut_159 : decode cX7_cut 159 = .ok (.aload_n 0, 1) := by decide +kernel
theorem dX7_cut_160 : decode cX7_cut 160 = .ok (.getfield 7, 3) := by decide +kernel
theorem dX7_cut_163 : decode cX7_cut 163 = .ok (.iconst 3, 1) := by decide +kernel
theorem dX7_cut_164 : decode cX7_cut 164 = .ok (.dup2, 1) := by decide +kernel
theorem dX7_cut_165 : decode cX7_cut 165 = .ok (.iaload, 1) := by decide +kernel
theorem dX7_cut_166 : decode cX7_cut 166 = .ok (.iconst 1, 1) := by decide +kernel
theorem dX7_cut_167 : decode cX7_cut 167 = .ok (.iadd, 1) := by decide +kernel
theorem dX7_cut_168 : decode cX7_cut 168 = .ok (.iastore, 1) := by decide +kernel
theorem dX7_cut_169 : decode cX7_cut 169 = .ok (.aload_n 0, 1) := by decide +kernel
theorem dX7_cut_170 : decode cX7_cut 170 = .ok (.getfield 7, 3) := by decide +kernel
theorem dX7_cut_173 : decode cX7_cut 173 = .ok (.iconst 3, 1) := by decide +kernel
theorem dX7_cut_174 : decode cX7_cut 174 = .ok (.iaload, 1) := by decide +kernel
theorem dX7_cut_175 : decode cX7_cut 175 = .ok (.iconst 1, 1) := by decide +kernel
theorem dX7_cut_176 : decode cX7_cut 176 = .ok (.isub, 1) := by decide +kernel
theorem dX7_cut_177 : decode cX7_cut 177 = .ok (.ireturn, 1) := by decide +kernel
theorem dX7_turn_0 : decode cX7_turn 0 = .ok (.aload_n 0, 1) := by decide +kernel
theorem dX7_turn_1 : decode cX7_turn 1 = .ok (.iload_n 1, 1) := by decide +kernel
theorem dX7_turn_2 : decode cX7_turn 2 = .ok (.invokevirtual 72, 3) := by decide +kernel
theorem dX7_turn_5 : decode cX7_turn 5 = .ok (.ifCond .ne 5, 3) := by decide +kernel
theorem dX7_turn_8 : decode cX7_turn 8 = .ok (.iconst (-1), 1) := by decide +kernel
theorem dX7_turn_9 : decode cX7_turn 9 = .ok (.ireturn, 1) := by decide +kernel
theorem dX7_turn_10 : decode cX7_turn 10 = .ok (.aload_n 0, 1) := by decide +kernel
theorem dX7_turn_11 : decode cX7_turn 11 = .ok (.iload_n 1, 1) := by decide +kernel
theorem dX7_turn_12 : decode cX7_turn 12 = .ok (.iconst 4, 1) := by decide +kernel
theorem dX7_turn_13 : decode cX7_turn 13 = .ok (.invokevirtual 75, 3) := by decide +kernel
theorem dX7_turn_16 : decode cX7_turn 16 = .ok (.iconst 3, 1) := by decide +kernel
theorem dX7_turn_17 : decode cX7_turn 17 = .ok (.if_icmp .ne 6, 3) := by decide +kernel
theorem dX7_turn_20 : decode cX7_turn 20 = .ok (.bipush (-3), 2) := by decide +kernel
theorem dX7_turn_22 : decode cX7_turn 22 = .ok (.ireturn, 1) := by decide +kernel
theorem dX7_turn_23 : decode cX7_turn 23 = .ok (.aload_n 0, 1) := by decide +kernel
theorem dX7_turn_24 : decode cX7_turn 24 = .ok (.invokevirtual 37, 3) := by decide +kernel
theorem dX7_turn_27 : decode cX7_turn 27 = .ok (.aload_n 0, 1) := by decide +kernel
theorem dX7_turn_28 : decode cX7_turn 28 = .ok (.getfield 7, 3) := by decide +kernel
theorem dX7_turn_31 : decode cX7_turn 31 = .ok (.bipush 76, 2) := by decide +kernel
theorem dX7_turn_33 : decode cX7_turn 33 = .ok (.iconst 5, 1) := by decide +kernel
theorem dX7_turn_34 : decode cX7_turn 34 = .ok (.iload_n 1, 1) := by decide +kernel
theorem dX7_turn_35 : decode cX7_turn 35 = .ok (.imul, 1) := by decide +kernel
theorem dX7_turn_36 : decode cX7_turn 36 = .ok (.iadd, 1) := by decide +kernel
theorem dX7_turn_37 : decode cX7_turn 37 = .ok (.iconst 4, 1) := by decide +kernel
theorem dX7_turn_38 : decode cX7_turn 38 = .ok (.iadd, 1) := by decide +kernel
theorem dX7_turn_39 : decode cX7_turn 39 = .ok (.dup2, 1) := by decide +kernel
theorem dX7_turn_40 : decode cX7_turn 40 = .ok (.iaload, 1) := by decide +kernel
theorem dX7_turn_41 : decode cX7_turn 41 = .ok (.iconst 1, 1) := by decide +kernel
theorem dX7_turn_42 : decode cX7_turn 42 = .ok (.iadd, 1) := by decide +kernel
theorem dX7_turn_43 : decode cX7_turn 43 = .ok (.iastore, 1) := by decide +kernel
theorem dX7_turn_44 : decode cX7_turn 44 = .ok (.aload_n 0, 1) := by decide +kernel
theorem dX7_turn_45 : decode cX7_turn 45 = .ok (.iload_n 1, 1) := by decide +kernel
theorem dX7_turn_46 : decode cX7_turn 46 = .ok (.iconst 4, 1) := by decide +kernel
theorem dX7_turn_47 : decode cX7_turn 47 = .ok (.invokevirtual 75, 3) := by decide +kernel
theorem dX7_turn_50 : decode cX7_turn 50 = .ok (.ireturn, 1) := by decide +kernel
theorem dX7_goes_0 : decode cX7_goes 0 = .ok (.aload_n 0, 1) := by decide +kernel
theorem dX7_goes_1 : decode cX7_goes 1 = .ok (.getfield 7, 3) := by decide +kernel
theorem dX7_goes_4 : decode cX7_goes 4 = .ok (.iconst 3, 1) := by decide +kernel
theorem dX7_goes_5 : decode cX7_goes 5 = .ok (.dup2, 1) := by decide +kernel
theorem dX7_goes_6 : decode cX7_goes 6 = .ok (.iaload, 1) := by decide +kernel
theorem dX7_goes_7 : decode cX7_goes 7 = .ok (.iconst 1, 1) := by decide +kernel
theorem dX7_goes_8 : decode cX7_goes 8 = .ok (.isub, 1) := by decide +kernel
theorem dX7_goes_9 : decode cX7_goes 9 = .ok (.iastore, 1) := by decide +kernel
theorem dX7_goes_10 : decode cX7_goes 10 = .ok (.bipush 76, 2) := by decide +kernel
theorem dX7_goes_12 : decode cX7_goes 12 = .ok (.iconst 5, 1) := by decide +kernel
theorem dX7_goes_13 : decode cX7_goes 13 = .ok (.iload_n 1, 1) := by decide +kernel
theorem dX7_goes_14 : decode cX7_goes 14 = .ok (.imul, 1) := by decide +kernel
theorem dX7_goes_15 : decode cX7_goes 15 = .ok (.iadd, 1) := by decide +kernel
theorem dX7_goes_16 : decode cX7_goes 16 = .ok (.istore_n 2, 1) := by decide +kernel
theorem dX7_goes_17 : decode cX7_goes 17 = .ok (.iload_n 2, 1) := by decide +kernel
theorem dX7_goes_18 : decode cX7_goes 18 = .ok (.bipush 76, 2) := by decide +kernel
theorem dX7_goes_20 : decode cX7_goes 20 = .ok (.iconst 5, 1) := by decide +kernel
theorem dX7_goes_21 : decode cX7_goes 21 = .ok (.aload_n 0, 1) := by decide +kernel
theorem dX7_goes_22 : decode cX7_goes 22 = .ok (.getfield 7, 3) := by decide +kernel
theorem dX7_goes_25 : decode cX7_goes 25 = .ok (.iconst 3, 1) := by decide +kernel
theorem dX7_goes_26 : decode cX7_goes 26 = .ok (.iaload, 1) := by decide +kernel
theorem dX7_goes_27 : decode cX7_goes 27 = .ok (.imul, 1) := by decide +kernel
theorem dX7_goes_28 : decode cX7_goes 28 = .ok (.iadd, 1) := by decide +kernel
theorem dX7_goes_29 : decode cX7_goes 29 = .ok (.if_icmp .ge 23, 3) := by decide +kernel
theorem dX7_goes_32 : decode cX7_goes 32 = .ok (.aload_n 0, 1) := by decide +kernel
theorem dX7_goes_33 : decode cX7_goes 33 = .ok (.getfield 7, 3) := by decide +kernel
theorem dX7_goes_36 : decode cX7_goes 36 = .ok (.iload_n 2, 1) := by decide +kernel
theorem dX7_goes_37 : decode cX7_goes 37 = .ok (.aload_n 0, 1) := by decide +kernel
theorem dX7_goes_38 : decode cX7_goes 38 = .ok (.getfield 7, 3) := by decide +kernel
theorem dX7_goes_41 : decode cX7_goes 41 = .ok (.iload_n 2, 1) := by decide +kernel
theorem dX7_goes_42 : decode cX7_goes 42 = .ok (.iconst 5, 1) := by decide +kernel
theorem dX7_goes_43 : decode cX7_goes 43 = .ok (.iadd, 1) := by decide +kernel
theorem dX7_goes_44 : decode cX7_goes 44 = .ok (.iaload, 1) := by decide +kernel
theorem dX7_goes_45 : decode cX7_goes 45 = .ok (.iastore, 1) := by decide +kernel
theorem dX7_goes_46 : decode cX7_goes 46 = .ok (.iinc 2 1, 3) := by decide +kernel
theorem dX7_goes_49 : decode cX7_goes 49 = .ok (.goto (-32), 3) := by decide +kernel
theorem dX7_goes_52 : decode cX7_goes 52 = .ok (.return_, 1) := by decide +kernel
theorem dX7_join_0 : decode cX7_join 0 = .ok (.aload_n 0, 1) := by decide +kernel
theorem dX7_join_1 : decode cX7_join 1 = .ok (.iload_n 1, 1) := by decide +kernel
theorem dX7_join_2 : decode cX7_join 2 = .ok (.invokevirtual 72, 3) := by decide +kernel
theorem dX7_join_5 : decode cX7_join 5 = .ok (.ifCond .eq 16, 3) := by decide +kernel
theorem dX7_join_8 : decode cX7_join 8 = .ok (.aload_n 0, 1) := by decide +kernel
theorem dX7_join_9 : decode cX7_join 9 = .ok (.iload_n 2, 1) := by decide +kernel
theorem dX7_join_10 : decode cX7_join 10 = .ok (.invokevirtual 72, 3) := by decide +kernel
theorem dX7_join_13 : decode cX7_join 13 = .ok (.ifCond .eq 8, 3) := by decide +kernel
theorem dX7_join_16 : decode cX7_join 16 = .ok (.iload_n 1, 1) := by decide +kernel
theorem dX7_join_17 : decode cX7_join 17 = .ok (.iload_n 2, 1) := by decide +kernel
theorem dX7_join_18 : decode cX7_join 18 = .ok (.if_icmp .ne 5, 3) := by decide +kernel
theorem dX7_join_21 : decode cX7_join 21 = .ok (.iconst (-1), 1) := by decide +kernel
theorem dX7_join_22 : decode cX7_join 22 = .ok (.ireturn, 1) := by decide +kernel
theorem dX7_join_23 : decode cX7_join 23 = .ok (.aload_n 0, 1) := by decide +kernel
theorem dX7_join_24 : decode cX7_join 24 = .ok (.iload_n 1, 1) := by decide +kernel
theorem dX7_join_25 : decode cX7_join 25 = .ok (.iconst 0, 1) := by decide +kernel
theorem dX7_join_26 : decode cX7_join 26 = .ok (.invokevirtual 75, 3) := by decide +kernel
theorem dX7_join_29 : decode cX7_join 29 = .ok (.aload_n 0, 1) := by decide +kernel
theorem dX7_join_30 : decode cX7_join 30 = .ok (.iload_n 2, 1) := by decide +kernel
theorem dX7_join_31 : decode cX7_join 31 = .ok (.iconst 0, 1) := by decide +kernel
theorem dX7_join_32 : decode cX7_join 32 = .ok (.invokevirtual 75, 3) := by decide +kernel
theorem dX7_join_35 : decode cX7_join 35 = .ok (.if_icmp .ne 18, 3) := by decide +kernel
theorem dX7_join_38 : decode cX7_join 38 = .ok (.aload_n 0, 1) := by decide +kernel
theorem dX7_join_39 : decode cX7_join 39 = .ok (.iload_n 1, 1) := by decide +kernel
theorem dX7_join_40 : decode cX7_join 40 = .ok (.iconst 1, 1) := by decide +kernel
theorem dX7_join_41 : decode cX7_join 41 = .ok (.invokevirtual 75, 3) := by decide +kernel
theorem dX7_join_44 : decode cX7_join 44 = .ok (.aload_n 0, 1) := by decide +kernel
theorem dX7_join_45 : decode cX7_join 45 = .ok (.iload_n 2, 1) := by decide +kernel
theorem dX7_join_46 : decode cX7_join 46 = .ok (.iconst 1, 1) := by decide +kernel
theorem dX7_join_47 : decode cX7_join 47 = .ok (.invokevirtual 75, 3) := by decide +kernel
theorem dX7_join_50 : decode cX7_join 50 = .ok (.if_icmp .eq 6, 3) := by decide +kernel
theorem dX7_join_53 : decode cX7_join 53 = .ok (.bipush (-2), 2) := by decide +kernel
theorem dX7_join_55 : decode cX7_join 55 = .ok (.ireturn, 1) := by decide +kernel
theorem dX7_join_56 : decode cX7_join 56 = .ok (.aload_n 0, 1) := by decide +kernel
theorem dX7_join_57 : decode cX7_join 57 = .ok (.invokevirtual 37, 3) := by decide +kernel
theorem dX7_join_60 : decode cX7_join 60 = .ok (.bipush 76, 2) := by decide +kernel
theorem dX7_join_62 : decode cX7_join 62 = .ok (.iconst 5, 1) := by decide +kernel
theorem dX7_join_63 : decode cX7_join 63 = .ok (.iload_n 2, 1) := by decide +kernel
theorem dX7_join_64 : decode cX7_join 64 = .ok (.imul, 1) := by decide +kernel
theorem dX7_join_65 : decode cX7_join 65 = .ok (.iadd, 1) := by decide +kernel
theorem dX7_join_66 : decode cX7_join 66 = .ok (.istore_n 3, 1) := by decide +kernel
theorem dX7_join_67 : decode cX7_join 67 = .ok (.aload_n 0, 1) := by decide +kernel
theorem dX7_join_68 : decode cX7_join 68 = .ok (.iload_n 1, 1) := by decide +kernel
theorem dX7_join_69 : decode cX7_join 69 = .ok (.iconst 2, 1) := by decide +kernel
theorem dX7_join_70 : decode cX7_join 70 = .ok (.invokevirtual 75, 3) := by decide +kernel
theorem dX7_join_73 : decode cX7_join 73 = .ok (.aload_n 0, 1) := by decide +kernel
theorem dX7_join_74 : decode cX7_join 74 = .ok (.iload_n 2, 1) := by decide +kernel
theorem dX7_join_75 : decode cX7_join 75 = .ok (.iconst 2, 1) := by decide +kernel
theorem dX7_join_76 : decode cX7_join 76 = .ok (.invokevirtual 75, 3) := by decide +kernel
theorem dX7_join_79 : decode cX7_join 79 = .ok (.iadd, 1) := by decide +kernel
theorem dX7_join_80 : decode cX7_join 80 = .ok (.istore 4, 2) := by decide +kernel
theorem dX7_join_82 : decode cX7_join 82 = .ok (.aload_n 0, 1) := by decide +kernel
theorem dX7_join_83 : decode cX7_join 83 = .ok (.iload_n 1, 1) := by decide +kernel
theorem dX7_join_84 : decode cX7_join 84 = .ok (.iconst 3, 1) := by decide +kernel
theorem dX7_join_85 : decode cX7_join 85 = .ok (.invokevirtual 75, 3) := by decide +kernel
theorem dX7_join_88 : decode cX7_join 88 = .ok (.i2l, 1) := by decide +kernel
theorem dX7_join_89 : decode cX7_join 89 = .ok (.aload_n 0, 1) := by decide +kernel
theorem dX7_join_90 : decode cX7_join 90 = .ok (.iload_n 1, 1) := by decide +kernel
theorem dX7_join_91 : decode cX7_join 91 = .ok (.iconst 2, 1) := by decide +kernel
theorem dX7_join_92 : decode cX7_join 92 = .ok (.invokevirtual 75, 3) := by decide +kernel
theorem dX7_join_95 : decode cX7_join 95 = .ok (.i2l, 1) := by decide +kernel
theorem dX7_join_96 : decode cX7_join 96 = .ok (.lmul, 1) := by decide +kernel
theorem dX7_join_97 : decode cX7_join 97 = .ok (.aload_n 0, 1) := by decide +kernel
theorem dX7_join_98 : decode cX7_join 98 = .ok (.iload_n 2, 1) := by decide +kernel
theorem dX7_join_99 : decode cX7_join 99 = .ok (.iconst 3, 1) := by decide +kernel
theorem dX7_join_100 : decode cX7_join 100 = .ok (.invokevirtual 75, 3) := by decide +kernel
theorem dX7_join_103 : decode cX7_join 103 = .ok (.i2l, 1) := by decide +kernel
theorem dX7_join_104 : decode cX7_join 104 = .ok (.aload_n 0, 1) := by decide +kernel
theorem dX7_join_105 : decode cX7_join 105 = .ok (.iload_n 2, 1) := by decide +kernel
theorem dX7_join_106 : decode cX7_join 106 = .ok (.iconst 2, 1) := by decide +kernel
theorem dX7_join_107 : decode cX7_join 107 = .ok (.invokevirtual 75, 3) := by decide +kernel
theorem dX7_join_110 : decode cX7_join 110 = .ok (.i2l, 1) := by decide +kernel
theorem dX7_join_111 : decode cX7_join 111 = .ok (.lmul, 1) := by decide +kernel
theorem dX7_join_112 : decode cX7_join 112 = .ok (.ladd, 1) := by decide +kernel
theorem dX7_join_113 : decode cX7_join 113 = .ok (.lstore 5, 2) := by decide +kernel
theorem dX7_join_115 : decode cX7_join 115 = .ok (.aload_n 0, 1) := by decide +kernel
theorem dX7_join_116 : decode cX7_join 116 = .ok (.getfield 7, 3) := by decide +kernel
theorem dX7_join_119 : decode cX7_join 119 = .ok (.iload_n 3, 1) := by decide +kernel
theorem dX7_join_120 : decode cX7_join 120 = .ok (.iconst 2, 1) := by decide +kernel
theorem dX7_join_121 : decode cX7_join 121 = .ok (.iadd, 1) := by decide +kernel
theorem dX7_join_122 : decode cX7_join 122 = .ok (.iload 4, 2) := by decide +kernel
theorem dX7_join_124 : decode cX7_join 124 = .ok (.iastore, 1) := by decide +kernel
theorem dX7_join_125 : decode cX7_join 125 = .ok (.aload_n 0, 1) := by decide +kernel
theorem dX7_join_126 : decode cX7_join 126 = .ok (.getfield 7, 3) := by decide +kernel
theorem dX7_join_129 : decode cX7_join 129 = .ok (.iload_n 3, 1) := by decide +kernel
theorem dX7_join_130 : decode cX7_join 130 = .ok (.iconst 3, 1) := by decide +kernel
theorem dX7_join_131 : decode cX7_join 131 = .ok (.iadd, 1) := by decide +kernel
theorem dX7_join_132 : decode cX7_join 132 = .ok (.lload 5, 2) := by decide +kernel
theorem dX7_join_134 : decode cX7_join 134 = .ok (.iload 4, 2) := by decide +kernel
theorem dX7_join_136 : decode cX7_join 136 = .ok (.i2l, 1) := by decide +kernel
theorem dX7_join_137 : decode cX7_join 137 = .ok (.ladd, 1) := by decide +kernel
theorem dX7_join_138 : decode cX7_join 138 = .ok (.lconst 1, 1) := by decide +kernel
theorem dX7_join_139 : decode cX7_join 139 = .ok (.lsub, 1) := by decide +kernel
theorem dX7_join_140 : decode cX7_join 140 = .ok (.iload 4, 2) := by decide +kernel
theorem dX7_join_142 : decode cX7_join 142 = .ok (.i2l, 1) := by decide +kernel
theorem dX7_join_143 : decode cX7_join 143 = .ok (.ldiv, 1) := by decide +kernel
theorem dX7_join_144 : decode cX7_join 144 = .ok (.l2i, 1) := by decide +kernel
theorem dX7_join_145 : decode cX7_join 145 = .ok (.iastore, 1) := by decide +kernel
theorem dX7_join_146 : decode cX7_join 146 = .ok (.aload_n 0, 1) := by decide +kernel
theorem dX7_join_147 : decode cX7_join 147 = .ok (.getfield 7, 3) := by decide +kernel
theorem dX7_join_150 : decode cX7_join 150 = .ok (.iload_n 3, 1) := by decide +kernel
theorem dX7_join_151 : decode cX7_join 151 = .ok (.iconst 4, 1) := by decide +kernel
theorem dX7_join_152 : decode cX7_join 152 = .ok (.iadd, 1) := by decide +kernel
theorem dX7_join_153 : decode cX7_join 153 = .ok (.aload_n 0, 1) := by decide +kernel
theorem dX7_join_154 : decode cX7_join 154 = .ok (.iload_n 1, 1) := by decide +kernel
theorem dX7_join_155 : decode cX7_join 155 = .ok (.iconst 4, 1) := by decide +kernel
theorem dX7_join_156 : decode cX7_join 156 = .ok (.invokevirtual 75, 3) := by decide +kernel
theorem dX7_join_159 : decode cX7_join 159 = .ok (.aload_n 0, 1) := by decide +kernel
theorem dX7_join_160 : decode cX7_join 160 = .ok (.iload_n 2, 1) := by decide +kernel
theorem dX7_join_161 : decode cX7_join 161 = .ok (.iconst 4, 1) := by decide +kernel
theorem dX7_join_162 : decode cX7_join 162 = .ok (.invokevirtual 75, 3) := by decide +kernel
theorem dX7_join_165 : decode cX7_join 165 = .ok (.if_icmp .ge 12, 3) := by decide +kernel
theorem dX7_join_168 : decode cX7_join 168 = .ok (.aload_n 0, 1) := by decide +kernel
theorem dX7_join_169 : decode cX7_join 169 = .ok (.iload_n 1, 1) := by decide +kernel
theorem dX7_join_170 : decode cX7_join 170 = .ok (.iconst 4, 1) := by decide +kernel
theorem dX7_join_171 : decode cX7_join 171 = .ok (.invokevirtual 75, 3) := by decide +kernel
theorem dX7_join_174 : decode cX7_join 174 = .ok (.goto 9, 3) := by decide +kernel
theorem dX7_join_177 : decode cX7_join 177 = .ok (.aload_n 0, 1) := by decide +kernel
theorem dX7_join_178 : decode cX7_join 178 = .ok (.iload_n 2, 1) := by decide +kernel
theorem dX7_join_179 : decode cX7_join 179 = .ok (.iconst 4, 1) := by decide +kernel
theorem dX7_join_180 : decode cX7_join 180 = .ok (.invokevirtual 75, 3) := by decide +kernel
theorem dX7_join_183 : decode cX7_join 183 = .ok (.iastore, 1) := by decide +kernel
theorem dX7_join_184 : decode cX7_join 184 = .ok (.aload_n 0, 1) := by decide +kernel
theorem dX7_join_185 : decode cX7_join 185 = .ok (.iload_n 1, 1) := by decide +kernel
theorem dX7_join_186 : decode cX7_join 186 = .ok (.invokevirtual 78, 3) := by decide +kernel
theorem dX7_join_189 : decode cX7_join 189 = .ok (.iload 4, 2) := by decide +kernel
theorem dX7_join_191 : decode cX7_join 191 = .ok (.ireturn, 1) := by decide +kernel
theorem dX7_isDry_0 : decode cX7_isDry 0 = .ok (.aload_n 0, 1) := by decide +kernel
theorem dX7_isDry_1 : decode cX7_isDry 1 = .ok (.iload_n 1, 1) := by decide +kernel
theorem dX7_isDry_2 : decode cX7_isDry 2 = .ok (.iconst 3, 1) := by decide +kernel
theorem dX7_isDry_3 : decode cX7_isDry 3 = .ok (.invokevirtual 75, 3) := by decide +kernel
theorem dX7_isDry_6 : decode cX7_isDry 6 = .ok (.sipush 30000, 3) := by decide +kernel
theorem dX7_isDry_9 : decode cX7_isDry 9 = .ok (.if_icmp .gt 7, 3) := by decide +kernel
theorem dX7_isDry_12 : decode cX7_isDry 12 = .ok (.iconst 1, 1) := by decide +kernel
theorem dX7_isDry_13 : decode cX7_isDry 13 = .ok (.goto 4, 3) := by decide +kernel
theorem dX7_isDry_16 : decode cX7_isDry 16 = .ok (.iconst 0, 1) := by decide +kernel
theorem dX7_isDry_17 : decode cX7_isDry 17 = .ok (.ireturn, 1) := by decide +kernel
theorem dX7_weight_0 : decode cX7_weight 0 = .ok (.sipush 1000, 3) := by decide +kernel
theorem dX7_weight_3 : decode cX7_weight 3 = .ok (.aload_n 0, 1) := by decide +kernel
theorem dX7_weight_4 : decode cX7_weight 4 = .ok (.iload_n 1, 1) := by decide +kernel
theorem dX7_weight_5 : decode cX7_weight 5 = .ok (.iconst 3, 1) := by decide +kernel
theorem dX7_weight_6 : decode cX7_weight 6 = .ok (.invokevirtual 75, 3) := by decide +kernel
theorem dX7_weight_9 : decode cX7_weight 9 = .ok (.bipush 100, 2) := by decide +kernel
theorem dX7_weight_11 : decode cX7_weight 11 = .ok (.idiv, 1) := by decide +kernel
theorem dX7_weight_12 : decode cX7_weight 12 = .ok (.iadd, 1) := by decide +kernel
theorem dX7_weight_13 : decode cX7_weight 13 = .ok (.ireturn, 1) := by decide +kernel
theorem dX7_load_0 : decode cX7_load 0 = .ok (.iload_n 2, 1) := by decide +kernel
theorem dX7_load_1 : decode cX7_load 1 = .ok (.aload_n 0, 1) := by decide +kernel
theorem dX7_load_2 : decode cX7_load 2 = .ok (.iload_n 1, 1) := by decide +kernel
theorem dX7_load_3 : decode cX7_load 3 = .ok (.invokevirtual 82, 3) := by decide +kernel
theorem dX7_load_6 : decode cX7_load 6 = .ok (.imul, 1) := by decide +kernel
theorem dX7_load_7 : decode cX7_load 7 = .ok (.sipush 999, 3) := by decide +kernel
theorem dX7_load_10 : decode cX7_load 10 = .ok (.iadd, 1) := by decide +kernel
theorem dX7_load_11 : decode cX7_load 11 = .ok (.sipush 1000, 3) := by decide +kernel
theorem dX7_load_14 : decode cX7_load 14 = .ok (.idiv, 1) := by decide +kernel
theorem dX7_load_15 : decode cX7_load 15 = .ok (.ireturn, 1) := by decide +kernel
theorem dX7_bears_0 : decode cX7_bears 0 = .ok (.aload_n 0, 1) := by decide +kernel
theorem dX7_bears_1 : decode cX7_bears 1 = .ok (.iload_n 1, 1) := by decide +kernel
theorem dX7_bears_2 : decode cX7_bears 2 = .ok (.iconst 1, 1) := by decide +kernel
theorem dX7_bears_3 : decode cX7_bears 3 = .ok (.invokevirtual 51, 3) := by decide +kernel
theorem dX7_bears_6 : decode cX7_bears 6 = .ok (.bipush 40, 2) := by decide +kernel
theorem dX7_bears_8 : decode cX7_bears 8 = .ok (.aload_n 0, 1) := by decide +kernel
theorem dX7_bears_9 : decode cX7_bears 9 = .ok (.getfield 7, 3) := by decide +kernel
theorem dX7_bears_12 : decode cX7_bears 12 = .ok (.iconst 4, 1) := by decide +kernel
theorem dX7_bears_13 : decode cX7_bears 13 = .ok (.iaload, 1) := by decide +kernel
theorem dX7_bears_14 : decode cX7_bears 14 = .ok (.imul, 1) := by decide +kernel
theorem dX7_bears_15 : decode cX7_bears 15 = .ok (.isub, 1) := by decide +kernel
theorem dX7_bears_16 : decode cX7_bears 16 = .ok (.aload_n 0, 1) := by decide +kernel
theorem dX7_bears_17 : decode cX7_bears 17 = .ok (.iload_n 1, 1) := by decide +kernel
theorem dX7_bears_18 : decode cX7_bears 18 = .ok (.iconst 2, 1) := by decide +kernel
theorem dX7_bears_19 : decode cX7_bears 19 = .ok (.invokevirtual 51, 3) := by decide +kernel
theorem dX7_bears_22 : decode cX7_bears 22 = .ok (.isub, 1) := by decide +kernel
theorem dX7_bears_23 : decode cX7_bears 23 = .ok (.istore_n 2, 1) := by decide +kernel
theorem dX7_bears_24 : decode cX7_bears 24 = .ok (.iload_n 2, 1) := by decide +kernel
theorem dX7_bears_25 : decode cX7_bears 25 = .ok (.ifCond .ge 7, 3) := by decide +kernel
theorem dX7_bears_28 : decode cX7_bears 28 = .ok (.iconst 0, 1) := by decide +kernel
theorem dX7_bears_29 : decode cX7_bears 29 = .ok (.goto 4, 3) := by decide +kernel
theorem dX7_bears_32 : decode cX7_bears 32 = .ok (.iload_n 2, 1) := by decide +kernel
theorem dX7_bears_33 : decode cX7_bears 33 = .ok (.ireturn, 1) := by decide +kernel
theorem dX7_cart_0 : decode cX7_cart 0 = .ok (.aload_n 0, 1) := by decide +kernel
theorem dX7_cart_1 : decode cX7_cart 1 = .ok (.iload_n 1, 1) := by decide +kernel
theorem dX7_cart_2 : decode cX7_cart 2 = .ok (.invokevirtual 72, 3) := by decide +kernel
theorem dX7_cart_5 : decode cX7_cart 5 = .ok (.ifCond .eq 14, 3) := by decide +kernel
theorem dX7_cart_8 : decode cX7_cart 8 = .ok (.iload_n 2, 1) := by decide +kernel
theorem dX7_cart_9 : decode cX7_cart 9 = .ok (.iconst 1, 1) := by decide +kernel
theorem dX7_cart_10 : decode cX7_cart 10 = .ok (.sipush 1000, 3) := by decide +kernel
theorem dX7_cart_13 : decode cX7_cart 13 = .ok (.invokestatic 33, 3) := by decide +kernel
theorem dX7_cart_16 : decode cX7_cart 16 = .ok (.ifCond .ne 5, 3) := by decide +kernel
theorem dX7_cart_19 : decode cX7_cart 19 = .ok (.iconst (-1), 1) := by decide +kernel
theorem dX7_cart_20 : decode cX7_cart 20 = .ok (.ireturn, 1) := by decide +kernel
theorem dX7_cart_21 : decode cX7_cart 21 = .ok (.aload_n 0, 1) := by decide +kernel
theorem dX7_cart_22 : decode cX7_cart 22 = .ok (.iload_n 1, 1) := by decide +kernel
theorem dX7_cart_23 : decode cX7_cart 23 = .ok (.iload_n 2, 1) := by decide +kernel
theorem dX7_cart_24 : decode cX7_cart 24 = .ok (.invokevirtual 85, 3) := by decide +kernel
theorem dX7_cart_27 : decode cX7_cart 27 = .ok (.istore_n 3, 1) := by decide +kernel
theorem dX7_cart_28 : decode cX7_cart 28 = .ok (.aload_n 0, 1) := by decide +kernel
theorem dX7_cart_29 : decode cX7_cart 29 = .ok (.iload_n 1, 1) := by decide +kernel
theorem dX7_cart_30 : decode cX7_cart 30 = .ok (.iconst 1, 1) := by decide +kernel
theorem dX7_cart_31 : decode cX7_cart 31 = .ok (.invokevirtual 75, 3) := by decide +kernel
theorem dX7_cart_34 : decode cX7_cart 34 = .ok (.istore 4, 2) := by decide +kernel
theorem dX7_cart_36 : decode cX7_cart 36 = .ok (.aload_n 0, 1) := by decide +kernel
theorem dX7_cart_37 : decode cX7_cart 37 = .ok (.iload_n 1, 1) := by decide +kernel
theorem dX7_cart_38 : decode cX7_cart 38 = .ok (.iconst 2, 1) := by decide +kernel
theorem dX7_cart_39 : decode cX7_cart 39 = .ok (.invokevirtual 75, 3) := by decide +kernel
theorem dX7_cart_42 : decode cX7_cart 42 = .ok (.iload_n 2, 1) := by decide +kernel
theorem dX7_cart_43 : decode cX7_cart 43 = .ok (.if_icmp .lt 13, 3) := by decide +kernel
theorem dX7_cart_46 : decode cX7_cart 46 = .ok (.iload_n 3, 1) := by decide +kernel
theorem dX7_cart_47 : decode cX7_cart 47 = .ok (.aload_n 0, 1) := by decide +kernel
theorem dX7_cart_48 : decode cX7_cart 48 = .ok (.iload 4, 2) := by decide +kernel
theorem dX7_cart_50 : decode cX7_cart 50 = .ok (.invokevirtual 88, 3) := by decide +kernel
theorem dX7_cart_53 : decode cX7_cart 53 = .ok (.if_icmp .le 6, 3) := by decide +kernel
theorem dX7_cart_56 : decode cX7_cart 56 = .ok (.bipush (-2), 2) := by decide +kernel
theorem dX7_cart_58 : decode cX7_cart 58 = .ok (.ireturn, 1) := by decide +kernel
theorem dX7_cart_59 : decode cX7_cart 59 = .ok (.aload_n 0, 1) := by decide +kernel
theorem dX7_cart_60 : decode cX7_cart 60 = .ok (.invokevirtual 37, 3) := by decide +kernel
theorem dX7_cart_63 : decode cX7_cart 63 = .ok (.aload_n 0, 1) := by decide +kernel
theorem dX7_cart_64 : decode cX7_cart 64 = .ok (.getfield 7, 3) := by decide +kernel
theorem dX7_cart_67 : decode cX7_cart 67 = .ok (.bipush 24, 2) := by decide +kernel
theorem dX7_cart_69 : decode cX7_cart 69 = .ok (.bipush 7, 2) := by decide +kernel
theorem dX7_cart_71 : decode cX7_cart 71 = .ok (.iload 4, 2) := by decide +kernel
theorem dX7_cart_73 : decode cX7_cart 73 = .ok (.imul, 1) := by decide +kernel
theorem dX7_cart_74 : decode cX7_cart 74 = .ok (.iadd, 1) := by decide +kernel
theorem dX7_cart_75 : decode cX7_cart 75 = .ok (.iconst 2, 1) := by decide +kernel
theorem dX7_cart_76 : decode cX7_cart 76 = .ok (.iadd, 1) := by decide +kernel
theorem dX7_cart_77 : decode cX7_cart 77 = .ok (.dup2, 1) := by decide +kernel
theorem dX7_cart_78 : decode cX7_cart 78 = .ok (.iaload, 1) := by decide +kernel
theorem dX7_cart_79 : decode cX7_cart 79 = .ok (.iload_n 3, 1) := by decide +kernel
theorem dX7_cart_80 : decode cX7_cart 80 = .ok (.bipush 49, 2) := by decide +kernel
theorem dX7_cart_82 : decode cX7_cart 82 = .ok (.iadd, 1) := by decide +kernel
theorem dX7_cart_83 : decode cX7_cart 83 = .ok (.bipush 50, 2) := by decide +kernel
theorem dX7_cart_85 : decode cX7_cart 85 = .ok (.idiv, 1) := by decide +kernel
theorem dX7_cart_86 : decode cX7_cart 86 = .ok (.iadd, 1) := by decide +kernel
theorem dX7_cart_87 : decode cX7_cart 87 = .ok (.iastore, 1) := by decide +kernel
theorem dX7_cart_88 : decode cX7_cart 88 = .ok (.aload_n 0, 1) := by decide +kernel
theorem dX7_cart_89 : decode cX7_cart 89 = .ok (.getfield 7, 3) := by decide +kernel
theorem dX7_cart_92 : decode cX7_cart 92 = .ok (.bipush 24, 2) := by decide +kernel
theorem dX7_cart_94 : decode cX7_cart 94 = .ok (.bipush 7, 2) := by decide +kernel
theorem dX7_cart_96 : decode cX7_cart 96 = .ok (.iload 4, 2) := by decide +kernel
theorem dX7_cart_98 : decode cX7_cart 98 = .ok (.imul, 1) := by decide +kernel
theorem dX7_cart_99 : decode cX7_cart 99 = .ok (.iadd, 1) := by decide +kernel
theorem dX7_cart_100 : decode cX7_cart 100 = .ok (.iconst 5, 1) := by decide +kernel
theorem dX7_cart_101 : decode cX7_cart 101 = .ok (.iadd, 1) := by decide +kernel
theorem dX7_cart_102 : decode cX7_cart 102 = .ok (.dup2, 1) := by decide +kernel
theorem dX7_cart_103 : decode cX7_cart 103 = .ok (.iaload, 1) := by decide +kernel
theorem dX7_cart_104 : decode cX7_cart 104 = .ok (.iload_n 2, 1) := by decide +kernel
theorem dX7_cart_105 : decode cX7_cart 105 = .ok (.iadd, 1) := by decide +kernel
theorem dX7_cart_106 : decode cX7_cart 106 = .ok (.iastore, 1) := by decide +kernel
theorem dX7_cart_107 : decode cX7_cart 107 = .ok (.aload_n 0, 1) := by decide +kernel
theorem dX7_cart_108 : decode cX7_cart 108 = .ok (.getfield 7, 3) := by decide +kernel
theorem dX7_cart_111 : decode cX7_cart 111 = .ok (.bipush 6, 2) := by decide +kernel
theorem dX7_cart_113 : decode cX7_cart 113 = .ok (.iconst 3, 1) := by decide +kernel
theorem dX7_cart_114 : decode cX7_cart 114 = .ok (.aload_n 0, 1) := by decide +kernel
theorem dX7_cart_115 : decode cX7_cart 115 = .ok (.iload_n 1, 1) := by decide +kernel
theorem dX7_cart_116 : decode cX7_cart 116 = .ok (.iconst 0, 1) := by decide +kernel
theorem dX7_cart_117 : decode cX7_cart 117 = .ok (.invokevirtual 75, 3) := by decide +kernel
theorem dX7_cart_120 : decode cX7_cart 120 = .ok (.imul, 1) := by decide +kernel
theorem dX7_cart_121 : decode cX7_cart 121 = .ok (.iadd, 1) := by decide +kernel
theorem dX7_cart_122 : decode cX7_cart 122 = .ok (.aload_n 0, 1) := by decide +kernel
theorem dX7_cart_123 : decode cX7_cart 123 = .ok (.iload_n 1, 1) := by decide +kernel
theorem dX7_cart_124 : decode cX7_cart 124 = .ok (.invokevirtual 91, 3) := by decide +kernel
theorem dX7_cart_127 : decode cX7_cart 127 = .ok (.ifCond .eq 7, 3) := by decide +kernel
theorem dX7_cart_130 : decode cX7_cart 130 = .ok (.iconst 1, 1) := by decide +kernel
theorem dX7_cart_131 : decode cX7_cart 131 = .ok (.goto 4, 3) := by decide +kernel
theorem dX7_cart_134 : decode cX7_cart 134 = .ok (.iconst 2, 1) := by decide +kernel
theorem dX7_cart_135 : decode cX7_cart 135 = .ok (.iadd, 1) := by decide +kernel
theorem dX7_cart_136 : decode cX7_cart 136 = .ok (.dup2, 1) := by decide +kernel
theorem dX7_cart_137 : decode cX7_cart 137 = .ok (.iaload, 1) := by decide +kernel
theorem dX7_cart_138 : decode cX7_cart 138 = .ok (.iload_n 2, 1) := by decide +kernel
theorem dX7_cart_139 : decode cX7_cart 139 = .ok (.iadd, 1) := by decide +kernel
theorem dX7_cart_140 : decode cX7_cart 140 = .ok (.iastore, 1) := by decide +kernel
theorem dX7_cart_141 : decode cX7_cart 141 = .ok (.aload_n 0, 1) := by decide +kernel
theorem dX7_cart_142 : decode cX7_cart 142 = .ok (.getfield 7, 3) := by decide +kernel
theorem dX7_cart_145 : decode cX7_cart 145 = .ok (.bipush 76, 2) := by decide +kernel
theorem dX7_cart_147 : decode cX7_cart 147 = .ok (.iconst 5, 1) := by decide +kernel
theorem dX7_cart_148 : decode cX7_cart 148 = .ok (.iload_n 1, 1) := by decide +kernel
theorem dX7_cart_149 : decode cX7_cart 149 = .ok (.imul, 1) := by decide +kernel
theorem dX7_cart_150 : decode cX7_cart 150 = .ok (.iadd, 1) := by decide +kernel
theorem dX7_cart_151 : decode cX7_cart 151 = .ok (.iconst 2, 1) := by decide +kernel
theorem dX7_cart_152 : decode cX7_cart 152 = .ok (.iadd, 1) := by decide +kernel
theorem dX7_cart_153 : decode cX7_cart 153 = .ok (.dup2, 1) := by decide +kernel
theorem dX7_cart_154 : decode cX7_cart 154 = .ok (.iaload, 1) := by decide +kernel
theorem dX7_cart_155 : decode cX7_cart 155 = .ok (.iload_n 2, 1) := by decide +kernel
theorem dX7_cart_156 : decode cX7_cart 156 = .ok (.isub, 1) := by decide +kernel
theorem dX7_cart_157 : decode cX7_cart 157 = .ok (.iastore, 1) := by decide +kernel
theorem dX7_cart_158 : decode cX7_cart 158 = .ok (.aload_n 0, 1) := by decide +kernel
theorem dX7_cart_159 : decode cX7_cart 159 = .ok (.iload_n 1, 1) := by decide +kernel
theorem dX7_cart_160 : decode cX7_cart 160 = .ok (.iconst 2, 1) := by decide +kernel
theorem dX7_cart_161 : decode cX7_cart 161 = .ok (.invokevirtual 75, 3) := by decide +kernel
theorem dX7_cart_164 : decode cX7_cart 164 = .ok (.ifCond .ne 8, 3) := by decide +kernel
theorem dX7_cart_167 : decode cX7_cart 167 = .ok (.aload_n 0, 1) := by decide +kernel
theorem dX7_cart_168 : decode cX7_cart 168 = .ok (.iload_n 1, 1) := by decide +kernel
theorem dX7_cart_169 : decode cX7_cart 169 = .ok (.invokevirtual 78, 3) := by decide +kernel
theorem dX7_cart_172 : decode cX7_cart 172 = .ok (.iload_n 3, 1) := by decide +kernel
theorem dX7_cart_173 : decode cX7_cart 173 = .ok (.ireturn, 1) := by decide +kernel
theorem dX7_repair_0 : decode cX7_repair 0 = .ok (.aload_n 0, 1) := by decide +kernel
theorem dX7_repair_1 : decode cX7_repair 1 = .ok (.iload_n 1, 1) := by decide +kernel
theorem dX7_repair_2 : decode cX7_repair 2 = .ok (.invokevirtual 48, 3) := by decide +kernel
theorem dX7_repair_5 : decode cX7_repair 5 = .ok (.ifCond .ne 5, 3) := by decide +kernel
theorem dX7_repair_8 : decode cX7_repair 8 = .ok (.iconst (-1), 1) := by decide +kernel
theorem dX7_repair_9 : decode cX7_repair 9 = .ok (.ireturn, 1) := by decide +kernel
theorem dX7_repair_10 : decode cX7_repair 10 = .ok (.aload_n 0, 1) := by decide +kernel
theorem dX7_repair_11 : decode cX7_repair 11 = .ok (.invokevirtual 37, 3) := by decide +kernel
theorem dX7_repair_14 : decode cX7_repair 14 = .ok (.aload_n 0, 1) := by decide +kernel
theorem dX7_repair_15 : decode cX7_repair 15 = .ok (.iload_n 1, 1) := by decide +kernel
theorem dX7_repair_16 : decode cX7_repair 16 = .ok (.iconst 2, 1) := by decide +kernel
theorem dX7_repair_17 : decode cX7_repair 17 = .ok (.invokevirtual 51, 3) := by decide +kernel
theorem dX7_repair_20 : decode cX7_repair 20 = .ok (.istore_n 2, 1) := by decide +kernel
theorem dX7_repair_21 : decode cX7_repair 21 = .ok (.aload_n 0, 1) := by decide +kernel
theorem dX7_repair_22 : decode cX7_repair 22 = .ok (.getfield 7, 3) := by decide +kernel
theorem dX7_repair_25 : decode cX7_repair 25 = .ok (.bipush 24, 2) := by decide +kernel
theorem dX7_repair_27 : decode cX7_repair 27 = .ok (.bipush 7, 2) := by decide +kernel
theorem dX7_repair_29 : decode cX7_repair 29 = .ok (.iload_n 1, 1) := by decide +kernel
theorem dX7_repair_30 : decode cX7_repair 30 = .ok (.imul, 1) := by decide +kernel
theorem dX7_repair_31 : decode cX7_repair 31 = .ok (.iadd, 1) := by decide +kernel
theorem dX7_repair_32 : decode cX7_repair 32 = .ok (.iconst 2, 1) := by decide +kernel
theorem dX7_repair_33 : decode cX7_repair 33 = .ok (.iadd, 1) := by decide +kernel
theorem dX7_repair_34 : decode cX7_repair 34 = .ok (.iconst 0, 1) := by decide +kernel
theorem dX7_repair_35 : decode cX7_repair 35 = .ok (.iastore, 1) := by decide +kernel
theorem dX7_repair_36 : decode cX7_repair 36 = .ok (.iload_n 2, 1) := by decide +kernel
theorem dX7_repair_37 : decode cX7_repair 37 = .ok (.ireturn, 1) := by decide +kernel
theorem dX7_dried_0 : decode cX7_dried 0 = .ok (.iload_n 0, 1) := by decide +kernel
theorem dX7_dried_1 : decode cX7_dried 1 = .ok (.bipush 64, 2) := by decide +kernel
theorem dX7_dried_3 : decode cX7_dried 3 = .ok (.iload_n 2, 1) := by decide +kernel
theorem dX7_dried_4 : decode cX7_dried 4 = .ok (.iload_n 1, 1) := by decide +kernel
theorem dX7_dried_5 : decode cX7_dried 5 = .ok (.iconst 1, 1) := by decide +kernel
theorem dX7_dried_6 : decode cX7_dried 6 = .ok (.iadd, 1) := by decide +kernel
theorem dX7_dried_7 : decode cX7_dried 7 = .ok (.imul, 1) := by decide +kernel
theorem dX7_dried_8 : decode cX7_dried 8 = .ok (.isub, 1) := by decide +kernel
theorem dX7_dried_9 : decode cX7_dried 9 = .ok (.imul, 1) := by decide +kernel
theorem dX7_dried_10 : decode cX7_dried 10 = .ok (.bipush 64, 2) := by decide +kernel
theorem dX7_dried_12 : decode cX7_dried 12 = .ok (.idiv, 1) := by decide +kernel
theorem dX7_dried_13 : decode cX7_dried 13 = .ok (.sipush 1500, 3) := by decide +kernel
theorem dX7_dried_16 : decode cX7_dried 16 = .ok (.iload_n 3, 1) := by decide +kernel
theorem dX7_dried_17 : decode cX7_dried 17 = .ok (.imul, 1) := by decide +kernel
theorem dX7_dried_18 : decode cX7_dried 18 = .ok (.iadd, 1) := by decide +kernel
theorem dX7_dried_19 : decode cX7_dried 19 = .ok (.istore 4, 2) := by decide +kernel
theorem dX7_dried_21 : decode cX7_dried 21 = .ok (.iload 4, 2) := by decide +kernel
theorem dX7_dried_23 : decode cX7_dried 23 = .ok (.ldc 71, 2) := by decide +kernel
theorem dX7_dried_25 : decode cX7_dried 25 = .ok (.if_icmp .le 8, 3) := by decide +kernel
theorem dX7_dried_28 : decode cX7_dried 28 = .ok (.ldc 71, 2) := by decide +kernel
theorem dX7_dried_30 : decode cX7_dried 30 = .ok (.goto 5, 3) := by decide +kernel
theorem dX7_dried_33 : decode cX7_dried 33 = .ok (.iload 4, 2) := by decide +kernel
theorem dX7_dried_35 : decode cX7_dried 35 = .ok (.ireturn, 1) := by decide +kernel
theorem dX7_dryStacks_0 : decode cX7_dryStacks 0 = .ok (.iconst 0, 1) := by decide +kernel
theorem dX7_dryStacks_1 : decode cX7_dryStacks 1 = .ok (.istore_n 1, 1) := by decide +kernel
theorem dX7_dryStacks_2 : decode cX7_dryStacks 2 = .ok (.iconst 0, 1) := by decide +kernel
theorem dX7_dryStacks_3 : decode cX7_dryStacks 3 = .ok (.istore_n 2, 1) := by decide +kernel
theorem dX7_dryStacks_4 : decode cX7_dryStacks 4 = .ok (.iload_n 2, 1) := by decide +kernel
theorem dX7_dryStacks_5 : decode cX7_dryStacks 5 = .ok (.aload_n 0, 1) := by decide +kernel
theorem dX7_dryStacks_6 : decode cX7_dryStacks 6 = .ok (.getfield 7, 3) := by decide +kernel
theorem dX7_dryStacks_9 : decode cX7_dryStacks 9 = .ok (.iconst 3, 1) := by decide +kernel
theorem dX7_dryStacks_10 : decode cX7_dryStacks 10 = .ok (.iaload, 1) := by decide +kernel
theorem dX7_dryStacks_11 : decode cX7_dryStacks 11 = .ok (.if_icmp .ge 25, 3) := by decide +kernel
theorem dX7_dryStacks_14 : decode cX7_dryStacks 14 = .ok (.iload_n 1, 1) := by decide +kernel
theorem dX7_dryStacks_15 : decode cX7_dryStacks 15 = .ok (.aload_n 0, 1) := by decide +kernel
theorem dX7_dryStacks_16 : decode cX7_dryStacks 16 = .ok (.iload_n 2, 1) := by decide +kernel
theorem dX7_dryStacks_17 : decode cX7_dryStacks 17 = .ok (.invokevirtual 91, 3) := by decide +kernel
theorem dX7_dryStacks_20 : decode cX7_dryStacks 20 = .ok (.ifCond .eq 7, 3) := by decide +kernel
theorem dX7_dryStacks_23 : decode cX7_dryStacks 23 = .ok (.iconst 1, 1) := by decide +kernel
theorem dX7_dryStacks_24 : decode cX7_dryStacks 24 = .ok (.goto 4, 3) := by decide +kernel
theorem dX7_dryStacks_27 : decode cX7_dryStacks 27 = .ok (.iconst 0, 1) := by decide +kernel
theorem dX7_dryStacks_28 : decode cX7_dryStacks 28 = .ok (.iadd, 1) := by decide +kernel
theorem dX7_dryStacks_29 : decode cX7_dryStacks 29 = .ok (.istore_n 1, 1) := by decide +kernel
theorem dX7_dryStacks_30 : decode cX7_dryStacks 30 = .ok (.iinc 2 1, 3) := by decide +kernel
theorem dX7_dryStacks_33 : decode cX7_dryStacks 33 = .ok (.goto (-29), 3) := by decide +kernel
theorem dX7_dryStacks_36 : decode cX7_dryStacks 36 = .ok (.iload_n 1, 1) := by decide +kernel
theorem dX7_dryStacks_37 : decode cX7_dryStacks 37 = .ok (.ireturn, 1) := by decide +kernel
theorem dX7_day_0 : decode cX7_day 0 = .ok (.iload_n 1, 1) := by decide +kernel
theorem dX7_day_1 : decode cX7_day 1 = .ok (.iconst 0, 1) := by decide +kernel
theorem dX7_day_2 : decode cX7_day 2 = .ok (.bipush 9, 2) := by decide +kernel
theorem dX7_day_4 : decode cX7_day 4 = .ok (.invokestatic 33, 3) := by decide +kernel
theorem dX7_day_7 : decode cX7_day 7 = .ok (.ifCond .eq 13, 3) := by decide +kernel
theorem dX7_day_10 : decode cX7_day 10 = .ok (.iload_n 2, 1) := by decide +kernel
theorem dX7_day_11 : decode cX7_day 11 = .ok (.iconst 0, 1) := by decide +kernel
theorem dX7_day_12 : decode cX7_day 12 = .ok (.bipush 9, 2) := by decide +kernel
theorem dX7_day_14 : decode cX7_day 14 = .ok (.invokestatic 33, 3) := by decide +kernel
theorem dX7_day_17 : decode cX7_day 17 = .ok (.ifCond .ne 5, 3) := by decide +kernel
theorem dX7_day_20 : decode cX7_day 20 = .ok (.iconst (-1), 1) := by decide +kernel
theorem dX7_day_21 : decode cX7_day 21 = .ok (.ireturn, 1) := by decide +kernel
theorem dX7_day_22 : decode cX7_day 22 = .ok (.aload_n 0, 1) := by decide +kernel
theorem dX7_day_23 : decode cX7_day 23 = .ok (.invokevirtual 37, 3) := by decide +kernel
theorem dX7_day_26 : decode cX7_day 26 = .ok (.iconst 0, 1) := by decide +kernel
theorem dX7_day_27 : decode cX7_day 27 = .ok (.istore_n 3, 1) := by decide +kernel
theorem dX7_day_28 : decode cX7_day 28 = .ok (.iload_n 3, 1) := by decide +kernel
theorem dX7_day_29 : decode cX7_day 29 = .ok (.aload_n 0, 1) := by decide +kernel
theorem dX7_day_30 : decode cX7_day 30 = .ok (.getfield 7, 3) := by decide +kernel
theorem dX7_day_33 : decode cX7_day 33 = .ok (.iconst 3, 1) := by decide +kernel
theorem dX7_day_34 : decode cX7_day 34 = .ok (.iaload, 1) := by decide +kernel
theorem dX7_day_35 : decode cX7_day 35 = .ok (.if_icmp .ge 39, 3) := by decide +kernel
theorem dX7_day_38 : decode cX7_day 38 = .ok (.aload_n 0, 1) := by decide +kernel
theorem dX7_day_39 : decode cX7_day 39 = .ok (.getfield 7, 3) := by decide +kernel
theorem dX7_day_42 : decode cX7_day 42 = .ok (.bipush 76, 2) := by decide +kernel
theorem dX7_day_44 : decode cX7_day 44 = .ok (.iconst 5, 1) := by decide +kernel
theorem dX7_day_45 : decode cX7_day 45 = .ok (.iload_n 3, 1) := by decide +kernel
theorem dX7_day_46 : decode cX7_day 46 = .ok (.imul, 1) := by decide +kernel
theorem dX7_day_47 : decode cX7_day 47 = .ok (.iadd, 1) := by decide +kernel
theorem dX7_day_48 : decode cX7_day 48 = .ok (.iconst 3, 1) := by decide +kernel
theorem dX7_day_49 : decode cX7_day 49 = .ok (.iadd, 1) := by decide +kernel
theorem dX7_day_50 : decode cX7_day 50 = .ok (.aload_n 0, 1) := by decide +kernel
theorem dX7_day_51 : decode cX7_day 51 = .ok (.iload_n 3, 1) := by decide +kernel
theorem dX7_day_52 : decode cX7_day 52 = .ok (.iconst 3, 1) := by decide +kernel
theorem dX7_day_53 : decode cX7_day 53 = .ok (.invokevirtual 75, 3) := by decide +kernel
theorem dX7_day_56 : decode cX7_day 56 = .ok (.aload_n 0, 1) := by decide +kernel
theorem dX7_day_57 : decode cX7_day 57 = .ok (.iload_n 3, 1) := by decide +kernel
theorem dX7_day_58 : decode cX7_day 58 = .ok (.iconst 4, 1) := by decide +kernel
theorem dX7_day_59 : decode cX7_day 59 = .ok (.invokevirtual 75, 3) := by decide +kernel
theorem dX7_day_62 : decode cX7_day 62 = .ok (.iload_n 1, 1) := by decide +kernel
theorem dX7_day_63 : decode cX7_day 63 = .ok (.iload_n 2, 1) := by decide +kernel
theorem dX7_day_64 : decode cX7_day 64 = .ok (.invokestatic 94, 3) := by decide +kernel
theorem dX7_day_67 : decode cX7_day 67 = .ok (.iastore, 1) := by decide +kernel
theorem dX7_day_68 : decode cX7_day 68 = .ok (.iinc 3 1, 3) := by decide +kernel
theorem dX7_day_71 : decode cX7_day 71 = .ok (.goto (-43), 3) := by decide +kernel
theorem dX7_day_74 : decode cX7_day 74 = .ok (.aload_n 0, 1) := by decide +kernel
theorem dX7_day_75 : decode cX7_day 75 = .ok (.getfield 7, 3) := by decide +kernel
theorem dX7_day_78 : decode cX7_day 78 = .ok (.iconst 4, 1) := by decide +kernel
theorem dX7_day_79 : decode cX7_day 79 = .ok (.iload_n 2, 1) := by decide +kernel
theorem dX7_day_80 : decode cX7_day 80 = .ok (.iastore, 1) := by decide +kernel
theorem dX7_day_81 : decode cX7_day 81 = .ok (.aload_n 0, 1) := by decide +kernel
theorem dX7_day_82 : decode cX7_day 82 = .ok (.getfield 7, 3) := by decide +kernel
theorem dX7_day_85 : decode cX7_day 85 = .ok (.iconst 5, 1) := by decide +kernel
theorem dX7_day_86 : decode cX7_day 86 = .ok (.dup2, 1) := by decide +kernel
theorem dX7_day_87 : decode cX7_day 87 = .ok (.iaload, 1) := by decide +kernel
theorem dX7_day_88 : decode cX7_day 88 = .ok (.iconst 1, 1) := by decide +kernel
theorem dX7_day_89 : decode cX7_day 89 = .ok (.iadd, 1) := by decide +kernel
theorem dX7_day_90 : decode cX7_day 90 = .ok (.iastore, 1) := by decide +kernel
theorem dX7_day_91 : decode cX7_day 91 = .ok (.aload_n 0, 1) := by decide +kernel
theorem dX7_day_92 : decode cX7_day 92 = .ok (.invokevirtual 98, 3) := by decide +kernel
theorem dX7_day_95 : decode cX7_day 95 = .ok (.ireturn, 1) := by decide +kernel
theorem dX7_endYear_0 : decode cX7_endYear 0 = .ok (.aload_n 0, 1) := by decide +kernel
theorem dX7_endYear_1 : decode cX7_endYear 1 = .ok (.getfield 7, 3) := by decide +kernel
theorem dX7_endYear_4 : decode cX7_endYear 4 = .ok (.iconst 0, 1) := by decide +kernel
theorem dX7_endYear_5 : decode cX7_endYear 5 = .ok (.iaload, 1) := by decide +kernel
theorem dX7_endYear_6 : decode cX7_endYear 6 = .ok (.sipush 999, 3) := by decide +kernel
theorem dX7_endYear_9 : decode cX7_endYear 9 = .ok (.if_icmp .ne 6, 3) := by decide +kernel
theorem dX7_endYear_12 : decode cX7_endYear 12 = .ok (.bipush (-2), 2) := by decide +kernel
theorem dX7_endYear_14 : decode cX7_endYear 14 = .ok (.ireturn, 1) := by decide +kernel
theorem dX7_endYear_15 : decode cX7_endYear 15 = .ok (.aload_n 0, 1) := by decide +kernel
theorem dX7_endYear_16 : decode cX7_endYear 16 = .ok (.invokevirtual 37, 3) := by decide +kernel
theorem dX7_endYear_19 : decode cX7_endYear 19 = .ok (.iconst 0, 1) := by decide +kernel
theorem dX7_endYear_20 : decode cX7_endYear 20 = .ok (.istore_n 1, 1) := by decide +kernel
theorem dX7_endYear_21 : decode cX7_endYear 21 = .ok (.iconst 0, 1) := by decide +kernel
theorem dX7_endYear_22 : decode cX7_endYear 22 = .ok (.istore_n 2, 1) := by decide +kernel
theorem dX7_endYear_23 : decode cX7_endYear 23 = .ok (.iload_n 2, 1) := by decide +kernel
theorem dX7_endYear_24 : decode cX7_endYear 24 = .ok (.aload_n 0, 1) := by decide +kernel
theorem dX7_endYear_25 : decode cX7_endYear 25 = .ok (.getfield 7, 3) := by decide +kernel
theorem dX7_endYear_28 : decode cX7_endYear 28 = .ok (.iconst 3, 1) := by decide +kernel
theorem dX7_endYear_29 : decode cX7_endYear 29 = .ok (.iaload, 1) := by decide +kernel
theorem dX7_endYear_30 : decode cX7_endYear 30 = .ok (.if_icmp .ge 47, 3) := by decide +kernel
theorem dX7_endYear_33 : decode cX7_endYear 33 = .ok (.iload_n 1, 1) := by decide +kernel
theorem dX7_endYear_34 : decode cX7_endYear 34 = .ok (.aload_n 0, 1) := by decide +kernel
theorem dX7_endYear_35 : decode cX7_endYear 35 = .ok (.iload_n 2, 1) := by decide +kernel
theorem dX7_endYear_36 : decode cX7_endYear 36 = .ok (.iconst 2, 1) := by decide +kernel
theorem dX7_endYear_37 : decode cX7_endYear 37 = .ok (.invokevirtual 75, 3) := by decide +kernel
theorem dX7_endYear_40 : decode cX7_endYear 40 = .ok (.iadd, 1) := by decide +kernel
theorem dX7_endYear_41 : decode cX7_endYear 41 = .ok (.istore_n 1, 1) := by decide +kernel
theorem dX7_endYear_42 : decode cX7_endYear 42 = .ok (.aload_n 0, 1) := by decide +kernel
theorem dX7_endYear_43 : decode cX7_endYear 43 = .ok (.getfield 7, 3) := by decide +kernel
theorem dX7_endYear_46 : decode cX7_endYear 46 = .ok (.bipush 24, 2) := by decide +kernel
theorem dX7_endYear_48 : decode cX7_endYear 48 = .ok (.bipush 7, 2) := by decide +kernel
theorem dX7_endYear_50 : decode cX7_endYear 50 = .ok (.aload_n 0, 1) := by decide +kernel
theorem dX7_endYear_51 : decode cX7_endYear 51 = .ok (.iload_n 2, 1) := by decide +kernel
theorem dX7_endYear_52 : decode cX7_endYear 52 = .ok (.iconst 1, 1) := by decide +kernel
theorem dX7_endYear_53 : decode cX7_endYear 53 = .ok (.invokevirtual 75, 3) := by decide +kernel
theorem dX7_endYear_56 : decode cX7_endYear 56 = .ok (.imul, 1) := by decide +kernel
theorem dX7_endYear_57 : decode cX7_endYear 57 = .ok (.iadd, 1) := by decide +kernel
theorem dX7_endYear_58 : decode cX7_endYear 58 = .ok (.bipush 6, 2) := by decide +kernel
theorem dX7_endYear_60 : decode cX7_endYear 60 = .ok (.iadd, 1) := by decide +kernel
theorem dX7_endYear_61 : decode cX7_endYear 61 = .ok (.dup2, 1) := by decide +kernel
theorem dX7_endYear_62 : decode cX7_endYear 62 = .ok (.iaload, 1) := by decide +kernel
theorem dX7_endYear_63 : decode cX7_endYear 63 = .ok (.aload_n 0, 1) := by decide +kernel
theorem dX7_endYear_64 : decode cX7_endYear 64 = .ok (.iload_n 2, 1) := by decide +kernel
theorem dX7_endYear_65 : decode cX7_endYear 65 = .ok (.iconst 2, 1) := by decide +kernel
theorem dX7_endYear_66 : decode cX7_endYear 66 = .ok (.invokevirtual 75, 3) := by decide +kernel
theorem dX7_endYear_69 : decode cX7_endYear 69 = .ok (.iadd, 1) := by decide +kernel
theorem dX7_endYear_70 : decode cX7_endYear 70 = .ok (.iastore, 1) := by decide +kernel
theorem dX7_endYear_71 : decode cX7_endYear 71 = .ok (.iinc 2 1, 3) := by decide +kernel
theorem dX7_endYear_74 : decode cX7_endYear 74 = .ok (.goto (-51), 3) := by decide +kernel
theorem dX7_endYear_77 : decode cX7_endYear 77 = .ok (.aload_n 0, 1) := by decide +kernel
theorem dX7_endYear_78 : decode cX7_endYear 78 = .ok (.getfield 7, 3) := by decide +kernel
theorem dX7_endYear_81 : decode cX7_endYear 81 = .ok (.iconst 3, 1) := by decide +kernel
theorem dX7_endYear_82 : decode cX7_endYear 82 = .ok (.iconst 0, 1) := by decide +kernel
theorem dX7_endYear_83 : decode cX7_endYear 83 = .ok (.iastore, 1) := by decide +kernel
theorem dX7_endYear_84 : decode cX7_endYear 84 = .ok (.bipush 52, 2) := by decide +kernel
theorem dX7_endYear_86 : decode cX7_endYear 86 = .ok (.istore_n 2, 1) := by decide +kernel
theorem dX7_endYear_87 : decode cX7_endYear 87 = .ok (.iload_n 2, 1) := by decide +kernel
theorem dX7_endYear_88 : decode cX7_endYear 88 = .ok (.bipush 76, 2) := by decide +kernel
theorem dX7_endYear_90 : decode cX7_endYear 90 = .ok (.if_icmp .ge 16, 3) := by decide +kernel
theorem dX7_endYear_93 : decode cX7_endYear 93 = .ok (.aload_n 0, 1) := by decide +kernel
theorem dX7_endYear_94 : decode cX7_endYear 94 = .ok (.getfield 7, 3) := by decide +kernel
theorem dX7_endYear_97 : decode cX7_endYear 97 = .ok (.iload_n 2, 1) := by decide +kernel
theorem dX7_endYear_98 : decode cX7_endYear 98 = .ok (.iconst 0, 1) := by decide +kernel
theorem dX7_endYear_99 : decode cX7_endYear 99 = .ok (.iastore, 1) := by decide +kernel
theorem dX7_endYear_100 : decode cX7_endYear 100 = .ok (.iinc 2 1, 3) := by decide +kernel
theorem dX7_endYear_103 : decode cX7_endYear 103 = .ok (.goto (-16), 3) := by decide +kernel
theorem dX7_endYear_106 : decode cX7_endYear 106 = .ok (.aload_n 0, 1) := by decide +kernel
theorem dX7_endYear_107 : decode cX7_endYear 107 = .ok (.getfield 7, 3) := by decide +kernel
theorem dX7_endYear_110 : decode cX7_endYear 110 = .ok (.iconst 4, 1) := by decide +kernel
theorem dX7_endYear_111 : decode cX7_endYear 111 = .ok (.iconst 0, 1) := by decide +kernel
theorem dX7_endYear_112 : decode cX7_endYear 112 = .ok (.iastore, 1) := by decide +kernel
theorem dX7_endYear_113 : decode cX7_endYear 113 = .ok (.aload_n 0, 1) := by decide +kernel
theorem dX7_endYear_114 : decode cX7_endYear 114 = .ok (.getfield 7, 3) := by decide +kernel
theorem dX7_endYear_117 : decode cX7_endYear 117 = .ok (.iconst 0, 1) := by decide +kernel
theorem dX7_endYear_118 : decode cX7_endYear 118 = .ok (.dup2, 1) := by decide +kernel
theorem dX7_endYear_119 : decode cX7_endYear 119 = .ok (.iaload, 1) := by decide +kernel
theorem dX7_endYear_120 : decode cX7_endYear 120 = .ok (.iconst 1, 1) := by decide +kernel
theorem dX7_endYear_121 : decode cX7_endYear 121 = .ok (.iadd, 1) := by decide +kernel
theorem dX7_endYear_122 : decode cX7_endYear 122 = .ok (.iastore, 1) := by decide +kernel
theorem dX7_endYear_123 : decode cX7_endYear 123 = .ok (.iload_n 1, 1) := by decide +kernel
theorem dX7_endYear_124 : decode cX7_endYear 124 = .ok (.ireturn, 1) := by decide +kernel
theorem dX7_take_0 : decode cX7_take 0 = .ok (.iload_n 1, 1) := by decide +kernel
theorem dX7_take_1 : decode cX7_take 1 = .ok (.iconst 0, 1) := by decide +kernel
theorem dX7_take_2 : decode cX7_take 2 = .ok (.iconst 1, 1) := by decide +kernel
theorem dX7_take_3 : decode cX7_take 3 = .ok (.invokestatic 33, 3) := by decide +kernel
theorem dX7_take_6 : decode cX7_take 6 = .ok (.ifCond .ne 5, 3) := by decide +kernel
theorem dX7_take_9 : decode cX7_take 9 = .ok (.iconst (-1), 1) := by decide +kernel
theorem dX7_take_10 : decode cX7_take 10 = .ok (.ireturn, 1) := by decide +kernel
theorem dX7_take_11 : decode cX7_take 11 = .ok (.aload_n 0, 1) := by decide +kernel
theorem dX7_take_12 : decode cX7_take 12 = .ok (.invokevirtual 37, 3) := by decide +kernel
theorem dX7_take_15 : decode cX7_take 15 = .ok (.iconst 0, 1) := by decide +kernel
theorem dX7_take_16 : decode cX7_take 16 = .ok (.istore_n 2, 1) := by decide +kernel
theorem dX7_take_17 : decode cX7_take 17 = .ok (.iload_n 2, 1) := by decide +kernel
theorem dX7_take_18 : decode cX7_take 18 = .ok (.sipush 136, 3) := by decide +kernel
theorem dX7_take_21 : decode cX7_take 21 = .ok (.if_icmp .ge 31, 3) := by decide +kernel
theorem dX7_take_24 : decode cX7_take 24 = .ok (.aload_n 0, 1) := by decide +kernel
theorem dX7_take_25 : decode cX7_take 25 = .ok (.getfield 7, 3) := by decide +kernel
theorem dX7_take_28 : decode cX7_take 28 = .ok (.sipush 138, 3) := by decide +kernel
theorem dX7_take_31 : decode cX7_take 31 = .ok (.sipush 136, 3) := by decide +kernel
theorem dX7_take_34 : decode cX7_take 34 = .ok (.iload_n 1, 1) := by decide +kernel
theorem dX7_take_35 : decode cX7_take 35 = .ok (.imul, 1) := by decide +kernel
theorem dX7_take_36 : decode cX7_take 36 = .ok (.iadd, 1) := by decide +kernel
theorem dX7_take_37 : decode cX7_take 37 = .ok (.iload_n 2, 1) := by decide +kernel
theorem dX7_take_38 : decode cX7_take 38 = .ok (.iadd, 1) := by decide +kernel
theorem dX7_take_39 : decode cX7_take 39 = .ok (.aload_n 0, 1) := by decide +kernel
theorem dX7_take_40 : decode cX7_take 40 = .ok (.getfield 7, 3) := by decide +kernel
theorem dX7_take_43 : decode cX7_take 43 = .ok (.iload_n 2, 1) := by decide +kernel
theorem dX7_take_44 : decode cX7_take 44 = .ok (.iaload, 1) := by decide +kernel
theorem dX7_take_45 : decode cX7_take 45 = .ok (.iastore, 1) := by decide +kernel
theorem dX7_take_46 : decode cX7_take 46 = .ok (.iinc 2 1, 3) := by decide +kernel
theorem dX7_take_49 : decode cX7_take 49 = .ok (.goto (-32), 3) := by decide +kernel
theorem dX7_take_52 : decode cX7_take 52 = .ok (.aload_n 0, 1) := by decide +kernel
theorem dX7_take_53 : decode cX7_take 53 = .ok (.getfield 7, 3) := by decide +kernel
theorem dX7_take_56 : decode cX7_take 56 = .ok (.sipush 136, 3) := by decide +kernel
theorem dX7_take_59 : decode cX7_take 59 = .ok (.iload_n 1, 1) := by decide +kernel
theorem dX7_take_60 : decode cX7_take 60 = .ok (.iadd, 1) := by decide +kernel
theorem dX7_take_61 : decode cX7_take 61 = .ok (.iconst 1, 1) := by decide +kernel
theorem dX7_take_62 : decode cX7_take 62 = .ok (.iastore, 1) := by decide +kernel
theorem dX7_take_63 : decode cX7_take 63 = .ok (.aload_n 0, 1) := by decide +kernel
theorem dX7_take_64 : decode cX7_take 64 = .ok (.getfield 7, 3) := by decide +kernel
theorem dX7_take_67 : decode cX7_take 67 = .ok (.iconst 0, 1) := by decide +kernel
theorem dX7_take_68 : decode cX7_take 68 = .ok (.iaload, 1) := by decide +kernel
theorem dX7_take_69 : decode cX7_take 69 = .ok (.ireturn, 1) := by decide +kernel
theorem dX7_restore_0 : decode cX7_restore 0 = .ok (.iload_n 1, 1) := by decide +kernel
theorem dX7_restore_1 : decode cX7_restore 1 = .ok (.iconst 0, 1) := by decide +kernel
theorem dX7_restore_2 : decode cX7_restore 2 = .ok (.iconst 1, 1) := by decide +kernel
theorem dX7_restore_3 : decode cX7_restore 3 = .ok (.invokestatic 33, 3) := by decide +kernel
theorem dX7_restore_6 : decode cX7_restore 6 = .ok (.ifCond .ne 5, 3) := by decide +kernel
theorem dX7_restore_9 : decode cX7_restore 9 = .ok (.iconst (-1), 1) := by decide +kernel
theorem dX7_restore_10 : decode cX7_restore 10 = .ok (.ireturn, 1) := by decide +kernel
theorem dX7_restore_11 : decode cX7_restore 11 = .ok (.aload_n 0, 1) := by decide +kernel
theorem dX7_restore_12 : decode cX7_restore 12 = .ok (.getfield 7, 3) := by decide +kernel
theorem dX7_restore_15 : decode cX7_restore 15 = .ok (.sipush 136, 3) := by decide +kernel
theorem dX7_restore_18 : decode cX7_restore 18 = .ok (.iload_n 1, 1) := by decide +kernel
theorem dX7_restore_19 : decode cX7_restore 19 = .ok (.iadd, 1) := by decide +kernel
theorem dX7_restore_20 : decode cX7_restore 20 = .ok (.iaload, 1) := by decide +kernel
theorem dX7_restore_21 : decode cX7_restore 21 = .ok (.ifCond .ne 6, 3) := by decide +kernel
theorem dX7_restore_24 : decode cX7_restore 24 = .ok (.bipush (-2), 2) := by decide +kernel
theorem dX7_restore_26 : decode cX7_restore 26 = .ok (.ireturn, 1) := by decide +kernel
theorem dX7_restore_27 : decode cX7_restore 27 = .ok (.aload_n 0, 1) := by decide +kernel
theorem dX7_restore_28 : decode cX7_restore 28 = .ok (.invokevirtual 37, 3) := by decide +kernel
theorem dX7_restore_31 : decode cX7_restore 31 = .ok (.iconst 0, 1) := by decide +kernel
theorem dX7_restore_32 : decode cX7_restore 32 = .ok (.istore_n 2, 1) := by decide +kernel
theorem dX7_restore_33 : decode cX7_restore 33 = .ok (.iload_n 2, 1) := by decide +kernel
theorem dX7_restore_34 : decode cX7_restore 34 = .ok (.sipush 136, 3) := by decide +kernel
theorem dX7_restore_37 : decode cX7_restore 37 = .ok (.if_icmp .ge 31, 3) := by decide +kernel
theorem dX7_restore_40 : decode cX7_restore 40 = .ok (.aload_n 0, 1) := by decide +kernel
theorem dX7_restore_41 : decode cX7_restore 41 = .ok (.getfield 7, 3) := by decide +kernel
theorem dX7_restore_44 : decode cX7_restore 44 = .ok (.iload_n 2, 1) := by decide +kernel
theorem dX7_restore_45 : decode cX7_restore 45 = .ok (.aload_n 0, 1) := by decide +kernel
theorem dX7_restore_46 : decode cX7_restore 46 = .ok (.getfield 7, 3) := by decide +kernel
theorem dX7_restore_49 : decode cX7_restore 49 = .ok (.sipush 138, 3) := by decide +kernel
theorem dX7_restore_52 : decode cX7_restore 52 = .ok (.sipush 136, 3) := by decide +kernel
theorem dX7_restore_55 : decode cX7_restore 55 = .ok (.iload_n 1, 1) := by decide +kernel
theorem dX7_restore_56 : decode cX7_restore 56 = .ok (.imul, 1) := by decide +kernel
theorem dX7_restore_57 : decode cX7_restore 57 = .ok (.iadd, 1) := by decide +kernel
theorem dX7_restore_58 : decode cX7_restore 58 = .ok (.iload_n 2, 1) := by decide +kernel
theorem dX7_restore_59 : decode cX7_restore 59 = .ok (.iadd, 1) := by decide +kernel
theorem dX7_restore_60 : decode cX7_restore 60 = .ok (.iaload, 1) := by decide +kernel
theorem dX7_restore_61 : decode cX7_restore 61 = .ok (.iastore, 1) := by decide +kernel
theorem dX7_restore_62 : decode cX7_restore 62 = .ok (.iinc 2 1, 3) := by decide +kernel
theorem dX7_restore_65 : decode cX7_restore 65 = .ok (.goto (-32), 3) := by decide +kernel
theorem dX7_restore_68 : decode cX7_restore 68 = .ok (.aload_n 0, 1) := by decide +kernel
theorem dX7_restore_69 : decode cX7_restore 69 = .ok (.getfield 7, 3) := by decide +kernel
theorem dX7_restore_72 : decode cX7_restore 72 = .ok (.iconst 0, 1) := by decide +kernel
theorem dX7_restore_73 : decode cX7_restore 73 = .ok (.iaload, 1) := by decide +kernel
theorem dX7_restore_74 : decode cX7_restore 74 = .ok (.ireturn, 1) := by decide +kernel
theorem dX7_undo_0 : decode cX7_undo 0 = .ok (.aload_n 0, 1) := by decide +kernel
theorem dX7_undo_1 : decode cX7_undo 1 = .ok (.getfield 29, 3) := by decide +kernel
theorem dX7_undo_4 : decode cX7_undo 4 = .ok (.ifCond .ne 6, 3) := by decide +kernel
theorem dX7_undo_7 : decode cX7_undo 7 = .ok (.bipush (-2), 2) := by decide +kernel
theorem dX7_undo_9 : decode cX7_undo 9 = .ok (.ireturn, 1) := by decide +kernel
theorem dX7_undo_10 : decode cX7_undo 10 = .ok (.aload_n 0, 1) := by decide +kernel
theorem dX7_undo_11 : decode cX7_undo 11 = .ok (.dup, 1) := by decide +kernel
theorem dX7_undo_12 : decode cX7_undo 12 = .ok (.getfield 29, 3) := by decide +kernel
theorem dX7_undo_15 : decode cX7_undo 15 = .ok (.iconst 1, 1) := by decide +kernel
theorem dX7_undo_16 : decode cX7_undo 16 = .ok (.isub, 1) := by decide +kernel
theorem dX7_undo_17 : decode cX7_undo 17 = .ok (.putfield 29, 3) := by decide +kernel
theorem dX7_undo_20 : decode cX7_undo 20 = .ok (.iconst 0, 1) := by decide +kernel
theorem dX7_undo_21 : decode cX7_undo 21 = .ok (.istore_n 1, 1) := by decide +kernel
theorem dX7_undo_22 : decode cX7_undo 22 = .ok (.iload_n 1, 1) := by decide +kernel
theorem dX7_undo_23 : decode cX7_undo 23 = .ok (.sipush 410, 3) := by decide +kernel
theorem dX7_undo_26 : decode cX7_undo 26 = .ok (.if_icmp .ge 30, 3) := by decide +kernel
theorem dX7_undo_29 : decode cX7_undo 29 = .ok (.aload_n 0, 1) := by decide +kernel
theorem dX7_undo_30 : decode cX7_undo 30 = .ok (.getfield 7, 3) := by decide +kernel
theorem dX7_undo_33 : decode cX7_undo 33 = .ok (.iload_n 1, 1) := by decide +kernel
theorem dX7_undo_34 : decode cX7_undo 34 = .ok (.aload_n 0, 1) := by decide +kernel
theorem dX7_undo_35 : decode cX7_undo 35 = .ok (.getfield 13, 3) := by decide +kernel
theorem dX7_undo_38 : decode cX7_undo 38 = .ok (.sipush 410, 3) := by decide +kernel
theorem dX7_undo_41 : decode cX7_undo 41 = .ok (.aload_n 0, 1) := by decide +kernel
theorem dX7_undo_42 : decode cX7_undo 42 = .ok (.getfield 29, 3) := by decide +kernel
theorem dX7_undo_45 : decode cX7_undo 45 = .ok (.imul, 1) := by decide +kernel
theorem dX7_undo_46 : decode cX7_undo 46 = .ok (.iload_n 1, 1) := by decide +kernel
theorem dX7_undo_47 : decode cX7_undo 47 = .ok (.iadd, 1) := by decide +kernel
theorem dX7_undo_48 : decode cX7_undo 48 = .ok (.iaload, 1) := by decide +kernel
theorem dX7_undo_49 : decode cX7_undo 49 = .ok (.iastore, 1) := by decide +kernel
theorem dX7_undo_50 : decode cX7_undo 50 = .ok (.iinc 1 1, 3) := by decide +kernel
theorem dX7_undo_53 : decode cX7_undo 53 = .ok (.goto (-31), 3) := by decide +kernel
theorem dX7_undo_56 : decode cX7_undo 56 = .ok (.aload_n 0, 1) := by decide +kernel
theorem dX7_undo_57 : decode cX7_undo 57 = .ok (.getfield 29, 3) := by decide +kernel
theorem dX7_undo_60 : decode cX7_undo 60 = .ok (.ireturn, 1) := by decide +kernel
theorem dX7_append_0 : decode cX7_append 0 = .ok (.iload_n 1, 1) := by decide +kernel
theorem dX7_append_1 : decode cX7_append 1 = .ok (.iconst 1, 1) := by decide +kernel
theorem dX7_append_2 : decode cX7_append 2 = .ok (.sipush 255, 3) := by decide +kernel
theorem dX7_append_5 : decode cX7_append 5 = .ok (.invokestatic 33, 3) := by decide +kernel
theorem dX7_append_8 : decode cX7_append 8 = .ok (.ifCond .ne 5, 3) := by decide +kernel
theorem dX7_append_11 : decode cX7_append 11 = .ok (.iconst (-1), 1) := by decide +kernel
theorem dX7_append_12 : decode cX7_append 12 = .ok (.ireturn, 1) := by decide +kernel
theorem dX7_append_13 : decode cX7_append 13 = .ok (.aload_n 0, 1) := by decide +kernel
theorem dX7_append_14 : decode cX7_append 14 = .ok (.getfield 102, 3) := by decide +kernel
theorem dX7_append_17 : decode cX7_append 17 = .ok (.sipush 140, 3) := by decide +kernel
theorem dX7_append_20 : decode cX7_append 20 = .ok (.if_icmp .ne 6, 3) := by decide +kernel
theorem dX7_append_23 : decode cX7_append 23 = .ok (.bipush (-3), 2) := by decide +kernel
theorem dX7_append_25 : decode cX7_append 25 = .ok (.ireturn, 1) := by decide +kernel
theorem dX7_append_26 : decode cX7_append 26 = .ok (.aload_n 0, 1) := by decide +kernel
theorem dX7_append_27 : decode cX7_append 27 = .ok (.getfield 19, 3) := by decide +kernel
theorem dX7_append_30 : decode cX7_append 30 = .ok (.aload_n 0, 1) := by decide +kernel
theorem dX7_append_31 : decode cX7_append 31 = .ok (.getfield 102, 3) := by decide +kernel
theorem dX7_append_34 : decode cX7_append 34 = .ok (.iload_n 1, 1) := by decide +kernel
theorem dX7_append_35 : decode cX7_append 35 = .ok (.iastore, 1) := by decide +kernel
theorem dX7_append_36 : decode cX7_append 36 = .ok (.aload_n 0, 1) := by decide +kernel
theorem dX7_append_37 : decode cX7_append 37 = .ok (.dup, 1) := by decide +kernel
theorem dX7_append_38 : decode cX7_append 38 = .ok (.getfield 102, 3) := by decide +kernel
theorem dX7_append_41 : decode cX7_append 41 = .ok (.iconst 1, 1) := by decide +kernel
theorem dX7_append_42 : decode cX7_append 42 = .ok (.iadd, 1) := by decide +kernel
theorem dX7_append_43 : decode cX7_append 43 = .ok (.putfield 102, 3) := by decide +kernel
theorem dX7_append_46 : decode cX7_append 46 = .ok (.aload_n 0, 1) := by decide +kernel
theorem dX7_append_47 : decode cX7_append 47 = .ok (.getfield 102, 3) := by decide +kernel
theorem dX7_append_50 : decode cX7_append 50 = .ok (.ireturn, 1) := by decide +kernel
theorem dX7_clearText_0 : decode cX7_clearText 0 = .ok (.aload_n 0, 1) := by decide +kernel
theorem dX7_clearText_1 : decode cX7_clearText 1 = .ok (.getfield 102, 3) := by decide +kernel
theorem dX7_clearText_4 : decode cX7_clearText 4 = .ok (.istore_n 1, 1) := by decide +kernel
theorem dX7_clearText_5 : decode cX7_clearText 5 = .ok (.aload_n 0, 1) := by decide +kernel
theorem dX7_clearText_6 : decode cX7_clearText 6 = .ok (.iconst 0, 1) := by decide +kernel
theorem dX7_clearText_7 : decode cX7_clearText 7 = .ok (.putfield 102, 3) := by decide +kernel
theorem dX7_clearText_10 : decode cX7_clearText 10 = .ok (.iload_n 1, 1) := by decide +kernel
theorem dX7_clearText_11 : decode cX7_clearText 11 = .ok (.ireturn, 1) := by decide +kernel
theorem dX7_kindOf_0 : decode cX7_kindOf 0 = .ok (.iload_n 0, 1) := by decide +kernel
theorem dX7_kindOf_1 : decode cX7_kindOf 1 = .ok (.bipush 97, 2) := by decide +kernel
theorem dX7_kindOf_3 : decode cX7_kindOf 3 = .ok (.bipush 122, 2) := by decide +kernel
theorem dX7_kindOf_5 : decode cX7_kindOf 5 = .ok (.invokestatic 33, 3) := by decide +kernel
theorem dX7_kindOf_8 : decode cX7_kindOf 8 = .ok (.ifCond .eq 9, 3) := by decide +kernel
theorem dX7_kindOf_11 : decode cX7_kindOf 11 = .ok (.sipush 1000, 3) := by decide +kernel
theorem dX7_kindOf_14 : decode cX7_kindOf 14 = .ok (.goto 21, 3) := by decide +kernel
theorem dX7_kindOf_17 : decode cX7_kindOf 17 = .ok (.iload_n 0, 1) := by decide +kernel
theorem dX7_kindOf_18 : decode cX7_kindOf 18 = .ok (.bipush 48, 2) := by decide +kernel
theorem dX7_kindOf_20 : decode cX7_kindOf 20 = .ok (.bipush 57, 2) := by decide +kernel
theorem dX7_kindOf_22 : decode cX7_kindOf 22 = .ok (.invokestatic 33, 3) := by decide +kernel
theorem dX7_kindOf_25 : decode cX7_kindOf 25 = .ok (.ifCond .eq 9, 3) := by decide +kernel
theorem dX7_kindOf_28 : decode cX7_kindOf 28 = .ok (.sipush 1001, 3) := by decide +kernel
theorem dX7_kindOf_31 : decode cX7_kindOf 31 = .ok (.goto 4, 3) := by decide +kernel
theorem dX7_kindOf_34 : decode cX7_kindOf 34 = .ok (.iload_n 0, 1) := by decide +kernel
theorem dX7_kindOf_35 : decode cX7_kindOf 35 = .ok (.ireturn, 1) := by decide +kernel
theorem dX7_token_0 : decode cX7_token 0 = .ok (.aload_n 0, 1) := by decide +kernel
theorem dX7_token_1 : decode cX7_token 1 = .ok (.getfield 105, 3) := by decide +kernel
theorem dX7_token_4 : decode cX7_token 4 = .ok (.aload_n 0, 1) := by decide +kernel
theorem dX7_token_5 : decode cX7_token 5 = .ok (.getfield 102, 3) := by decide +kernel
theorem dX7_token_8 : decode cX7_token 8 = .ok (.if_icmp .ge 30, 3) := by decide +kernel
theorem dX7_token_11 : decode cX7_token 11 = .ok (.aload_n 0, 1) := by decide +kernel
theorem dX7_token_12 : decode cX7_token 12 = .ok (.getfield 19, 3) := by decide +kernel
theorem dX7_token_15 : decode cX7_token 15 = .ok (.aload_n 0, 1) := by decide +kernel
theorem dX7_token_16 : decode cX7_token 16 = .ok (.getfield 105, 3) := by decide +kernel
theorem dX7_token_19 : decode cX7_token 19 = .ok (.iaload, 1) := by decide +kernel
theorem dX7_token_20 : decode cX7_token 20 = .ok (.bipush 32, 2) := by decide +kernel
theorem dX7_token_22 : decode cX7_token 22 = .ok (.if_icmp .ne 16, 3) := by decide +kernel
theorem dX7_token_25 : decode cX7_token 25 = .ok (.aload_n 0, 1) := by decide +kernel
theorem dX7_token_26 : decode cX7_token 26 = .ok (.dup, 1) := by decide +kernel
theorem dX7_token_27 : decode cX7_token 27 = .ok (.getfield 105, 3) := by decide +kernel
theorem dX7_token_30 : decode cX7_token 30 = .ok (.iconst 1, 1) := by decide +kernel
theorem dX7_token_31 : decode cX7_token 31 = .ok (.iadd, 1) := by decide +kernel
theorem dX7_token_32 : decode cX7_token 32 = .ok (.putfield 105, 3) := by decide +kernel
theorem dX7_token_35 : decode cX7_token 35 = .ok (.goto (-35), 3) := by decide +kernel
theorem dX7_token_38 : decode cX7_token 38 = .ok (.aload_n 0, 1) := by decide +kernel
theorem dX7_token_39 : decode cX7_token 39 = .ok (.aload_n 0, 1) := by decide +kernel
theorem dX7_token_40 : decode cX7_token 40 = .ok (.getfield 105, 3) := by decide +kernel
theorem dX7_token_43 : decode cX7_token 43 = .ok (.putfield 108, 3) := by decide +kernel
theorem dX7_token_46 : decode cX7_token 46 = .ok (.aload_n 0, 1) := by decide +kernel
theorem dX7_token_47 : decode cX7_token 47 = .ok (.aload_n 0, 1) := by decide +kernel
theorem dX7_token_48 : decode cX7_token 48 = .ok (.getfield 105, 3) := by decide +kernel
theorem dX7_token_51 : decode cX7_token 51 = .ok (.aload_n 0, 1) := by decide +kernel
theorem dX7_token_52 : decode cX7_token 52 = .ok (.getfield 102, 3) := by decide +kernel
theorem dX7_token_55 : decode cX7_token 55 = .ok (.if_icmp .ge 18, 3) := by decide +kernel
theorem dX7_token_58 : decode cX7_token 58 = .ok (.aload_n 0, 1) := by decide +kernel
theorem dX7_token_59 : decode cX7_token 59 = .ok (.getfield 19, 3) := by decide +kernel
theorem dX7_token_62 : decode cX7_token 62 = .ok (.aload_n 0, 1) := by decide +kernel
theorem dX7_token_63 : decode cX7_token 63 = .ok (.getfield 105, 3) := by decide +kernel
theorem dX7_token_66 : decode cX7_token 66 = .ok (.iaload, 1) := by decide +kernel
theorem dX7_token_67 : decode cX7_token 67 = .ok (.invokestatic 111, 3) := by decide +kernel
theorem dX7_token_70 : decode cX7_token 70 = .ok (.goto 4, 3) := by decide +kernel
theorem dX7_token_73 : decode cX7_token 73 = .ok (.iconst (-1), 1) := by decide +kernel
theorem dX7_token_74 : decode cX7_token 74 = .ok (.putfield 114, 3) := by decide +kernel
theorem dX7_token_77 : decode cX7_token 77 = .ok (.aload_n 0, 1) := by decide +kernel
theorem dX7_token_78 : decode cX7_token 78 = .ok (.getfield 114, 3) := by decide +kernel
theorem dX7_token_81 : decode cX7_token 81 = .ok (.ifCond .lt 7, 3) := by decide +kernel
theorem dX7_token_84 : decode cX7_token 84 = .ok (.iconst 1, 1) := by decide +kernel
theorem dX7_token_85 : decode cX7_token 85 = .ok (.goto 4, 3) := by decide +kernel
theorem dX7_token_88 : decode cX7_token 88 = .ok (.iconst 0, 1) := by decide +kernel
theorem dX7_token_89 : decode cX7_token 89 = .ok (.istore_n 1, 1) := by decide +kernel
theorem dX7_token_90 : decode cX7_token 90 = .ok (.iload_n 1, 1) := by decide +kernel
theorem dX7_token_91 : decode cX7_token 91 = .ok (.ifCond .eq 62, 3) := by decide +kernel
theorem dX7_token_94 : decode cX7_token 94 = .ok (.aload_n 0, 1) := by decide +kernel
theorem dX7_token_95 : decode cX7_token 95 = .ok (.dup, 1) := by decide +kernel
theorem dX7_token_96 : decode cX7_token 96 = .ok (.getfield 105, 3) := by decide +kernel
theorem dX7_token_99 : decode cX7_token 99 = .ok (.iconst 1, 1) := by decide +kernel
theorem dX7_token_100 : decode cX7_token 100 = .ok (.iadd, 1) := by decide +kernel
theorem dX7_token_101 : decode cX7_token 101 = .ok (.putfield 105, 3) := by decide +kernel
theorem dX7_token_104 : decode cX7_token 104 = .ok (.aload_n 0, 1) := by decide +kernel
theorem dX7_token_105 : decode cX7_token 105 = .ok (.getfield 114, 3) := by decide +kernel
theorem dX7_token_108 : decode cX7_token 108 = .ok (.sipush 999, 3) := by decide +kernel
theorem dX7_token_111 : decode cX7_token 111 = .ok (.if_icmp .le 37, 3) := by decide +kernel
theorem dX7_token_114 : decode cX7_token 114 = .ok (.aload_n 0, 1) := by decide +kernel
theorem dX7_token_115 : decode cX7_token 115 = .ok (.getfield 105, 3) := by decide +kernel
theorem dX7_token_118 : decode cX7_token 118 = .ok (.aload_n 0, 1) := by decide +kernel
theorem dX7_token_119 : decode cX7_token 119 = .ok (.getfield 102, 3) := by decide +kernel
theorem dX7_token_122 : decode cX7_token 122 = .ok (.if_icmp .ge 26, 3) := by decide +kernel
theorem dX7_token_125 : decode cX7_token 125 = .ok (.aload_n 0, 1) := by decide +kernel
theorem dX7_token_126 : decode cX7_token 126 = .ok (.getfield 19, 3) := by decide +kernel
theorem dX7_token_129 : decode cX7_token 129 = .ok (.aload_n 0, 1) := by decide +kernel
theorem dX7_token_130 : decode cX7_token 130 = .ok (.getfield 105, 3) := by decide +kernel
theorem dX7_token_133 : decode cX7_token 133 = .ok (.iaload, 1) := by decide +kernel
theorem dX7_token_134 : decode cX7_token 134 = .ok (.invokestatic 111, 3) := by decide +kernel
theorem dX7_token_137 : decode cX7_token 137 = .ok (.aload_n 0, 1) := by decide +kernel
theorem dX7_token_138 : decode cX7_token 138 = .ok (.getfield 114, 3) := by decide +kernel
theorem dX7_token_141 : decode cX7_token 141 = .ok (.if_icmp .ne 7, 3) := by decide +kernel
theorem dX7_token_144 : decode cX7_token 144 = .ok (.iconst 1, 1) := by decide +kernel
theorem dX7_token_145 : decode cX7_token 145 = .ok (.goto 4, 3) := by decide +kernel
theorem dX7_token_148 : decode cX7_token 148 = .ok (.iconst 0, 1) := by decide +kernel
theorem dX7_token_149 : decode cX7_token 149 = .ok (.istore_n 1, 1) := by decide +kernel
theorem dX7_token_150 : decode cX7_token 150 = .ok (.goto (-60), 3) := by decide +kernel
theorem dX7_token_153 : decode cX7_token 153 = .ok (.return_, 1) := by decide +kernel
theorem dX7_isWord_0 : decode cX7_isWord 0 = .ok (.aload_n 0, 1) := by decide +kernel
theorem dX7_isWord_1 : decode cX7_isWord 1 = .ok (.getfield 114, 3) := by decide +kernel
theorem dX7_isWord_4 : decode cX7_isWord 4 = .ok (.sipush 1000, 3) := by decide +kernel
theorem dX7_isWord_7 : decode cX7_isWord 7 = .ok (.if_icmp .ne 7, 3) := by decide +kernel
theorem dX7_isWord_10 : decode cX7_isWord 10 = .ok (.iconst 1, 1) := by decide +kernel
theorem dX7_isWord_11 : decode cX7_isWord 11 = .ok (.goto 4, 3) := by decide +kernel
theorem dX7_isWord_14 : decode cX7_isWord 14 = .ok (.iconst 0, 1) := by decide +kernel
theorem dX7_isWord_15 : decode cX7_isWord 15 = .ok (.istore 6, 2) := by decide +kernel
theorem dX7_isWord_17 : decode cX7_isWord 17 = .ok (.iconst 0, 1) := by decide +kernel
theorem dX7_isWord_18 : decode cX7_isWord 18 = .ok (.istore 7, 2) := by decide +kernel
theorem dX7_isWord_20 : decode cX7_isWord 20 = .ok (.iload 7, 2) := by decide +kernel
theorem dX7_isWord_22 : decode cX7_isWord 22 = .ok (.iconst 5, 1) := by decide +kernel
theorem dX7_isWord_23 : decode cX7_isWord 23 = .ok (.if_icmp .ge 118, 3) := by decide +kernel
theorem dX7_isWord_26 : decode cX7_isWord 26 = .ok (.iload 7, 2) := by decide +kernel
theorem dX7_isWord_28 : decode cX7_isWord 28 = .ok (.ifCond .ne 7, 3) := by decide +kernel
theorem dX7_isWord_31 : decode cX7_isWord 31 = .ok (.iload_n 1, 1) := by decide +kernel
theorem dX7_isWord_32 : decode cX7_isWord 32 = .ok (.goto 36, 3) := by decide +kernel
theorem dX7_isWord_35 : decode cX7_isWord 35 = .ok (.iload 7, 2) := by decide +kernel
theorem dX7_isWord_37 : decode cX7_isWord 37 = .ok (.iconst 1, 1) := by decide +kernel
theorem dX7_isWord_38 : decode cX7_isWord 38 = .ok (.if_icmp .ne 7, 3) := by decide +kernel
theorem dX7_isWord_41 : decode cX7_isWord 41 = .ok (.iload_n 2, 1) := by decide +kernel
theorem dX7_isWord_42 : decode cX7_isWord 42 = .ok (.goto 26, 3) := by decide +kernel
theorem dX7_isWord_45 : decode cX7_isWord 45 = .ok (.iload 7, 2) := by decide +kernel
theorem dX7_isWord_47 : decode cX7_isWord 47 = .ok (.iconst 2, 1) := by decide +kernel
theorem dX7_isWord_48 : decode cX7_isWord 48 = .ok (.if_icmp .ne 7, 3) := by decide +kernel
theorem dX7_isWord_51 : decode cX7_isWord 51 = .ok (.iload_n 3, 1) := by decide +kernel
theorem dX7_isWord_52 : decode cX7_isWord 52 = .ok (.goto 16, 3) := by decide +kernel
theorem dX7_isWord_55 : decode cX7_isWord 55 = .ok (.iload 7, 2) := by decide +kernel
theorem dX7_isWord_57 : decode cX7_isWord 57 = .ok (.iconst 3, 1) := by decide +kernel
theorem dX7_isWord_58 : decode cX7_isWord 58 = .ok (.if_icmp .ne 8, 3) := by decide +kernel
theorem dX7_isWord_61 : decode cX7_isWord 61 = .ok (.iload 4, 2) := by decide +kernel
theorem dX7_isWord_63 : decode cX7_isWord 63 = .ok (.goto 5, 3) := by decide +kernel
theorem dX7_isWord_66 : decode cX7_isWord 66 = .ok (.iload 5, 2) := by decide +kernel
theorem dX7_isWord_68 : decode cX7_isWord 68 = .ok (.istore 8, 2) := by decide +kernel
theorem dX7_isWord_70 : decode cX7_isWord 70 = .ok (.iload 6, 2) := by decide +kernel
theorem dX7_isWord_72 : decode cX7_isWord 72 = .ok (.ifCond .eq 60, 3) := by decide +kernel
theorem dX7_isWord_75 : decode cX7_isWord 75 = .ok (.iload 8, 2) := by decide +kernel
theorem dX7_isWord_77 : decode cX7_isWord 77 = .ok (.ifCond .ne 20, 3) := by decide +kernel
theorem dX7_isWord_80 : decode cX7_isWord 80 = .ok (.aload_n 0, 1) := by decide +kernel
theorem dX7_isWord_81 : decode cX7_isWord 81 = .ok (.getfield 108, 3) := by decide +kernel
theorem dX7_isWord_84 : decode cX7_isWord 84 = .ok (.iload 7, 2) := by decide +kernel
theorem dX7_isWord_86 : decode cX7_isWord 86 = .ok (.iadd, 1) := by decide +kernel
theorem dX7_isWord_87 : decode cX7_isWord 87 = .ok (.aload_n 0, 1) := by decide +kernel
theorem dX7_isWord_88 : decode cX7_isWord 88 = .ok (.getfield 105, 3) := by decide +kernel
theorem dX7_isWord_91 : decode cX7_isWord 91 = .ok (.if_icmp .lt 41, 3) := by decide +kernel
theorem dX7_isWord_94 : decode cX7_isWord 94 = .ok (.goto 34, 3) := by decide +kernel
theorem dX7_isWord_97 : decode cX7_isWord 97 = .ok (.aload_n 0, 1) := by decide +kernel
theorem dX7_isWord_98 : decode cX7_isWord 98 = .ok (.getfield 108, 3) := by decide +kernel
theorem dX7_isWord_101 : decode cX7_isWord 101 = .ok (.iload 7, 2) := by decide +kernel
theorem dX7_isWord_103 : decode cX7_isWord 103 = .ok (.iadd, 1) := by decide +kernel
theorem dX7_isWord_104 : decode cX7_isWord 104 = .ok (.aload_n 0, 1) := by decide +kernel
theorem dX7_isWord_105 : decode cX7_isWord 105 = .ok (.getfield 105, 3) := by decide +kernel
theorem dX7_isWord_108 : decode cX7_isWord 108 = .ok (.if_icmp .ge 24, 3) := by decide +kernel
theorem dX7_isWord_111 : decode cX7_isWord 111 = .ok (.aload_n 0, 1) := by decide +kernel
theorem dX7_isWord_112 : decode cX7_isWord 112 = .ok (.getfield 19, 3) := by decide +kernel
theorem dX7_isWord_115 : decode cX7_isWord 115 = .ok (.aload_n 0, 1) := by decide +kernel
theorem dX7_isWord_116 : decode cX7_isWord 116 = .ok (.getfield 108, 3) := by decide +kernel
theorem dX7_isWord_119 : decode cX7_isWord 119 = .ok (.iload 7, 2) := by decide +kernel
theorem dX7_isWord_121 : decode cX7_isWord 121 = .ok (.iadd, 1) := by decide +kernel
theorem dX7_isWord_122 : decode cX7_isWord 122 = .ok (.iaload, 1) := by decide +kernel
theorem dX7_isWord_123 : decode cX7_isWord 123 = .ok (.iload 8, 2) := by decide +kernel
theorem dX7_isWord_125 : decode cX7_isWord 125 = .ok (.if_icmp .ne 7, 3) := by decide +kernel
theorem dX7_isWord_128 : decode cX7_isWord 128 = .ok (.iconst 1, 1) := by decide +kernel
theorem dX7_isWord_129 : decode cX7_isWord 129 = .ok (.goto 4, 3) := by decide +kernel
theorem dX7_isWord_132 : decode cX7_isWord 132 = .ok (.iconst 0, 1) := by decide +kernel
theorem dX7_isWord_133 : decode cX7_isWord 133 = .ok (.istore 6, 2) := by decide +kernel
theorem dX7_isWord_135 : decode cX7_isWord 135 = .ok (.iinc 7 1, 3) := by decide +kernel
theorem dX7_isWord_138 : decode cX7_isWord 138 = .ok (.goto (-118), 3) := by decide +kernel
theorem dX7_isWord_141 : decode cX7_isWord 141 = .ok (.iload 6, 2) := by decide +kernel
theorem dX7_isWord_143 : decode cX7_isWord 143 = .ok (.ifCond .eq 21, 3) := by decide +kernel
theorem dX7_isWord_146 : decode cX7_isWord 146 = .ok (.aload_n 0, 1) := by decide +kernel
theorem dX7_isWord_147 : decode cX7_isWord 147 = .ok (.getfield 105, 3) := by decide +kernel
theorem dX7_isWord_150 : decode cX7_isWord 150 = .ok (.aload_n 0, 1) := by decide +kernel
theorem dX7_isWord_151 : decode cX7_isWord 151 = .ok (.getfield 108, 3) := by decide +kernel
theorem dX7_isWord_154 : decode cX7_isWord 154 = .ok (.isub, 1) := by decide +kernel
theorem dX7_isWord_155 : decode cX7_isWord 155 = .ok (.bipush 6, 2) := by decide +kernel
theorem dX7_isWord_157 : decode cX7_isWord 157 = .ok (.if_icmp .ge 7, 3) := by decide +kernel
theorem dX7_isWord_160 : decode cX7_isWord 160 = .ok (.iconst 1, 1) := by decide +kernel
theorem dX7_isWord_161 : decode cX7_isWord 161 = .ok (.goto 4, 3) := by decide +kernel
theorem dX7_isWord_164 : decode cX7_isWord 164 = .ok (.iconst 0, 1) := by decide +kernel
theorem dX7_isWord_165 : decode cX7_isWord 165 = .ok (.ireturn, 1) := by decide +kernel
theorem dX7_command_0 : decode cX7_command 0 = .ok (.aload_n 0, 1) := by decide +kernel
theorem dX7_command_1 : decode cX7_command 1 = .ok (.bipush 104, 2) := by decide +kernel
theorem dX7_command_3 : decode cX7_command 3 = .ok (.bipush 111, 2) := by decide +kernel
theorem dX7_command_5 : decode cX7_command 5 = .ok (.bipush 117, 2) := by decide +kernel
theorem dX7_command_7 : decode cX7_command 7 = .ok (.bipush 115, 2) := by decide +kernel
theorem dX7_command_9 : decode cX7_command 9 = .ok (.bipush 101, 2) := by decide +kernel
theorem dX7_command_11 : decode cX7_command 11 = .ok (.invokevirtual 117, 3) := by decide +kernel
theorem dX7_command_14 : decode cX7_command 14 = .ok (.ifCond .eq 7, 3) := by decide +kernel
theorem dX7_command_17 : decode cX7_command 17 = .ok (.iconst 0, 1) := by decide +kernel
theorem dX7_command_18 : decode cX7_command 18 = .ok (.goto 125, 3) := by decide +kernel
theorem dX7_command_21 : decode cX7_command 21 = .ok (.aload_n 0, 1) := by decide +kernel
theorem dX7_command_22 : decode cX7_command 22 = .ok (.bipush 98, 2) := by decide +kernel
theorem dX7_command_24 : decode cX7_command 24 = .ok (.bipush 97, 2) := by decide +kernel
theorem dX7_command_26 : decode cX7_command 26 = .ok (.bipush 110, 2) := by decide +kernel
theorem dX7_command_28 : decode cX7_command 28 = .ok (.bipush 107, 2) := by decide +kernel
theorem dX7_command_30 : decode cX7_command 30 = .ok (.iconst 0, 1) := by decide +kernel
theorem dX7_command_31 : decode cX7_command 31 = .ok (.invokevirtual 117, 3) := by decide +kernel
theorem dX7_command_34 : decode cX7_command 34 = .ok (.ifCond .eq 7, 3) := by decide +kernel
theorem dX7_command_37 : decode cX7_command 37 = .ok (.iconst 1, 1) := by decide +kernel
theorem dX7_command_38 : decode cX7_command 38 = .ok (.goto 105, 3) := by decide +kernel
theorem dX7_command_41 : decode cX7_command 41 = .ok (.aload_n 0, 1) := by decide +kernel
theorem dX7_command_42 : decode cX7_command 42 = .ok (.bipush 114, 2) := by decide +kernel
theorem dX7_command_44 : decode cX7_command 44 = .ok (.bipush 105, 2) := by decide +kernel
theorem dX7_command_46 : decode cX7_command 46 = .ok (.bipush 103, 2) := by decide +kernel
theorem dX7_command_48 : decode cX7_command 48 = .ok (.bipush 104, 2) := by decide +kernel
theorem dX7_command_50 : decode cX7_command 50 = .ok (.bipush 116, 2) := by decide +kernel
theorem dX7_command_52 : decode cX7_command 52 = .ok (.invokevirtual 117, 3) := by decide +kernel
theorem dX7_command_55 : decode cX7_command 55 = .ok (.ifCond .eq 7, 3) := by decide +kernel
theorem dX7_command_58 : decode cX7_command 58 = .ok (.iconst 2, 1) := by decide +kernel
theorem dX7_command_59 : decode cX7_command 59 = .ok (.goto 84, 3) := by decide +kernel
theorem dX7_command_62 : decode cX7_command 62 = .ok (.aload_n 0, 1) := by decide +kernel
theorem dX7_command_63 : decode cX7_command 63 = .ok (.bipush 99, 2) := by decide +kernel
theorem dX7_command_65 : decode cX7_command 65 = .ok (.bipush 117, 2) := by decide +kernel
theorem dX7_command_67 : decode cX7_command 67 = .ok (.bipush 116, 2) := by decide +kernel
theorem dX7_command_69 : decode cX7_command 69 = .ok (.iconst 0, 1) := by decide +kernel
theorem dX7_command_70 : decode cX7_command 70 = .ok (.iconst 0, 1) := by decide +kernel
theorem dX7_command_71 : decode cX7_command 71 = .ok (.invokevirtual 117, 3) := by decide +kernel
theorem dX7_command_74 : decode cX7_command 74 = .ok (.ifCond .eq 7, 3) := by decide +kernel
theorem dX7_command_77 : decode cX7_command 77 = .ok (.iconst 3, 1) := by decide +kernel
theorem dX7_command_78 : decode cX7_command 78 = .ok (.goto 65, 3) := by decide +kernel
theorem dX7_command_81 : decode cX7_command 81 = .ok (.aload_n 0, 1) := by decide +kernel
theorem dX7_command_82 : decode cX7_command 82 = .ok (.bipush 116, 2) := by decide +kernel
theorem dX7_command_84 : decode cX7_command 84 = .ok (.bipush 117, 2) := by decide +kernel
theorem dX7_command_86 : decode cX7_command 86 = .ok (.bipush 114, 2) := by decide +kernel
theorem dX7_command_88 : decode cX7_command 88 = .ok (.bipush 110, 2) := by decide +kernel
theorem dX7_command_90 : decode cX7_command 90 = .ok (.iconst 0, 1) := by decide +kernel
theorem dX7_command_91 : decode cX7_command 91 = .ok (.invokevirtual 117, 3) := by decide +kernel
theorem dX7_command_94 : decode cX7_command 94 = .ok (.ifCond .eq 7, 3) := by decide +kernel
theorem dX7_command_97 : decode cX7_command 97 = .ok (.iconst 4, 1) := by decide +kernel
theorem dX7_command_98 : decode cX7_command 98 = .ok (.goto 45, 3) := by decide +kernel
theorem dX7_command_101 : decode cX7_command 101 = .ok (.aload_n 0, 1) := by decide +kernel
theorem dX7_command_102 : decode cX7_command 102 = .ok (.bipush 99, 2) := by decide +kernel
theorem dX7_command_104 : decode cX7_command 104 = .ok (.bipush 97, 2) := by decide +kernel
theorem dX7_command_106 : decode cX7_command 106 = .ok (.bipush 114, 2) := by decide +kernel
theorem dX7_command_108 : decode cX7_command 108 = .ok (.bipush 116, 2) := by decide +kernel
theorem dX7_command_110 : decode cX7_command 110 = .ok (.iconst 0, 1) := by decide +kernel
theorem dX7_command_111 : decode cX7_command 111 = .ok (.invokevirtual 117, 3) := by decide +kernel
theorem dX7_command_114 : decode cX7_command 114 = .ok (.ifCond .eq 7, 3) := by decide +kernel
theorem dX7_command_117 : decode cX7_command 117 = .ok (.iconst 5, 1) := by decide +kernel
theorem dX7_command_118 : decode cX7_command 118 = .ok (.goto 25, 3) := by decide +kernel
theorem dX7_command_121 : decode cX7_command 121 = .ok (.aload_n 0, 1) := by decide +kernel
theorem dX7_command_122 : decode cX7_command 122 = .ok (.bipush 100, 2) := by decide +kernel
theorem dX7_command_124 : decode cX7_command 124 = .ok (.bipush 97, 2) := by decide +kernel
theorem dX7_command_126 : decode cX7_command 126 = .ok (.bipush 121, 2) := by decide +kernel
theorem dX7_command_128 : decode cX7_command 128 = .ok (.iconst 0, 1) := by decide +kernel
theorem dX7_command_129 : decode cX7_command 129 = .ok (.iconst 0, 1) := by decide +kernel
theorem dX7_command_130 : decode cX7_command 130 = .ok (.invokevirtual 117, 3) := by decide +kernel
theorem dX7_command_133 : decode cX7_command 133 = .ok (.ifCond .eq 8, 3) := by decide +kernel
theorem dX7_command_136 : decode cX7_command 136 = .ok (.bipush 6, 2) := by decide +kernel
theorem dX7_command_138 : decode cX7_command 138 = .ok (.goto 5, 3) := by decide +kernel
theorem dX7_command_141 : decode cX7_command 141 = .ok (.bipush (-9), 2) := by decide +kernel
theorem dX7_command_143 : decode cX7_command 143 = .ok (.ireturn, 1) := by decide +kernel
theorem dX7_isNumber_0 : decode cX7_isNumber 0 = .ok (.aload_n 0, 1) := by decide +kernel
theorem dX7_isNumber_1 : decode cX7_isNumber 1 = .ok (.invokevirtual 121, 3) := by decide +kernel
theorem dX7_isNumber_4 : decode cX7_isNumber 4 = .ok (.aload_n 0, 1) := by decide +kernel
theorem dX7_isNumber_5 : decode cX7_isNumber 5 = .ok (.getfield 105, 3) := by decide +kernel
theorem dX7_isNumber_8 : decode cX7_isNumber 8 = .ok (.aload_n 0, 1) := by decide +kernel
theorem dX7_isNumber_9 : decode cX7_isNumber 9 = .ok (.getfield 108, 3) := by decide +kernel
theorem dX7_isNumber_12 : decode cX7_isNumber 12 = .ok (.isub, 1) := by decide +kernel
theorem dX7_isNumber_13 : decode cX7_isNumber 13 = .ok (.istore_n 2, 1) := by decide +kernel
theorem dX7_isNumber_14 : decode cX7_isNumber 14 = .ok (.aload_n 0, 1) := by decide +kernel
theorem dX7_isNumber_15 : decode cX7_isNumber 15 = .ok (.getfield 114, 3) := by decide +kernel
theorem dX7_isNumber_18 : decode cX7_isNumber 18 = .ok (.sipush 1001, 3) := by decide +kernel
theorem dX7_isNumber_21 : decode cX7_isNumber 21 = .ok (.if_icmp .ne 27, 3) := by decide +kernel
theorem dX7_isNumber_24 : decode cX7_isNumber 24 = .ok (.iload_n 2, 1) := by decide +kernel
theorem dX7_isNumber_25 : decode cX7_isNumber 25 = .ok (.iconst 4, 1) := by decide +kernel
theorem dX7_isNumber_26 : decode cX7_isNumber 26 = .ok (.if_icmp .gt 22, 3) := by decide +kernel
theorem dX7_isNumber_29 : decode cX7_isNumber 29 = .ok (.iload_n 2, 1) := by decide +kernel
theorem dX7_isNumber_30 : decode cX7_isNumber 30 = .ok (.iconst 1, 1) := by decide +kernel
theorem dX7_isNumber_31 : decode cX7_isNumber 31 = .ok (.if_icmp .le 19, 3) := by decide +kernel
theorem dX7_isNumber_34 : decode cX7_isNumber 34 = .ok (.aload_n 0, 1) := by decide +kernel
theorem dX7_isNumber_35 : decode cX7_isNumber 35 = .ok (.getfield 19, 3) := by decide +kernel
theorem dX7_isNumber_38 : decode cX7_isNumber 38 = .ok (.aload_n 0, 1) := by decide +kernel
theorem dX7_isNumber_39 : decode cX7_isNumber 39 = .ok (.getfield 108, 3) := by decide +kernel
theorem dX7_isNumber_42 : decode cX7_isNumber 42 = .ok (.iaload, 1) := by decide +kernel
theorem dX7_isNumber_43 : decode cX7_isNumber 43 = .ok (.bipush 48, 2) := by decide +kernel
theorem dX7_isNumber_45 : decode cX7_isNumber 45 = .ok (.if_icmp .ne 5, 3) := by decide +kernel
theorem dX7_isNumber_48 : decode cX7_isNumber 48 = .ok (.iconst 0, 1) := by decide +kernel
theorem dX7_isNumber_49 : decode cX7_isNumber 49 = .ok (.ireturn, 1) := by decide +kernel
theorem dX7_isNumber_50 : decode cX7_isNumber 50 = .ok (.aload_n 0, 1) := by decide +kernel
theorem dX7_isNumber_51 : decode cX7_isNumber 51 = .ok (.getfield 22, 3) := by decide +kernel
theorem dX7_isNumber_54 : decode cX7_isNumber 54 = .ok (.iload_n 1, 1) := by decide +kernel
theorem dX7_isNumber_55 : decode cX7_isNumber 55 = .ok (.iconst 0, 1) := by decide +kernel
theorem dX7_isNumber_56 : decode cX7_isNumber 56 = .ok (.iastore, 1) := by decide +kernel
theorem dX7_isNumber_57 : decode cX7_isNumber 57 = .ok (.aload_n 0, 1) := by decide +kernel
theorem dX7_isNumber_58 : decode cX7_isNumber 58 = .ok (.getfield 108, 3) := by decide +kernel
theorem dX7_isNumber_61 : decode cX7_isNumber 61 = .ok (.istore_n 3, 1) := by decide +kernel
theorem dX7_isNumber_62 : decode cX7_isNumber 62 = .ok (.iload_n 3, 1) := by decide +kernel
theorem dX7_isNumber_63 : decode cX7_isNumber 63 = .ok (.aload_n 0, 1) := by decide +kernel
theorem dX7_isNumber_64 : decode cX7_isNumber 64 = .ok (.getfield 105, 3) := by decide +kernel
theorem dX7_isNumber_67 : decode cX7_isNumber 67 = .ok (.if_icmp .ge 34, 3) := by decide +kernel
theorem dX7_isNumber_70 : decode cX7_isNumber 70 = .ok (.aload_n 0, 1) := by decide +kernel
theorem dX7_isNumber_71 : decode cX7_isNumber 71 = .ok (.getfield 22, 3) := by decide +kernel
theorem dX7_isNumber_74 : decode cX7_isNumber 74 = .ok (.iload_n 1, 1) := by decide +kernel
theorem dX7_isNumber_75 : decode cX7_isNumber 75 = .ok (.bipush 10, 2) := by decide +kernel
theorem dX7_isNumber_77 : decode cX7_isNumber 77 = .ok (.aload_n 0, 1) := by decide +kernel
theorem dX7_isNumber_78 : decode cX7_isNumber 78 = .ok (.getfield 22, 3) := by decide +kernel
theorem dX7_isNumber_81 : decode cX7_isNumber 81 = .ok (.iload_n 1, 1) := by decide +kernel
theorem dX7_isNumber_82 : decode cX7_isNumber 82 = .ok (.iaload, 1) := by decide +kernel
theorem dX7_isNumber_83 : decode cX7_isNumber 83 = .ok (.imul, 1) := by decide +kernel
theorem dX7_isNumber_84 : decode cX7_isNumber 84 = .ok (.aload_n 0, 1) := by decide +kernel
theorem dX7_isNumber_85 : decode cX7_isNumber 85 = .ok (.getfield 19, 3) := by decide +kernel
theorem dX7_isNumber_88 : decode cX7_isNumber 88 = .ok (.iload_n 3, 1) := by decide +kernel
theorem dX7_isNumber_89 : decode cX7_isNumber 89 = .ok (.iaload, 1) := by decide +kernel
theorem dX7_isNumber_90 : decode cX7_isNumber 90 = .ok (.iadd, 1) := by decide +kernel
theorem dX7_isNumber_91 : decode cX7_isNumber 91 = .ok (.bipush 48, 2) := by decide +kernel
theorem dX7_isNumber_93 : decode cX7_isNumber 93 = .ok (.isub, 1) := by decide +kernel
theorem dX7_isNumber_94 : decode cX7_isNumber 94 = .ok (.iastore, 1) := by decide +kernel
theorem dX7_isNumber_95 : decode cX7_isNumber 95 = .ok (.iinc 3 1, 3) := by decide +kernel
theorem dX7_isNumber_98 : decode cX7_isNumber 98 = .ok (.goto (-36), 3) := by decide +kernel
theorem dX7_isNumber_101 : decode cX7_isNumber 101 = .ok (.iconst 1, 1) := by decide +kernel
theorem dX7_isNumber_102 : decode cX7_isNumber 102 = .ok (.ireturn, 1) := by decide +kernel
theorem dX7_does_0 : decode cX7_does 0 = .ok (.iload_n 1, 1) := by decide +kernel
theorem dX7_does_1 : decode cX7_does 1 = .ok (.tableswitch 136 0 5 #[39, 50, 67, 85, 108, 119], 39) := by decide +kernel
theorem dX7_does_40 : decode cX7_does 40 = .ok (.aload_n 0, 1) := by decide +kernel
theorem dX7_does_41 : decode cX7_does 41 = .ok (.aload_n 0, 1) := by decide +kernel
theorem dX7_does_42 : decode cX7_does 42 = .ok (.getfield 22, 3) := by decide +kernel
theorem dX7_does_45 : decode cX7_does 45 = .ok (.iconst 0, 1) := by decide +kernel
theorem dX7_does_46 : decode cX7_does 46 = .ok (.iaload, 1) := by decide +kernel
theorem dX7_does_47 : decode cX7_does 47 = .ok (.invokevirtual 124, 3) := by decide +kernel
theorem dX7_does_50 : decode cX7_does 50 = .ok (.ireturn, 1) := by decide +kernel
theorem dX7_does_51 : decode cX7_does 51 = .ok (.aload_n 0, 1) := by decide +kernel
theorem dX7_does_52 : decode cX7_does 52 = .ok (.aload_n 0, 1) := by decide +kernel
theorem dX7_does_53 : decode cX7_does 53 = .ok (.getfield 22, 3) := by decide +kernel
theorem dX7_does_56 : decode cX7_does 56 = .ok (.iconst 0, 1) := by decide +kernel
theorem dX7_does_57 : decode cX7_does 57 = .ok (.iaload, 1) := by decide +kernel
theorem dX7_does_58 : decode cX7_does 58 = .ok (.aload_n 0, 1) := by decide +kernel
theorem dX7_does_59 : decode cX7_does 59 = .ok (.getfield 22, 3) := by decide +kernel
theorem dX7_does_62 : decode cX7_does 62 = .ok (.iconst 1, 1) := by decide +kernel
theorem dX7_does_63 : decode cX7_does 63 = .ok (.iaload, 1) := by decide +kernel
theorem dX7_does_64 : decode cX7_does 64 = .ok (.invokevirtual 127, 3) := by decide +kernel
theorem dX7_does_67 : decode cX7_does 67 = .ok (.ireturn, 1) := by decide +kernel
theorem dX7_does_68 : decode cX7_does 68 = .ok (.aload_n 0, 1) := by decide +kernel
theorem dX7_does_69 : decode cX7_does 69 = .ok (.aload_n 0, 1) := by decide +kernel
theorem dX7_does_70 : decode cX7_does 70 = .ok (.getfield 22, 3) := by decide +kernel
theorem dX7_does_73 : decode cX7_does 73 = .ok (.iconst 0, 1) := by decide +kernel
theorem dX7_does_74 : decode cX7_does 74 = .ok (.iaload, 1) := by decide +kernel
theorem dX7_does_75 : decode cX7_does 75 = .ok (.aload_n 0, 1) := by decide +kernel
theorem dX7_does_76 : decode cX7_does 76 = .ok (.getfield 22, 3) := by decide +kernel
theorem dX7_does_79 : decode cX7_does 79 = .ok (.iconst 1, 1) := by decide +kernel
theorem dX7_does_80 : decode cX7_does 80 = .ok (.iaload, 1) := by decide +kernel
theorem dX7_does_81 : decode cX7_does 81 = .ok (.iconst 1, 1) := by decide +kernel
theorem dX7_does_82 : decode cX7_does 82 = .ok (.invokevirtual 130, 3) := by decide +kernel
theorem dX7_does_85 : decode cX7_does 85 = .ok (.ireturn, 1) := by decide +kernel
theorem dX7_does_86 : decode cX7_does 86 = .ok (.aload_n 0, 1) := by decide +kernel
theorem dX7_does_87 : decode cX7_does 87 = .ok (.aload_n 0, 1) := by decide +kernel
theorem dX7_does_88 : decode cX7_does 88 = .ok (.getfield 22, 3) := by decide +kernel
theorem dX7_does_91 : decode cX7_does 91 = .ok (.iconst 0, 1) := by decide +kernel
theorem dX7_does_92 : decode cX7_does 92 = .ok (.iaload, 1) := by decide +kernel
theorem dX7_does_93 : decode cX7_does 93 = .ok (.aload_n 0, 1) := by decide +kernel
theorem dX7_does_94 : decode cX7_does 94 = .ok (.getfield 22, 3) := by decide +kernel
theorem dX7_does_97 : decode cX7_does 97 = .ok (.iconst 1, 1) := by decide +kernel
theorem dX7_does_98 : decode cX7_does 98 = .ok (.iaload, 1) := by decide +kernel
theorem dX7_does_99 : decode cX7_does 99 = .ok (.aload_n 0, 1) := by decide +kernel
theorem dX7_does_100 : decode cX7_does 100 = .ok (.getfield 22, 3) := by decide +kernel
theorem dX7_does_103 : decode cX7_does 103 = .ok (.iconst 2, 1) := by decide +kernel
theorem dX7_does_104 : decode cX7_does 104 = .ok (.iaload, 1) := by decide +kernel
theorem dX7_does_105 : decode cX7_does 105 = .ok (.invokevirtual 134, 3) := by decide +kernel
theorem dX7_does_108 : decode cX7_does 108 = .ok (.ireturn, 1) := by decide +kernel
theorem dX7_does_109 : decode cX7_does 109 = .ok (.aload_n 0, 1) := by decide +kernel
theorem dX7_does_110 : decode cX7_does 110 = .ok (.aload_n 0, 1) := by decide +kernel
theorem dX7_does_111 : decode cX7_does 111 = .ok (.getfield 22, 3) := by decide +kernel
theorem dX7_does_114 : decode cX7_does 114 = .ok (.iconst 0, 1) := by decide +kernel
theorem dX7_does_115 : decode cX7_does 115 = .ok (.iaload, 1) := by decide +kernel
theorem dX7_does_116 : decode cX7_does 116 = .ok (.invokevirtual 137, 3) := by decide +kernel
theorem dX7_does_119 : decode cX7_does 119 = .ok (.ireturn, 1) := by decide +kernel
theorem dX7_does_120 : decode cX7_does 120 = .ok (.aload_n 0, 1) := by decide +kernel
theorem dX7_does_121 : decode cX7_does 121 = .ok (.aload_n 0, 1) := by decide +kernel
theorem dX7_does_122 : decode cX7_does 122 = .ok (.getfield 22, 3) := by decide +kernel
theorem dX7_does_125 : decode cX7_does 125 = .ok (.iconst 0, 1) := by decide +kernel
theorem dX7_does_126 : decode cX7_does 126 = .ok (.iaload, 1) := by decide +kernel
theorem dX7_does_127 : decode cX7_does 127 = .ok (.aload_n 0, 1) := by decide +kernel
theorem dX7_does_128 : decode cX7_does 128 = .ok (.getfield 22, 3) := by decide +kernel
theorem dX7_does_131 : decode cX7_does 131 = .ok (.iconst 1, 1) := by decide +kernel
theorem dX7_does_132 : decode cX7_does 132 = .ok (.iaload, 1) := by decide +kernel
theorem dX7_does_133 : decode cX7_does 133 = .ok (.invokevirtual 140, 3) := by decide +kernel
theorem dX7_does_136 : decode cX7_does 136 = .ok (.ireturn, 1) := by decide +kernel
theorem dX7_does_137 : decode cX7_does 137 = .ok (.aload_n 0, 1) := by decide +kernel
theorem dX7_does_138 : decode cX7_does 138 = .ok (.aload_n 0, 1) := by decide +kernel
theorem dX7_does_139 : decode cX7_does 139 = .ok (.getfield 22, 3) := by decide +kernel
theorem dX7_does_142 : decode cX7_does 142 = .ok (.iconst 0, 1) := by decide +kernel
theorem dX7_does_143 : decode cX7_does 143 = .ok (.iaload, 1) := by decide +kernel
theorem dX7_does_144 : decode cX7_does 144 = .ok (.aload_n 0, 1) := by decide +kernel
theorem dX7_does_145 : decode cX7_does 145 = .ok (.getfield 22, 3) := by decide +kernel
theorem dX7_does_148 : decode cX7_does 148 = .ok (.iconst 1, 1) := by decide +kernel
theorem dX7_does_149 : decode cX7_does 149 = .ok (.iaload, 1) := by decide +kernel
theorem dX7_does_150 : decode cX7_does 150 = .ok (.invokevirtual 143, 3) := by decide +kernel
theorem dX7_does_153 : decode cX7_does 153 = .ok (.ireturn, 1) := by decide +kernel
theorem dX7_readsOne_0 : decode cX7_readsOne 0 = .ok (.aload_n 0, 1) := by decide +kernel
theorem dX7_readsOne_1 : decode cX7_readsOne 1 = .ok (.getfield 108, 3) := by decide +kernel
theorem dX7_readsOne_4 : decode cX7_readsOne 4 = .ok (.istore_n 1, 1) := by decide +kernel
theorem dX7_readsOne_5 : decode cX7_readsOne 5 = .ok (.aload_n 0, 1) := by decide +kernel
theorem dX7_readsOne_6 : decode cX7_readsOne 6 = .ok (.invokevirtual 146, 3) := by decide +kernel
theorem dX7_readsOne_9 : decode cX7_readsOne 9 = .ok (.istore_n 2, 1) := by decide +kernel
theorem dX7_readsOne_10 : decode cX7_readsOne 10 = .ok (.iload_n 2, 1) := by decide +kernel
theorem dX7_readsOne_11 : decode cX7_readsOne 11 = .ok (.bipush (-9), 2) := by decide +kernel
theorem dX7_readsOne_13 : decode cX7_readsOne 13 = .ok (.if_icmp .ne 8, 3) := by decide +kernel
theorem dX7_readsOne_16 : decode cX7_readsOne 16 = .ok (.aload_n 0, 1) := by decide +kernel
theorem dX7_readsOne_17 : decode cX7_readsOne 17 = .ok (.getfield 108, 3) := by decide +kernel
theorem dX7_readsOne_20 : decode cX7_readsOne 20 = .ok (.ireturn, 1) := by decide +kernel
theorem dX7_readsOne_21 : decode cX7_readsOne 21 = .ok (.iload_n 2, 1) := by decide +kernel
theorem dX7_readsOne_22 : decode cX7_readsOne 22 = .ok (.ifCond .eq 8, 3) := by decide +kernel
theorem dX7_readsOne_25 : decode cX7_readsOne 25 = .ok (.iload_n 2, 1) := by decide +kernel
theorem dX7_readsOne_26 : decode cX7_readsOne 26 = .ok (.iconst 4, 1) := by decide +kernel
theorem dX7_readsOne_27 : decode cX7_readsOne 27 = .ok (.if_icmp .ne 7, 3) := by decide +kernel
theorem dX7_readsOne_30 : decode cX7_readsOne 30 = .ok (.iconst 1, 1) := by decide +kernel
theorem dX7_readsOne_31 : decode cX7_readsOne 31 = .ok (.goto 13, 3) := by decide +kernel
theorem dX7_readsOne_34 : decode cX7_readsOne 34 = .ok (.iload_n 2, 1) := by decide +kernel
theorem dX7_readsOne_35 : decode cX7_readsOne 35 = .ok (.iconst 3, 1) := by decide +kernel
theorem dX7_readsOne_36 : decode cX7_readsOne 36 = .ok (.if_icmp .ne 7, 3) := by decide +kernel
theorem dX7_readsOne_39 : decode cX7_readsOne 39 = .ok (.iconst 3, 1) := by decide +kernel
theorem dX7_readsOne_40 : decode cX7_readsOne 40 = .ok (.goto 4, 3) := by decide +kernel
theorem dX7_readsOne_43 : decode cX7_readsOne 43 = .ok (.iconst 2, 1) := by decide +kernel
theorem dX7_readsOne_44 : decode cX7_readsOne 44 = .ok (.istore_n 3, 1) := by decide +kernel
theorem dX7_readsOne_45 : decode cX7_readsOne 45 = .ok (.iconst 0, 1) := by decide +kernel
theorem dX7_readsOne_46 : decode cX7_readsOne 46 = .ok (.istore 4, 2) := by decide +kernel
theorem dX7_readsOne_48 : decode cX7_readsOne 48 = .ok (.iload 4, 2) := by decide +kernel
theorem dX7_readsOne_50 : decode cX7_readsOne 50 = .ok (.iload_n 3, 1) := by decide +kernel
theorem dX7_readsOne_51 : decode cX7_readsOne 51 = .ok (.if_icmp .ge 23, 3) := by decide +kernel
theorem dX7_readsOne_54 : decode cX7_readsOne 54 = .ok (.aload_n 0, 1) := by decide +kernel
theorem dX7_readsOne_55 : decode cX7_readsOne 55 = .ok (.iload 4, 2) := by decide +kernel
theorem dX7_readsOne_57 : decode cX7_readsOne 57 = .ok (.invokevirtual 149, 3) := by decide +kernel
theorem dX7_readsOne_60 : decode cX7_readsOne 60 = .ok (.ifCond .ne 8, 3) := by decide +kernel
theorem dX7_readsOne_63 : decode cX7_readsOne 63 = .ok (.aload_n 0, 1) := by decide +kernel
theorem dX7_readsOne_64 : decode cX7_readsOne 64 = .ok (.getfield 108, 3) := by decide +kernel
theorem dX7_readsOne_67 : decode cX7_readsOne 67 = .ok (.ireturn, 1) := by decide +kernel
theorem dX7_readsOne_68 : decode cX7_readsOne 68 = .ok (.iinc 4 1, 3) := by decide +kernel
theorem dX7_readsOne_71 : decode cX7_readsOne 71 = .ok (.goto (-23), 3) := by decide +kernel
theorem dX7_readsOne_74 : decode cX7_readsOne 74 = .ok (.aload_n 0, 1) := by decide +kernel
theorem dX7_readsOne_75 : decode cX7_readsOne 75 = .ok (.invokevirtual 121, 3) := by decide +kernel
theorem dX7_readsOne_78 : decode cX7_readsOne 78 = .ok (.aload_n 0, 1) := by decide +kernel
theorem dX7_readsOne_79 : decode cX7_readsOne 79 = .ok (.getfield 114, 3) := by decide +kernel
theorem dX7_readsOne_82 : decode cX7_readsOne 82 = .ok (.bipush 59, 2) := by decide +kernel
theorem dX7_readsOne_84 : decode cX7_readsOne 84 = .ok (.if_icmp .eq 8, 3) := by decide +kernel
theorem dX7_readsOne_87 : decode cX7_readsOne 87 = .ok (.aload_n 0, 1) := by decide +kernel
theorem dX7_readsOne_88 : decode cX7_readsOne 88 = .ok (.getfield 108, 3) := by decide +kernel
theorem dX7_readsOne_91 : decode cX7_readsOne 91 = .ok (.ireturn, 1) := by decide +kernel
theorem dX7_readsOne_92 : decode cX7_readsOne 92 = .ok (.aload_n 0, 1) := by decide +kernel
theorem dX7_readsOne_93 : decode cX7_readsOne 93 = .ok (.iload_n 2, 1) := by decide +kernel
theorem dX7_readsOne_94 : decode cX7_readsOne 94 = .ok (.invokevirtual 152, 3) := by decide +kernel
theorem dX7_readsOne_97 : decode cX7_readsOne 97 = .ok (.ifCond .ge 7, 3) := by decide +kernel
theorem dX7_readsOne_100 : decode cX7_readsOne 100 = .ok (.iload_n 1, 1) := by decide +kernel
theorem dX7_readsOne_101 : decode cX7_readsOne 101 = .ok (.goto 5, 3) := by decide +kernel
theorem dX7_readsOne_104 : decode cX7_readsOne 104 = .ok (.bipush (-9), 2) := by decide +kernel
theorem dX7_readsOne_106 : decode cX7_readsOne 106 = .ok (.ireturn, 1) := by decide +kernel
theorem dX7_readsAll_0 : decode cX7_readsAll 0 = .ok (.aload_n 0, 1) := by decide +kernel
theorem dX7_readsAll_1 : decode cX7_readsAll 1 = .ok (.iconst 0, 1) := by decide +kernel
theorem dX7_readsAll_2 : decode cX7_readsAll 2 = .ok (.putfield 155, 3) := by decide +kernel
theorem dX7_readsAll_5 : decode cX7_readsAll 5 = .ok (.aload_n 0, 1) := by decide +kernel
theorem dX7_readsAll_6 : decode cX7_readsAll 6 = .ok (.iconst 0, 1) := by decide +kernel
theorem dX7_readsAll_7 : decode cX7_readsAll 7 = .ok (.putfield 105, 3) := by decide +kernel
theorem dX7_readsAll_10 : decode cX7_readsAll 10 = .ok (.aload_n 0, 1) := by decide +kernel
theorem dX7_readsAll_11 : decode cX7_readsAll 11 = .ok (.invokevirtual 121, 3) := by decide +kernel
theorem dX7_readsAll_14 : decode cX7_readsAll 14 = .ok (.aload_n 0, 1) := by decide +kernel
theorem dX7_readsAll_15 : decode cX7_readsAll 15 = .ok (.getfield 114, 3) := by decide +kernel
theorem dX7_readsAll_18 : decode cX7_readsAll 18 = .ok (.ifCond .lt 33, 3) := by decide +kernel
theorem dX7_readsAll_21 : decode cX7_readsAll 21 = .ok (.aload_n 0, 1) := by decide +kernel
theorem dX7_readsAll_22 : decode cX7_readsAll 22 = .ok (.invokevirtual 158, 3) := by decide +kernel
theorem dX7_readsAll_25 : decode cX7_readsAll 25 = .ok (.istore_n 1, 1) := by decide +kernel
theorem dX7_readsAll_26 : decode cX7_readsAll 26 = .ok (.iload_n 1, 1) := by decide +kernel
theorem dX7_readsAll_27 : decode cX7_readsAll 27 = .ok (.bipush (-9), 2) := by decide +kernel
theorem dX7_readsAll_29 : decode cX7_readsAll 29 = .ok (.if_icmp .eq 5, 3) := by decide +kernel
theorem dX7_readsAll_32 : decode cX7_readsAll 32 = .ok (.iload_n 1, 1) := by decide +kernel
theorem dX7_readsAll_33 : decode cX7_readsAll 33 = .ok (.ireturn, 1) := by decide +kernel
theorem dX7_readsAll_34 : decode cX7_readsAll 34 = .ok (.aload_n 0, 1) := by decide +kernel
theorem dX7_readsAll_35 : decode cX7_readsAll 35 = .ok (.dup, 1) := by decide +kernel
theorem dX7_readsAll_36 : decode cX7_readsAll 36 = .ok (.getfield 155, 3) := by decide +kernel
theorem dX7_readsAll_39 : decode cX7_readsAll 39 = .ok (.iconst 1, 1) := by decide +kernel
theorem dX7_readsAll_40 : decode cX7_readsAll 40 = .ok (.iadd, 1) := by decide +kernel
theorem dX7_readsAll_41 : decode cX7_readsAll 41 = .ok (.putfield 155, 3) := by decide +kernel
theorem dX7_readsAll_44 : decode cX7_readsAll 44 = .ok (.aload_n 0, 1) := by decide +kernel
theorem dX7_readsAll_45 : decode cX7_readsAll 45 = .ok (.invokevirtual 121, 3) := by decide +kernel
theorem dX7_readsAll_48 : decode cX7_readsAll 48 = .ok (.goto (-34), 3) := by decide +kernel
theorem dX7_readsAll_51 : decode cX7_readsAll 51 = .ok (.bipush (-9), 2) := by decide +kernel
theorem dX7_readsAll_53 : decode cX7_readsAll 53 = .ok (.ireturn, 1) := by decide +kernel
theorem dX7_run_0 : decode cX7_run 0 = .ok (.iconst 0, 1) := by decide +kernel
theorem dX7_run_1 : decode cX7_run 1 = .ok (.istore_n 1, 1) := by decide +kernel
theorem dX7_run_2 : decode cX7_run 2 = .ok (.iload_n 1, 1) := by decide +kernel
theorem dX7_run_3 : decode cX7_run 3 = .ok (.sipush 410, 3) := by decide +kernel
theorem dX7_run_6 : decode cX7_run 6 = .ok (.if_icmp .ge 21, 3) := by decide +kernel
theorem dX7_run_9 : decode cX7_run 9 = .ok (.aload_n 0, 1) := by decide +kernel
theorem dX7_run_10 : decode cX7_run 10 = .ok (.getfield 16, 3) := by decide +kernel
theorem dX7_run_13 : decode cX7_run 13 = .ok (.iload_n 1, 1) := by decide +kernel
theorem dX7_run_14 : decode cX7_run 14 = .ok (.aload_n 0, 1) := by decide +kernel
theorem dX7_run_15 : decode cX7_run 15 = .ok (.getfield 7, 3) := by decide +kernel
theorem dX7_run_18 : decode cX7_run 18 = .ok (.iload_n 1, 1) := by decide +kernel
theorem dX7_run_19 : decode cX7_run 19 = .ok (.iaload, 1) := by decide +kernel
theorem dX7_run_20 : decode cX7_run 20 = .ok (.iastore, 1) := by decide +kernel
theorem dX7_run_21 : decode cX7_run 21 = .ok (.iinc 1 1, 3) := by decide +kernel
theorem dX7_run_24 : decode cX7_run 24 = .ok (.goto (-22), 3) := by decide +kernel
theorem dX7_run_27 : decode cX7_run 27 = .ok (.aload_n 0, 1) := by decide +kernel
theorem dX7_run_28 : decode cX7_run 28 = .ok (.iconst 1, 1) := by decide +kernel
theorem dX7_run_29 : decode cX7_run 29 = .ok (.putfield 25, 3) := by decide +kernel
theorem dX7_run_32 : decode cX7_run 32 = .ok (.aload_n 0, 1) := by decide +kernel
theorem dX7_run_33 : decode cX7_run 33 = .ok (.invokevirtual 161, 3) := by decide +kernel
theorem dX7_run_36 : decode cX7_run 36 = .ok (.istore_n 1, 1) := by decide +kernel
theorem dX7_run_37 : decode cX7_run 37 = .ok (.aload_n 0, 1) := by decide +kernel
theorem dX7_run_38 : decode cX7_run 38 = .ok (.iconst 0, 1) := by decide +kernel
theorem dX7_run_39 : decode cX7_run 39 = .ok (.putfield 25, 3) := by decide +kernel
theorem dX7_run_42 : decode cX7_run 42 = .ok (.iload_n 1, 1) := by decide +kernel
theorem dX7_run_43 : decode cX7_run 43 = .ok (.bipush (-9), 2) := by decide +kernel
theorem dX7_run_45 : decode cX7_run 45 = .ok (.if_icmp .eq 36, 3) := by decide +kernel
theorem dX7_run_48 : decode cX7_run 48 = .ok (.iconst 0, 1) := by decide +kernel
theorem dX7_run_49 : decode cX7_run 49 = .ok (.istore_n 2, 1) := by decide +kernel
theorem dX7_run_50 : decode cX7_run 50 = .ok (.iload_n 2, 1) := by decide +kernel
theorem dX7_run_51 : decode cX7_run 51 = .ok (.sipush 410, 3) := by decide +kernel
theorem dX7_run_54 : decode cX7_run 54 = .ok (.if_icmp .ge 21, 3) := by decide +kernel
theorem dX7_run_57 : decode cX7_run 57 = .ok (.aload_n 0, 1) := by decide +kernel
theorem dX7_run_58 : decode cX7_run 58 = .ok (.getfield 7, 3) := by decide +kernel
theorem dX7_run_61 : decode cX7_run 61 = .ok (.iload_n 2, 1) := by decide +kernel
theorem dX7_run_62 : decode cX7_run 62 = .ok (.aload_n 0, 1) := by decide +kernel
theorem dX7_run_63 : decode cX7_run 63 = .ok (.getfield 16, 3) := by decide +kernel
theorem dX7_run_66 : decode cX7_run 66 = .ok (.iload_n 2, 1) := by decide +kernel
theorem dX7_run_67 : decode cX7_run 67 = .ok (.iaload, 1) := by decide +kernel
theorem dX7_run_68 : decode cX7_run 68 = .ok (.iastore, 1) := by decide +kernel
theorem dX7_run_69 : decode cX7_run 69 = .ok (.iinc 2 1, 3) := by decide +kernel
theorem dX7_run_72 : decode cX7_run 72 = .ok (.goto (-22), 3) := by decide +kernel
theorem dX7_run_75 : decode cX7_run 75 = .ok (.sipush (-1000), 3) := by decide +kernel
theorem dX7_run_78 : decode cX7_run 78 = .ok (.iload_n 1, 1) := by decide +kernel
theorem dX7_run_79 : decode cX7_run 79 = .ok (.isub, 1) := by decide +kernel
theorem dX7_run_80 : decode cX7_run 80 = .ok (.ireturn, 1) := by decide +kernel
theorem dX7_run_81 : decode cX7_run 81 = .ok (.iconst 0, 1) := by decide +kernel
theorem dX7_run_82 : decode cX7_run 82 = .ok (.istore_n 2, 1) := by decide +kernel
theorem dX7_run_83 : decode cX7_run 83 = .ok (.iload_n 2, 1) := by decide +kernel
theorem dX7_run_84 : decode cX7_run 84 = .ok (.sipush 410, 3) := by decide +kernel
theorem dX7_run_87 : decode cX7_run 87 = .ok (.if_icmp .ge 35, 3) := by decide +kernel
theorem dX7_run_90 : decode cX7_run 90 = .ok (.aload_n 0, 1) := by decide +kernel
theorem dX7_run_91 : decode cX7_run 91 = .ok (.getfield 7, 3) := by decide +kernel
theorem dX7_run_94 : decode cX7_run 94 = .ok (.iload_n 2, 1) := by decide +kernel
theorem dX7_run_95 : decode cX7_run 95 = .ok (.iaload, 1) := by decide +kernel
theorem dX7_run_96 : decode cX7_run 96 = .ok (.istore_n 3, 1) := by decide +kernel
theorem dX7_run_97 : decode cX7_run 97 = .ok (.aload_n 0, 1) := by decide +kernel
theorem dX7_run_98 : decode cX7_run 98 = .ok (.getfield 7, 3) := by decide +kernel
theorem dX7_run_101 : decode cX7_run 101 = .ok (.iload_n 2, 1) := by decide +kernel
theorem dX7_run_102 : decode cX7_run 102 = .ok (.aload_n 0, 1) := by decide +kernel
theorem dX7_run_103 : decode cX7_run 103 = .ok (.getfield 16, 3) := by decide +kernel
theorem dX7_run_106 : decode cX7_run 106 = .ok (.iload_n 2, 1) := by decide +kernel
theorem dX7_run_107 : decode cX7_run 107 = .ok (.iaload, 1) := by decide +kernel
theorem dX7_run_108 : decode cX7_run 108 = .ok (.iastore, 1) := by decide +kernel
theorem dX7_run_109 : decode cX7_run 109 = .ok (.aload_n 0, 1) := by decide +kernel
theorem dX7_run_110 : decode cX7_run 110 = .ok (.getfield 16, 3) := by decide +kernel
theorem dX7_run_113 : decode cX7_run 113 = .ok (.iload_n 2, 1) := by decide +kernel
theorem dX7_run_114 : decode cX7_run 114 = .ok (.iload_n 3, 1) := by decide +kernel
theorem dX7_run_115 : decode cX7_run 115 = .ok (.iastore, 1) := by decide +kernel
theorem dX7_run_116 : decode cX7_run 116 = .ok (.iinc 2 1, 3) := by decide +kernel
theorem dX7_run_119 : decode cX7_run 119 = .ok (.goto (-36), 3) := by decide +kernel
theorem dX7_run_122 : decode cX7_run 122 = .ok (.aload_n 0, 1) := by decide +kernel
theorem dX7_run_123 : decode cX7_run 123 = .ok (.invokevirtual 37, 3) := by decide +kernel
theorem dX7_run_126 : decode cX7_run 126 = .ok (.iconst 0, 1) := by decide +kernel
theorem dX7_run_127 : decode cX7_run 127 = .ok (.istore_n 2, 1) := by decide +kernel
theorem dX7_run_128 : decode cX7_run 128 = .ok (.iload_n 2, 1) := by decide +kernel
theorem dX7_run_129 : decode cX7_run 129 = .ok (.sipush 410, 3) := by decide +kernel
theorem dX7_run_132 : decode cX7_run 132 = .ok (.if_icmp .ge 21, 3) := by decide +kernel
theorem dX7_run_135 : decode cX7_run 135 = .ok (.aload_n 0, 1) := by decide +kernel
theorem dX7_run_136 : decode cX7_run 136 = .ok (.getfield 7, 3) := by decide +kernel
theorem dX7_run_139 : decode cX7_run 139 = .ok (.iload_n 2, 1) := by decide +kernel
theorem dX7_run_140 : decode cX7_run 140 = .ok (.aload_n 0, 1) := by decide +kernel
theorem dX7_run_141 : decode cX7_run 141 = .ok (.getfield 16, 3) := by decide +kernel
theorem dX7_run_144 : decode cX7_run 144 = .ok (.iload_n 2, 1) := by decide +kernel
theorem dX7_run_145 : decode cX7_run 145 = .ok (.iaload, 1) := by decide +kernel
theorem dX7_run_146 : decode cX7_run 146 = .ok (.iastore, 1) := by decide +kernel
theorem dX7_run_147 : decode cX7_run 147 = .ok (.iinc 2 1, 3) := by decide +kernel
theorem dX7_run_150 : decode cX7_run 150 = .ok (.goto (-22), 3) := by decide +kernel
theorem dX7_run_153 : decode cX7_run 153 = .ok (.aload_n 0, 1) := by decide +kernel
theorem dX7_run_154 : decode cX7_run 154 = .ok (.iconst 0, 1) := by decide +kernel
theorem dX7_run_155 : decode cX7_run 155 = .ok (.putfield 102, 3) := by decide +kernel
theorem dX7_run_158 : decode cX7_run 158 = .ok (.aload_n 0, 1) := by decide +kernel
theorem dX7_run_159 : decode cX7_run 159 = .ok (.getfield 155, 3) := by decide +kernel
theorem dX7_run_162 : decode cX7_run 162 = .ok (.ireturn, 1) := by decide +kernel
theorem dX7_count_0 : decode cX7_count 0 = .ok (.iload_n 1, 1) := by decide +kernel
theorem dX7_count_1 : decode cX7_count 1 = .ok (.tableswitch 109 0 9 #[55, 55, 55, 55, 62, 67, 74, 81, 99, 104], 55) := by decide +kernel
theorem dX7_count_56 : decode cX7_count 56 = .ok (.aload_n 0, 1) := by decide +kernel
theorem dX7_count_57 : decode cX7_count 57 = .ok (.getfield 7, 3) := by decide +kernel
theorem dX7_count_60 : decode cX7_count 60 = .ok (.iload_n 1, 1) := by decide +kernel
theorem dX7_count_61 : decode cX7_count 61 = .ok (.iaload, 1) := by decide +kernel
theorem dX7_count_62 : decode cX7_count 62 = .ok (.ireturn, 1) := by decide +kernel
theorem dX7_count_63 : decode cX7_count 63 = .ok (.aload_n 0, 1) := by decide +kernel
theorem dX7_count_64 : decode cX7_count 64 = .ok (.invokevirtual 98, 3) := by decide +kernel
theorem dX7_count_67 : decode cX7_count 67 = .ok (.ireturn, 1) := by decide +kernel
theorem dX7_count_68 : decode cX7_count 68 = .ok (.aload_n 0, 1) := by decide +kernel
theorem dX7_count_69 : decode cX7_count 69 = .ok (.getfield 7, 3) := by decide +kernel
theorem dX7_count_72 : decode cX7_count 72 = .ok (.iconst 4, 1) := by decide +kernel
theorem dX7_count_73 : decode cX7_count 73 = .ok (.iaload, 1) := by decide +kernel
theorem dX7_count_74 : decode cX7_count 74 = .ok (.ireturn, 1) := by decide +kernel
theorem dX7_count_75 : decode cX7_count 75 = .ok (.aload_n 0, 1) := by decide +kernel
theorem dX7_count_76 : decode cX7_count 76 = .ok (.getfield 7, 3) := by decide +kernel
theorem dX7_count_79 : decode cX7_count 79 = .ok (.iconst 5, 1) := by decide +kernel
theorem dX7_count_80 : decode cX7_count 80 = .ok (.iaload, 1) := by decide +kernel
theorem dX7_count_81 : decode cX7_count 81 = .ok (.ireturn, 1) := by decide +kernel
theorem dX7_count_82 : decode cX7_count 82 = .ok (.aload_n 0, 1) := by decide +kernel
theorem dX7_count_83 : decode cX7_count 83 = .ok (.getfield 7, 3) := by decide +kernel
theorem dX7_count_86 : decode cX7_count 86 = .ok (.sipush 136, 3) := by decide +kernel
theorem dX7_count_89 : decode cX7_count 89 = .ok (.iaload, 1) := by decide +kernel
theorem dX7_count_90 : decode cX7_count 90 = .ok (.aload_n 0, 1) := by decide +kernel
theorem dX7_count_91 : decode cX7_count 91 = .ok (.getfield 7, 3) := by decide +kernel
theorem dX7_count_94 : decode cX7_count 94 = .ok (.sipush 137, 3) := by decide +kernel
theorem dX7_count_97 : decode cX7_count 97 = .ok (.iaload, 1) := by decide +kernel
theorem dX7_count_98 : decode cX7_count 98 = .ok (.iadd, 1) := by decide +kernel
theorem dX7_count_99 : decode cX7_count 99 = .ok (.ireturn, 1) := by decide +kernel
theorem dX7_count_100 : decode cX7_count 100 = .ok (.aload_n 0, 1) := by decide +kernel
theorem dX7_count_101 : decode cX7_count 101 = .ok (.getfield 29, 3) := by decide +kernel
theorem dX7_count_104 : decode cX7_count 104 = .ok (.ireturn, 1) := by decide +kernel
theorem dX7_count_105 : decode cX7_count 105 = .ok (.aload_n 0, 1) := by decide +kernel
theorem dX7_count_106 : decode cX7_count 106 = .ok (.getfield 102, 3) := by decide +kernel
theorem dX7_count_109 : decode cX7_count 109 = .ok (.ireturn, 1) := by decide +kernel
theorem dX7_count_110 : decode cX7_count 110 = .ok (.iconst (-1), 1) := by decide +kernel
theorem dX7_count_111 : decode cX7_count 111 = .ok (.ireturn, 1) := by decide +kernel
theorem dX7_banksOf_0 : decode cX7_banksOf 0 = .ok (.iconst 0, 1) := by decide +kernel
theorem dX7_banksOf_1 : decode cX7_banksOf 1 = .ok (.istore_n 2, 1) := by decide +kernel
theorem dX7_banksOf_2 : decode cX7_banksOf 2 = .ok (.iconst 0, 1) := by decide +kernel
theorem dX7_banksOf_3 : decode cX7_banksOf 3 = .ok (.istore_n 3, 1) := by decide +kernel
theorem dX7_banksOf_4 : decode cX7_banksOf 4 = .ok (.iload_n 3, 1) := by decide +kernel
theorem dX7_banksOf_5 : decode cX7_banksOf 5 = .ok (.aload_n 0, 1) := by decide +kernel
theorem dX7_banksOf_6 : decode cX7_banksOf 6 = .ok (.getfield 7, 3) := by decide +kernel
theorem dX7_banksOf_9 : decode cX7_banksOf 9 = .ok (.iconst 2, 1) := by decide +kernel
theorem dX7_banksOf_10 : decode cX7_banksOf 10 = .ok (.iaload, 1) := by decide +kernel
theorem dX7_banksOf_11 : decode cX7_banksOf 11 = .ok (.if_icmp .ge 26, 3) := by decide +kernel
theorem dX7_banksOf_14 : decode cX7_banksOf 14 = .ok (.iload_n 2, 1) := by decide +kernel
theorem dX7_banksOf_15 : decode cX7_banksOf 15 = .ok (.aload_n 0, 1) := by decide +kernel
theorem dX7_banksOf_16 : decode cX7_banksOf 16 = .ok (.iload_n 1, 1) := by decide +kernel
theorem dX7_banksOf_17 : decode cX7_banksOf 17 = .ok (.iload_n 3, 1) := by decide +kernel
theorem dX7_banksOf_18 : decode cX7_banksOf 18 = .ok (.invokevirtual 58, 3) := by decide +kernel
theorem dX7_banksOf_21 : decode cX7_banksOf 21 = .ok (.ifCond .eq 7, 3) := by decide +kernel
theorem dX7_banksOf_24 : decode cX7_banksOf 24 = .ok (.iconst 1, 1) := by decide +kernel
theorem dX7_banksOf_25 : decode cX7_banksOf 25 = .ok (.goto 4, 3) := by decide +kernel
theorem dX7_banksOf_28 : decode cX7_banksOf 28 = .ok (.iconst 0, 1) := by decide +kernel
theorem dX7_banksOf_29 : decode cX7_banksOf 29 = .ok (.iadd, 1) := by decide +kernel
theorem dX7_banksOf_30 : decode cX7_banksOf 30 = .ok (.istore_n 2, 1) := by decide +kernel
theorem dX7_banksOf_31 : decode cX7_banksOf 31 = .ok (.iinc 3 1, 3) := by decide +kernel
theorem dX7_banksOf_34 : decode cX7_banksOf 34 = .ok (.goto (-30), 3) := by decide +kernel
theorem dX7_banksOf_37 : decode cX7_banksOf 37 = .ok (.iload_n 2, 1) := by decide +kernel
theorem dX7_banksOf_38 : decode cX7_banksOf 38 = .ok (.ireturn, 1) := by decide +kernel
theorem dX7_stacksOf_0 : decode cX7_stacksOf 0 = .ok (.iconst 0, 1) := by decide +kernel
theorem dX7_stacksOf_1 : decode cX7_stacksOf 1 = .ok (.istore_n 3, 1) := by decide +kernel
theorem dX7_stacksOf_2 : decode cX7_stacksOf 2 = .ok (.iconst 0, 1) := by decide +kernel
theorem dX7_stacksOf_3 : decode cX7_stacksOf 3 = .ok (.istore 4, 2) := by decide +kernel
theorem dX7_stacksOf_5 : decode cX7_stacksOf 5 = .ok (.iload 4, 2) := by decide +kernel
theorem dX7_stacksOf_7 : decode cX7_stacksOf 7 = .ok (.aload_n 0, 1) := by decide +kernel
theorem dX7_stacksOf_8 : decode cX7_stacksOf 8 = .ok (.getfield 7, 3) := by decide +kernel
theorem dX7_stacksOf_11 : decode cX7_stacksOf 11 = .ok (.iconst 3, 1) := by decide +kernel
theorem dX7_stacksOf_12 : decode cX7_stacksOf 12 = .ok (.iaload, 1) := by decide +kernel
theorem dX7_stacksOf_13 : decode cX7_stacksOf 13 = .ok (.if_icmp .ge 42, 3) := by decide +kernel
theorem dX7_stacksOf_16 : decode cX7_stacksOf 16 = .ok (.iload_n 3, 1) := by decide +kernel
theorem dX7_stacksOf_17 : decode cX7_stacksOf 17 = .ok (.aload_n 0, 1) := by decide +kernel
theorem dX7_stacksOf_18 : decode cX7_stacksOf 18 = .ok (.iload 4, 2) := by decide +kernel
theorem dX7_stacksOf_20 : decode cX7_stacksOf 20 = .ok (.iconst 0, 1) := by decide +kernel
theorem dX7_stacksOf_21 : decode cX7_stacksOf 21 = .ok (.invokevirtual 75, 3) := by decide +kernel
theorem dX7_stacksOf_24 : decode cX7_stacksOf 24 = .ok (.iload_n 1, 1) := by decide +kernel
theorem dX7_stacksOf_25 : decode cX7_stacksOf 25 = .ok (.if_icmp .eq 7, 3) := by decide +kernel
theorem dX7_stacksOf_28 : decode cX7_stacksOf 28 = .ok (.iconst 0, 1) := by decide +kernel
theorem dX7_stacksOf_29 : decode cX7_stacksOf 29 = .ok (.goto 18, 3) := by decide +kernel
theorem dX7_stacksOf_32 : decode cX7_stacksOf 32 = .ok (.iload_n 2, 1) := by decide +kernel
theorem dX7_stacksOf_33 : decode cX7_stacksOf 33 = .ok (.ifCond .eq 13, 3) := by decide +kernel
theorem dX7_stacksOf_36 : decode cX7_stacksOf 36 = .ok (.aload_n 0, 1) := by decide +kernel
theorem dX7_stacksOf_37 : decode cX7_stacksOf 37 = .ok (.iload 4, 2) := by decide +kernel
theorem dX7_stacksOf_39 : decode cX7_stacksOf 39 = .ok (.iconst 2, 1) := by decide +kernel
theorem dX7_stacksOf_40 : decode cX7_stacksOf 40 = .ok (.invokevirtual 75, 3) := by decide +kernel
theorem dX7_stacksOf_43 : decode cX7_stacksOf 43 = .ok (.goto 4, 3) := by decide +kernel
theorem dX7_stacksOf_46 : decode cX7_stacksOf 46 = .ok (.iconst 1, 1) := by decide +kernel
theorem dX7_stacksOf_47 : decode cX7_stacksOf 47 = .ok (.iadd, 1) := by decide +kernel
theorem dX7_stacksOf_48 : decode cX7_stacksOf 48 = .ok (.istore_n 3, 1) := by decide +kernel
theorem dX7_stacksOf_49 : decode cX7_stacksOf 49 = .ok (.iinc 4 1, 3) := by decide +kernel
theorem dX7_stacksOf_52 : decode cX7_stacksOf 52 = .ok (.goto (-47), 3) := by decide +kernel
theorem dX7_stacksOf_55 : decode cX7_stacksOf 55 = .ok (.iload_n 3, 1) := by decide +kernel
theorem dX7_stacksOf_56 : decode cX7_stacksOf 56 = .ok (.ireturn, 1) := by decide +kernel
theorem dX7_household_0 : decode cX7_household 0 = .ok (.aload_n 0, 1) := by decide +kernel
theorem dX7_household_1 : decode cX7_household 1 = .ok (.iload_n 1, 1) := by decide +kernel
theorem dX7_household_2 : decode cX7_household 2 = .ok (.invokevirtual 40, 3) := by decide +kernel
theorem dX7_household_5 : decode cX7_household 5 = .ok (.ifCond .eq 12, 3) := by decide +kernel
theorem dX7_household_8 : decode cX7_household 8 = .ok (.iload_n 2, 1) := by decide +kernel
theorem dX7_household_9 : decode cX7_household 9 = .ok (.iconst 0, 1) := by decide +kernel
theorem dX7_household_10 : decode cX7_household 10 = .ok (.iconst 5, 1) := by decide +kernel
theorem dX7_household_11 : decode cX7_household 11 = .ok (.invokestatic 33, 3) := by decide +kernel
theorem dX7_household_14 : decode cX7_household 14 = .ok (.ifCond .ne 5, 3) := by decide +kernel
theorem dX7_household_17 : decode cX7_household 17 = .ok (.iconst (-1), 1) := by decide +kernel
theorem dX7_household_18 : decode cX7_household 18 = .ok (.ireturn, 1) := by decide +kernel
theorem dX7_household_19 : decode cX7_household 19 = .ok (.iload_n 2, 1) := by decide +kernel
theorem dX7_household_20 : decode cX7_household 20 = .ok (.iconst 3, 1) := by decide +kernel
theorem dX7_household_21 : decode cX7_household 21 = .ok (.if_icmp .ge 12, 3) := by decide +kernel
theorem dX7_household_24 : decode cX7_household 24 = .ok (.aload_n 0, 1) := by decide +kernel
theorem dX7_household_25 : decode cX7_household 25 = .ok (.iload_n 1, 1) := by decide +kernel
theorem dX7_household_26 : decode cX7_household 26 = .ok (.iload_n 2, 1) := by decide +kernel
theorem dX7_household_27 : decode cX7_household 27 = .ok (.invokevirtual 44, 3) := by decide +kernel
theorem dX7_household_30 : decode cX7_household 30 = .ok (.goto 31, 3) := by decide +kernel
theorem dX7_household_33 : decode cX7_household 33 = .ok (.iload_n 2, 1) := by decide +kernel
theorem dX7_household_34 : decode cX7_household 34 = .ok (.iconst 3, 1) := by decide +kernel
theorem dX7_household_35 : decode cX7_household 35 = .ok (.if_icmp .ne 11, 3) := by decide +kernel
theorem dX7_household_38 : decode cX7_household 38 = .ok (.aload_n 0, 1) := by decide +kernel
theorem dX7_household_39 : decode cX7_household 39 = .ok (.iload_n 1, 1) := by decide +kernel
theorem dX7_household_40 : decode cX7_household 40 = .ok (.invokevirtual 164, 3) := by decide +kernel
theorem dX7_household_43 : decode cX7_household 43 = .ok (.goto 18, 3) := by decide +kernel
theorem dX7_household_46 : decode cX7_household 46 = .ok (.aload_n 0, 1) := by decide +kernel
theorem dX7_household_47 : decode cX7_household 47 = .ok (.iload_n 1, 1) := by decide +kernel
theorem dX7_household_48 : decode cX7_household 48 = .ok (.iload_n 2, 1) := by decide +kernel
theorem dX7_household_49 : decode cX7_household 49 = .ok (.iconst 5, 1) := by decide +kernel
theorem dX7_household_50 : decode cX7_household 50 = .ok (.if_icmp .ne 7, 3) := by decide +kernel
theorem dX7_household_53 : decode cX7_household 53 = .ok (.iconst 1, 1) := by decide +kernel
theorem dX7_household_54 : decode cX7_household 54 = .ok (.goto 4, 3) := by decide +kernel
theorem dX7_household_57 : decode cX7_household 57 = .ok (.iconst 0, 1) := by decide +kernel
theorem dX7_household_58 : decode cX7_household 58 = .ok (.invokevirtual 167, 3) := by decide +kernel
theorem dX7_household_61 : decode cX7_household 61 = .ok (.ireturn, 1) := by decide +kernel
theorem dX7_turfsAt_0 : decode cX7_turfsAt 0 = .ok (.iconst 0, 1) := by decide +kernel
theorem dX7_turfsAt_1 : decode cX7_turfsAt 1 = .ok (.istore_n 2, 1) := by decide +kernel
theorem dX7_turfsAt_2 : decode cX7_turfsAt 2 = .ok (.iconst 0, 1) := by decide +kernel
theorem dX7_turfsAt_3 : decode cX7_turfsAt 3 = .ok (.istore_n 3, 1) := by decide +kernel
theorem dX7_turfsAt_4 : decode cX7_turfsAt 4 = .ok (.iload_n 3, 1) := by decide +kernel
theorem dX7_turfsAt_5 : decode cX7_turfsAt 5 = .ok (.aload_n 0, 1) := by decide +kernel
theorem dX7_turfsAt_6 : decode cX7_turfsAt 6 = .ok (.getfield 7, 3) := by decide +kernel
theorem dX7_turfsAt_9 : decode cX7_turfsAt 9 = .ok (.iconst 3, 1) := by decide +kernel
theorem dX7_turfsAt_10 : decode cX7_turfsAt 10 = .ok (.iaload, 1) := by decide +kernel
theorem dX7_turfsAt_11 : decode cX7_turfsAt 11 = .ok (.if_icmp .ge 32, 3) := by decide +kernel
theorem dX7_turfsAt_14 : decode cX7_turfsAt 14 = .ok (.iload_n 2, 1) := by decide +kernel
theorem dX7_turfsAt_15 : decode cX7_turfsAt 15 = .ok (.aload_n 0, 1) := by decide +kernel
theorem dX7_turfsAt_16 : decode cX7_turfsAt 16 = .ok (.iload_n 3, 1) := by decide +kernel
theorem dX7_turfsAt_17 : decode cX7_turfsAt 17 = .ok (.iconst 1, 1) := by decide +kernel
theorem dX7_turfsAt_18 : decode cX7_turfsAt 18 = .ok (.invokevirtual 75, 3) := by decide +kernel
theorem dX7_turfsAt_21 : decode cX7_turfsAt 21 = .ok (.iload_n 1, 1) := by decide +kernel
theorem dX7_turfsAt_22 : decode cX7_turfsAt 22 = .ok (.if_icmp .ne 12, 3) := by decide +kernel
theorem dX7_turfsAt_25 : decode cX7_turfsAt 25 = .ok (.aload_n 0, 1) := by decide +kernel
theorem dX7_turfsAt_26 : decode cX7_turfsAt 26 = .ok (.iload_n 3, 1) := by decide +kernel
theorem dX7_turfsAt_27 : decode cX7_turfsAt 27 = .ok (.iconst 2, 1) := by decide +kernel
theorem dX7_turfsAt_28 : decode cX7_turfsAt 28 = .ok (.invokevirtual 75, 3) := by decide +kernel
theorem dX7_turfsAt_31 : decode cX7_turfsAt 31 = .ok (.goto 4, 3) := by decide +kernel
theorem dX7_turfsAt_34 : decode cX7_turfsAt 34 = .ok (.iconst 0, 1) := by decide +kernel
theorem dX7_turfsAt_35 : decode cX7_turfsAt 35 = .ok (.iadd, 1) := by decide +kernel
theorem dX7_turfsAt_36 : decode cX7_turfsAt 36 = .ok (.istore_n 2, 1) := by decide +kernel
theorem dX7_turfsAt_37 : decode cX7_turfsAt 37 = .ok (.iinc 3 1, 3) := by decide +kernel
theorem dX7_turfsAt_40 : decode cX7_turfsAt 40 = .ok (.goto (-36), 3) := by decide +kernel
theorem dX7_turfsAt_43 : decode cX7_turfsAt 43 = .ok (.iload_n 2, 1) := by decide +kernel
theorem dX7_turfsAt_44 : decode cX7_turfsAt 44 = .ok (.ireturn, 1) := by decide +kernel
theorem dX7_bank_0 : decode cX7_bank 0 = .ok (.aload_n 0, 1) := by decide +kernel
theorem dX7_bank_1 : decode cX7_bank 1 = .ok (.iload_n 1, 1) := by decide +kernel
theorem dX7_bank_2 : decode cX7_bank 2 = .ok (.invokevirtual 48, 3) := by decide +kernel
theorem dX7_bank_5 : decode cX7_bank 5 = .ok (.ifCond .eq 13, 3) := by decide +kernel
theorem dX7_bank_8 : decode cX7_bank 8 = .ok (.iload_n 2, 1) := by decide +kernel
theorem dX7_bank_9 : decode cX7_bank 9 = .ok (.iconst 0, 1) := by decide +kernel
theorem dX7_bank_10 : decode cX7_bank 10 = .ok (.bipush 8, 2) := by decide +kernel
theorem dX7_bank_12 : decode cX7_bank 12 = .ok (.invokestatic 33, 3) := by decide +kernel
theorem dX7_bank_15 : decode cX7_bank 15 = .ok (.ifCond .ne 5, 3) := by decide +kernel
theorem dX7_bank_18 : decode cX7_bank 18 = .ok (.iconst (-1), 1) := by decide +kernel
theorem dX7_bank_19 : decode cX7_bank 19 = .ok (.ireturn, 1) := by decide +kernel
theorem dX7_bank_20 : decode cX7_bank 20 = .ok (.iload_n 2, 1) := by decide +kernel
theorem dX7_bank_21 : decode cX7_bank 21 = .ok (.tableswitch 80 3 8 #[39, 45, 52, 59, 65, 72], 39) := by decide +kernel
theorem dX7_bank_60 : decode cX7_bank 60 = .ok (.aload_n 0, 1) := by decide +kernel
theorem dX7_bank_61 : decode cX7_bank 61 = .ok (.iload_n 1, 1) := by decide +kernel
theorem dX7_bank_62 : decode cX7_bank 62 = .ok (.invokevirtual 88, 3) := by decide +kernel
theorem dX7_bank_65 : decode cX7_bank 65 = .ok (.ireturn, 1) := by decide +kernel
theorem dX7_bank_66 : decode cX7_bank 66 = .ok (.aload_n 0, 1) := by decide +kernel
theorem dX7_bank_67 : decode cX7_bank 67 = .ok (.iload_n 1, 1) := by decide +kernel
theorem dX7_bank_68 : decode cX7_bank 68 = .ok (.iconst 3, 1) := by decide +kernel
theorem dX7_bank_69 : decode cX7_bank 69 = .ok (.invokevirtual 51, 3) := by decide +kernel
theorem dX7_bank_72 : decode cX7_bank 72 = .ok (.ireturn, 1) := by decide +kernel
theorem dX7_bank_73 : decode cX7_bank 73 = .ok (.aload_n 0, 1) := by decide +kernel
theorem dX7_bank_74 : decode cX7_bank 74 = .ok (.iload_n 1, 1) := by decide +kernel
theorem dX7_bank_75 : decode cX7_bank 75 = .ok (.iconst 4, 1) := by decide +kernel
theorem dX7_bank_76 : decode cX7_bank 76 = .ok (.invokevirtual 51, 3) := by decide +kernel
theorem dX7_bank_79 : decode cX7_bank 79 = .ok (.ireturn, 1) := by decide +kernel
theorem dX7_bank_80 : decode cX7_bank 80 = .ok (.aload_n 0, 1) := by decide +kernel
theorem dX7_bank_81 : decode cX7_bank 81 = .ok (.iload_n 1, 1) := by decide +kernel
theorem dX7_bank_82 : decode cX7_bank 82 = .ok (.invokevirtual 171, 3) := by decide +kernel
theorem dX7_bank_85 : decode cX7_bank 85 = .ok (.ireturn, 1) := by decide +kernel
theorem dX7_bank_86 : decode cX7_bank 86 = .ok (.aload_n 0, 1) := by decide +kernel
theorem dX7_bank_87 : decode cX7_bank 87 = .ok (.iload_n 1, 1) := by decide +kernel
theorem dX7_bank_88 : decode cX7_bank 88 = .ok (.iconst 5, 1) := by decide +kernel
theorem dX7_bank_89 : decode cX7_bank 89 = .ok (.invokevirtual 51, 3) := by decide +kernel
theorem dX7_bank_92 : decode cX7_bank 92 = .ok (.ireturn, 1) := by decide +kernel
theorem dX7_bank_93 : decode cX7_bank 93 = .ok (.aload_n 0, 1) := by decide +kernel
theorem dX7_bank_94 : decode cX7_bank 94 = .ok (.iload_n 1, 1) := by decide +kernel
theorem dX7_bank_95 : decode cX7_bank 95 = .ok (.bipush 6, 2) := by decide +kernel
theorem dX7_bank_97 : decode cX7_bank 97 = .ok (.invokevirtual 51, 3) := by decide +kernel
theorem dX7_bank_100 : decode cX7_bank 100 = .ok (.ireturn, 1) := by decide +kernel
theorem dX7_bank_101 : decode cX7_bank 101 = .ok (.aload_n 0, 1) := by decide +kernel
theorem dX7_bank_102 : decode cX7_bank 102 = .ok (.iload_n 1, 1) := by decide +kernel
theorem dX7_bank_103 : decode cX7_bank 103 = .ok (.iload_n 2, 1) := by decide +kernel
theorem dX7_bank_104 : decode cX7_bank 104 = .ok (.invokevirtual 51, 3) := by decide +kernel
theorem dX7_bank_107 : decode cX7_bank 107 = .ok (.ireturn, 1) := by decide +kernel
theorem dX7_right_0 : decode cX7_right 0 = .ok (.aload_n 0, 1) := by decide +kernel
theorem dX7_right_1 : decode cX7_right 1 = .ok (.iload_n 1, 1) := by decide +kernel
theorem dX7_right_2 : decode cX7_right 2 = .ok (.invokevirtual 40, 3) := by decide +kernel
theorem dX7_right_5 : decode cX7_right 5 = .ok (.ifCond .eq 20, 3) := by decide +kernel
theorem dX7_right_8 : decode cX7_right 8 = .ok (.aload_n 0, 1) := by decide +kernel
theorem dX7_right_9 : decode cX7_right 9 = .ok (.iload_n 2, 1) := by decide +kernel
theorem dX7_right_10 : decode cX7_right 10 = .ok (.invokevirtual 48, 3) := by decide +kernel
theorem dX7_right_13 : decode cX7_right 13 = .ok (.ifCond .eq 12, 3) := by decide +kernel
theorem dX7_right_16 : decode cX7_right 16 = .ok (.iload_n 3, 1) := by decide +kernel
theorem dX7_right_17 : decode cX7_right 17 = .ok (.iconst 0, 1) := by decide +kernel
theorem dX7_right_18 : decode cX7_right 18 = .ok (.iconst 2, 1) := by decide +kernel
theorem dX7_right_19 : decode cX7_right 19 = .ok (.invokestatic 33, 3) := by decide +kernel
theorem dX7_right_22 : decode cX7_right 22 = .ok (.ifCond .ne 5, 3) := by decide +kernel
theorem dX7_right_25 : decode cX7_right 25 = .ok (.iconst (-1), 1) := by decide +kernel
theorem dX7_right_26 : decode cX7_right 26 = .ok (.ireturn, 1) := by decide +kernel
theorem dX7_right_27 : decode cX7_right 27 = .ok (.iload_n 3, 1) := by decide +kernel
theorem dX7_right_28 : decode cX7_right 28 = .ok (.ifCond .ne 12, 3) := by decide +kernel
theorem dX7_right_31 : decode cX7_right 31 = .ok (.aload_n 0, 1) := by decide +kernel
theorem dX7_right_32 : decode cX7_right 32 = .ok (.iload_n 1, 1) := by decide +kernel
theorem dX7_right_33 : decode cX7_right 33 = .ok (.iload_n 2, 1) := by decide +kernel
theorem dX7_right_34 : decode cX7_right 34 = .ok (.invokevirtual 65, 3) := by decide +kernel
theorem dX7_right_37 : decode cX7_right 37 = .ok (.goto 30, 3) := by decide +kernel
theorem dX7_right_40 : decode cX7_right 40 = .ok (.iload_n 3, 1) := by decide +kernel
theorem dX7_right_41 : decode cX7_right 41 = .ok (.iconst 1, 1) := by decide +kernel
theorem dX7_right_42 : decode cX7_right 42 = .ok (.if_icmp .ne 19, 3) := by decide +kernel
theorem dX7_right_45 : decode cX7_right 45 = .ok (.aload_n 0, 1) := by decide +kernel
theorem dX7_right_46 : decode cX7_right 46 = .ok (.getfield 7, 3) := by decide +kernel
theorem dX7_right_49 : decode cX7_right 49 = .ok (.bipush 52, 2) := by decide +kernel
theorem dX7_right_51 : decode cX7_right 51 = .ok (.iconst 4, 1) := by decide +kernel
theorem dX7_right_52 : decode cX7_right 52 = .ok (.iload_n 1, 1) := by decide +kernel
theorem dX7_right_53 : decode cX7_right 53 = .ok (.imul, 1) := by decide +kernel
theorem dX7_right_54 : decode cX7_right 54 = .ok (.iadd, 1) := by decide +kernel
theorem dX7_right_55 : decode cX7_right 55 = .ok (.iload_n 2, 1) := by decide +kernel
theorem dX7_right_56 : decode cX7_right 56 = .ok (.iadd, 1) := by decide +kernel
theorem dX7_right_57 : decode cX7_right 57 = .ok (.iaload, 1) := by decide +kernel
theorem dX7_right_58 : decode cX7_right 58 = .ok (.goto 9, 3) := by decide +kernel
theorem dX7_right_61 : decode cX7_right 61 = .ok (.aload_n 0, 1) := by decide +kernel
theorem dX7_right_62 : decode cX7_right 62 = .ok (.iload_n 1, 1) := by decide +kernel
theorem dX7_right_63 : decode cX7_right 63 = .ok (.iload_n 2, 1) := by decide +kernel
theorem dX7_right_64 : decode cX7_right 64 = .ok (.invokevirtual 68, 3) := by decide +kernel
theorem dX7_right_67 : decode cX7_right 67 = .ok (.ireturn, 1) := by decide +kernel
theorem dX7_stack_0 : decode cX7_stack 0 = .ok (.aload_n 0, 1) := by decide +kernel
theorem dX7_stack_1 : decode cX7_stack 1 = .ok (.iload_n 1, 1) := by decide +kernel
theorem dX7_stack_2 : decode cX7_stack 2 = .ok (.invokevirtual 72, 3) := by decide +kernel
theorem dX7_stack_5 : decode cX7_stack 5 = .ok (.ifCond .eq 13, 3) := by decide +kernel
theorem dX7_stack_8 : decode cX7_stack 8 = .ok (.iload_n 2, 1) := by decide +kernel
theorem dX7_stack_9 : decode cX7_stack 9 = .ok (.iconst 0, 1) := by decide +kernel
theorem dX7_stack_10 : decode cX7_stack 10 = .ok (.bipush 6, 2) := by decide +kernel
theorem dX7_stack_12 : decode cX7_stack 12 = .ok (.invokestatic 33, 3) := by decide +kernel
theorem dX7_stack_15 : decode cX7_stack 15 = .ok (.ifCond .ne 5, 3) := by decide +kernel
theorem dX7_stack_18 : decode cX7_stack 18 = .ok (.iconst (-1), 1) := by decide +kernel
theorem dX7_stack_19 : decode cX7_stack 19 = .ok (.ireturn, 1) := by decide +kernel
theorem dX7_stack_20 : decode cX7_stack 20 = .ok (.iload_n 2, 1) := by decide +kernel
theorem dX7_stack_21 : decode cX7_stack 21 = .ok (.iconst 5, 1) := by decide +kernel
theorem dX7_stack_22 : decode cX7_stack 22 = .ok (.if_icmp .ge 12, 3) := by decide +kernel
theorem dX7_stack_25 : decode cX7_stack 25 = .ok (.aload_n 0, 1) := by decide +kernel
theorem dX7_stack_26 : decode cX7_stack 26 = .ok (.iload_n 1, 1) := by decide +kernel
theorem dX7_stack_27 : decode cX7_stack 27 = .ok (.iload_n 2, 1) := by decide +kernel
theorem dX7_stack_28 : decode cX7_stack 28 = .ok (.invokevirtual 75, 3) := by decide +kernel
theorem dX7_stack_31 : decode cX7_stack 31 = .ok (.goto 29, 3) := by decide +kernel
theorem dX7_stack_34 : decode cX7_stack 34 = .ok (.iload_n 2, 1) := by decide +kernel
theorem dX7_stack_35 : decode cX7_stack 35 = .ok (.iconst 5, 1) := by decide +kernel
theorem dX7_stack_36 : decode cX7_stack 36 = .ok (.if_icmp .ne 11, 3) := by decide +kernel
theorem dX7_stack_39 : decode cX7_stack 39 = .ok (.aload_n 0, 1) := by decide +kernel
theorem dX7_stack_40 : decode cX7_stack 40 = .ok (.iload_n 1, 1) := by decide +kernel
theorem dX7_stack_41 : decode cX7_stack 41 = .ok (.invokevirtual 82, 3) := by decide +kernel
theorem dX7_stack_44 : decode cX7_stack 44 = .ok (.goto 16, 3) := by decide +kernel
theorem dX7_stack_47 : decode cX7_stack 47 = .ok (.aload_n 0, 1) := by decide +kernel
theorem dX7_stack_48 : decode cX7_stack 48 = .ok (.iload_n 1, 1) := by decide +kernel
theorem dX7_stack_49 : decode cX7_stack 49 = .ok (.invokevirtual 91, 3) := by decide +kernel
theorem dX7_stack_52 : decode cX7_stack 52 = .ok (.ifCond .eq 7, 3) := by decide +kernel
theorem dX7_stack_55 : decode cX7_stack 55 = .ok (.iconst 1, 1) := by decide +kernel
theorem dX7_stack_56 : decode cX7_stack 56 = .ok (.goto 4, 3) := by decide +kernel
theorem dX7_stack_59 : decode cX7_stack 59 = .ok (.iconst 0, 1) := by decide +kernel
theorem dX7_stack_60 : decode cX7_stack 60 = .ok (.ireturn, 1) := by decide +kernel
theorem dX7_dryIn_0 : decode cX7_dryIn 0 = .ok (.aload_n 0, 1) := by decide +kernel
theorem dX7_dryIn_1 : decode cX7_dryIn 1 = .ok (.iload_n 1, 1) := by decide +kernel
theorem dX7_dryIn_2 : decode cX7_dryIn 2 = .ok (.invokevirtual 72, 3) := by decide +kernel
theorem dX7_dryIn_5 : decode cX7_dryIn 5 = .ok (.ifCond .eq 23, 3) := by decide +kernel
theorem dX7_dryIn_8 : decode cX7_dryIn 8 = .ok (.iload_n 2, 1) := by decide +kernel
theorem dX7_dryIn_9 : decode cX7_dryIn 9 = .ok (.iconst 0, 1) := by decide +kernel
theorem dX7_dryIn_10 : decode cX7_dryIn 10 = .ok (.bipush 9, 2) := by decide +kernel
theorem dX7_dryIn_12 : decode cX7_dryIn 12 = .ok (.invokestatic 33, 3) := by decide +kernel
theorem dX7_dryIn_15 : decode cX7_dryIn 15 = .ok (.ifCond .eq 13, 3) := by decide +kernel
theorem dX7_dryIn_18 : decode cX7_dryIn 18 = .ok (.iload_n 3, 1) := by decide +kernel
theorem dX7_dryIn_19 : decode cX7_dryIn 19 = .ok (.iconst 0, 1) := by decide +kernel
theorem dX7_dryIn_20 : decode cX7_dryIn 20 = .ok (.bipush 9, 2) := by decide +kernel
theorem dX7_dryIn_22 : decode cX7_dryIn 22 = .ok (.invokestatic 33, 3) := by decide +kernel
theorem dX7_dryIn_25 : decode cX7_dryIn 25 = .ok (.ifCond .ne 5, 3) := by decide +kernel
theorem dX7_dryIn_28 : decode cX7_dryIn 28 = .ok (.iconst (-1), 1) := by decide +kernel
theorem dX7_dryIn_29 : decode cX7_dryIn 29 = .ok (.ireturn, 1) := by decide +kernel
theorem dX7_dryIn_30 : decode cX7_dryIn 30 = .ok (.aload_n 0, 1) := by decide +kernel
theorem dX7_dryIn_31 : decode cX7_dryIn 31 = .ok (.iload_n 1, 1) := by decide +kernel
theorem dX7_dryIn_32 : decode cX7_dryIn 32 = .ok (.iconst 3, 1) := by decide +kernel
theorem dX7_dryIn_33 : decode cX7_dryIn 33 = .ok (.invokevirtual 75, 3) := by decide +kernel
theorem dX7_dryIn_36 : decode cX7_dryIn 36 = .ok (.istore 4, 2) := by decide +kernel
theorem dX7_dryIn_38 : decode cX7_dryIn 38 = .ok (.iconst 0, 1) := by decide +kernel
theorem dX7_dryIn_39 : decode cX7_dryIn 39 = .ok (.istore 5, 2) := by decide +kernel
theorem dX7_dryIn_41 : decode cX7_dryIn 41 = .ok (.iload 5, 2) := by decide +kernel
theorem dX7_dryIn_43 : decode cX7_dryIn 43 = .ok (.sipush 200, 3) := by decide +kernel
theorem dX7_dryIn_46 : decode cX7_dryIn 46 = .ok (.if_icmp .gt 35, 3) := by decide +kernel
theorem dX7_dryIn_49 : decode cX7_dryIn 49 = .ok (.iload 4, 2) := by decide +kernel
theorem dX7_dryIn_51 : decode cX7_dryIn 51 = .ok (.sipush 30000, 3) := by decide +kernel
theorem dX7_dryIn_54 : decode cX7_dryIn 54 = .ok (.if_icmp .gt 6, 3) := by decide +kernel
theorem dX7_dryIn_57 : decode cX7_dryIn 57 = .ok (.iload 5, 2) := by decide +kernel
theorem dX7_dryIn_59 : decode cX7_dryIn 59 = .ok (.ireturn, 1) := by decide +kernel
theorem dX7_dryIn_60 : decode cX7_dryIn 60 = .ok (.iload 4, 2) := by decide +kernel
theorem dX7_dryIn_62 : decode cX7_dryIn 62 = .ok (.aload_n 0, 1) := by decide +kernel
theorem dX7_dryIn_63 : decode cX7_dryIn 63 = .ok (.iload_n 1, 1) := by decide +kernel
theorem dX7_dryIn_64 : decode cX7_dryIn 64 = .ok (.iconst 4, 1) := by decide +kernel
theorem dX7_dryIn_65 : decode cX7_dryIn 65 = .ok (.invokevirtual 75, 3) := by decide +kernel
theorem dX7_dryIn_68 : decode cX7_dryIn 68 = .ok (.iload_n 2, 1) := by decide +kernel
theorem dX7_dryIn_69 : decode cX7_dryIn 69 = .ok (.iload_n 3, 1) := by decide +kernel
theorem dX7_dryIn_70 : decode cX7_dryIn 70 = .ok (.invokestatic 94, 3) := by decide +kernel
theorem dX7_dryIn_73 : decode cX7_dryIn 73 = .ok (.istore 4, 2) := by decide +kernel
theorem dX7_dryIn_75 : decode cX7_dryIn 75 = .ok (.iinc 5 1, 3) := by decide +kernel
theorem dX7_dryIn_78 : decode cX7_dryIn 78 = .ok (.goto (-37), 3) := by decide +kernel
theorem dX7_dryIn_81 : decode cX7_dryIn 81 = .ok (.bipush (-9), 2) := by decide +kernel
theorem dX7_dryIn_83 : decode cX7_dryIn 83 = .ok (.ireturn, 1) := by decide +kernel
theorem dX7_most_0 : decode cX7_most 0 = .ok (.iload_n 3, 1) := by decide +kernel
theorem dX7_most_1 : decode cX7_most 1 = .ok (.sipush 1000, 3) := by decide +kernel
theorem dX7_most_4 : decode cX7_most 4 = .ok (.imul, 1) := by decide +kernel
theorem dX7_most_5 : decode cX7_most 5 = .ok (.aload_n 0, 1) := by decide +kernel
theorem dX7_most_6 : decode cX7_most 6 = .ok (.iload_n 1, 1) := by decide +kernel
theorem dX7_most_7 : decode cX7_most 7 = .ok (.invokevirtual 82, 3) := by decide +kernel
theorem dX7_most_10 : decode cX7_most 10 = .ok (.idiv, 1) := by decide +kernel
theorem dX7_most_11 : decode cX7_most 11 = .ok (.istore 4, 2) := by decide +kernel
theorem dX7_most_13 : decode cX7_most 13 = .ok (.iload 4, 2) := by decide +kernel
theorem dX7_most_15 : decode cX7_most 15 = .ok (.iload_n 2, 1) := by decide +kernel
theorem dX7_most_16 : decode cX7_most 16 = .ok (.if_icmp .ge 8, 3) := by decide +kernel
theorem dX7_most_19 : decode cX7_most 19 = .ok (.iload 4, 2) := by decide +kernel
theorem dX7_most_21 : decode cX7_most 21 = .ok (.goto 4, 3) := by decide +kernel
theorem dX7_most_24 : decode cX7_most 24 = .ok (.iload_n 2, 1) := by decide +kernel
theorem dX7_most_25 : decode cX7_most 25 = .ok (.istore 4, 2) := by decide +kernel
theorem dX7_most_27 : decode cX7_most 27 = .ok (.iload 4, 2) := by decide +kernel
theorem dX7_most_29 : decode cX7_most 29 = .ok (.sipush 1000, 3) := by decide +kernel
theorem dX7_most_32 : decode cX7_most 32 = .ok (.if_icmp .ge 8, 3) := by decide +kernel
theorem dX7_most_35 : decode cX7_most 35 = .ok (.iload 4, 2) := by decide +kernel
theorem dX7_most_37 : decode cX7_most 37 = .ok (.goto 6, 3) := by decide +kernel
theorem dX7_most_40 : decode cX7_most 40 = .ok (.sipush 1000, 3) := by decide +kernel
theorem dX7_most_43 : decode cX7_most 43 = .ok (.ireturn, 1) := by decide +kernel
theorem dX7_cartLoad_0 : decode cX7_cartLoad 0 = .ok (.aload_n 0, 1) := by decide +kernel
theorem dX7_cartLoad_1 : decode cX7_cartLoad 1 = .ok (.iload_n 1, 1) := by decide +kernel
theorem dX7_cartLoad_2 : decode cX7_cartLoad 2 = .ok (.invokevirtual 72, 3) := by decide +kernel
theorem dX7_cartLoad_5 : decode cX7_cartLoad 5 = .ok (.ifCond .ne 5, 3) := by decide +kernel
theorem dX7_cartLoad_8 : decode cX7_cartLoad 8 = .ok (.iconst (-1), 1) := by decide +kernel
theorem dX7_cartLoad_9 : decode cX7_cartLoad 9 = .ok (.ireturn, 1) := by decide +kernel
theorem dX7_cartLoad_10 : decode cX7_cartLoad 10 = .ok (.aload_n 0, 1) := by decide +kernel
theorem dX7_cartLoad_11 : decode cX7_cartLoad 11 = .ok (.iload_n 1, 1) := by decide +kernel
theorem dX7_cartLoad_12 : decode cX7_cartLoad 12 = .ok (.aload_n 0, 1) := by decide +kernel
theorem dX7_cartLoad_13 : decode cX7_cartLoad 13 = .ok (.iload_n 1, 1) := by decide +kernel
theorem dX7_cartLoad_14 : decode cX7_cartLoad 14 = .ok (.iconst 2, 1) := by decide +kernel
theorem dX7_cartLoad_15 : decode cX7_cartLoad 15 = .ok (.invokevirtual 75, 3) := by decide +kernel
theorem dX7_cartLoad_18 : decode cX7_cartLoad 18 = .ok (.aload_n 0, 1) := by decide +kernel
theorem dX7_cartLoad_19 : decode cX7_cartLoad 19 = .ok (.aload_n 0, 1) := by decide +kernel
theorem dX7_cartLoad_20 : decode cX7_cartLoad 20 = .ok (.iload_n 1, 1) := by decide +kernel
theorem dX7_cartLoad_21 : decode cX7_cartLoad 21 = .ok (.iconst 1, 1) := by decide +kernel
theorem dX7_cartLoad_22 : decode cX7_cartLoad 22 = .ok (.invokevirtual 75, 3) := by decide +kernel
theorem dX7_cartLoad_25 : decode cX7_cartLoad 25 = .ok (.invokevirtual 88, 3) := by decide +kernel
theorem dX7_cartLoad_28 : decode cX7_cartLoad 28 = .ok (.invokevirtual 174, 3) := by decide +kernel
theorem dX7_cartLoad_31 : decode cX7_cartLoad 31 = .ok (.istore_n 2, 1) := by decide +kernel
theorem dX7_cartLoad_32 : decode cX7_cartLoad 32 = .ok (.iload_n 2, 1) := by decide +kernel
theorem dX7_cartLoad_33 : decode cX7_cartLoad 33 = .ok (.ifCond .ne 8, 3) := by decide +kernel
theorem dX7_cartLoad_36 : decode cX7_cartLoad 36 = .ok (.bipush (-9), 2) := by decide +kernel
theorem dX7_cartLoad_38 : decode cX7_cartLoad 38 = .ok (.goto 4, 3) := by decide +kernel
theorem dX7_cartLoad_41 : decode cX7_cartLoad 41 = .ok (.iload_n 2, 1) := by decide +kernel
theorem dX7_cartLoad_42 : decode cX7_cartLoad 42 = .ok (.ireturn, 1) := by decide +kernel
theorem dX7_carts_0 : decode cX7_carts 0 = .ok (.aload_n 0, 1) := by decide +kernel
theorem dX7_carts_1 : decode cX7_carts 1 = .ok (.iload_n 1, 1) := by decide +kernel
theorem dX7_carts_2 : decode cX7_carts 2 = .ok (.invokevirtual 72, 3) := by decide +kernel
theorem dX7_carts_5 : decode cX7_carts 5 = .ok (.ifCond .ne 5, 3) := by decide +kernel
theorem dX7_carts_8 : decode cX7_carts 8 = .ok (.iconst (-1), 1) := by decide +kernel
theorem dX7_carts_9 : decode cX7_carts 9 = .ok (.ireturn, 1) := by decide +kernel
theorem dX7_carts_10 : decode cX7_carts 10 = .ok (.aload_n 0, 1) := by decide +kernel
theorem dX7_carts_11 : decode cX7_carts 11 = .ok (.iload_n 1, 1) := by decide +kernel
theorem dX7_carts_12 : decode cX7_carts 12 = .ok (.iconst 2, 1) := by decide +kernel
theorem dX7_carts_13 : decode cX7_carts 13 = .ok (.invokevirtual 75, 3) := by decide +kernel
theorem dX7_carts_16 : decode cX7_carts 16 = .ok (.istore_n 2, 1) := by decide +kernel
theorem dX7_carts_17 : decode cX7_carts 17 = .ok (.aload_n 0, 1) := by decide +kernel
theorem dX7_carts_18 : decode cX7_carts 18 = .ok (.aload_n 0, 1) := by decide +kernel
theorem dX7_carts_19 : decode cX7_carts 19 = .ok (.iload_n 1, 1) := by decide +kernel
theorem dX7_carts_20 : decode cX7_carts 20 = .ok (.iconst 1, 1) := by decide +kernel
theorem dX7_carts_21 : decode cX7_carts 21 = .ok (.invokevirtual 75, 3) := by decide +kernel
theorem dX7_carts_24 : decode cX7_carts 24 = .ok (.invokevirtual 88, 3) := by decide +kernel
theorem dX7_carts_27 : decode cX7_carts 27 = .ok (.istore_n 3, 1) := by decide +kernel
theorem dX7_carts_28 : decode cX7_carts 28 = .ok (.iconst 0, 1) := by decide +kernel
theorem dX7_carts_29 : decode cX7_carts 29 = .ok (.istore 4, 2) := by decide +kernel
theorem dX7_carts_31 : decode cX7_carts 31 = .ok (.iload_n 2, 1) := by decide +kernel
theorem dX7_carts_32 : decode cX7_carts 32 = .ok (.ifCond .le 60, 3) := by decide +kernel
theorem dX7_carts_35 : decode cX7_carts 35 = .ok (.aload_n 0, 1) := by decide +kernel
theorem dX7_carts_36 : decode cX7_carts 36 = .ok (.iload_n 1, 1) := by decide +kernel
theorem dX7_carts_37 : decode cX7_carts 37 = .ok (.iload_n 2, 1) := by decide +kernel
theorem dX7_carts_38 : decode cX7_carts 38 = .ok (.iload_n 3, 1) := by decide +kernel
theorem dX7_carts_39 : decode cX7_carts 39 = .ok (.invokevirtual 174, 3) := by decide +kernel
theorem dX7_carts_42 : decode cX7_carts 42 = .ok (.istore 5, 2) := by decide +kernel
theorem dX7_carts_44 : decode cX7_carts 44 = .ok (.iload 5, 2) := by decide +kernel
theorem dX7_carts_46 : decode cX7_carts 46 = .ok (.ifCond .ne 6, 3) := by decide +kernel
theorem dX7_carts_49 : decode cX7_carts 49 = .ok (.bipush (-9), 2) := by decide +kernel
theorem dX7_carts_51 : decode cX7_carts 51 = .ok (.ireturn, 1) := by decide +kernel
theorem dX7_carts_52 : decode cX7_carts 52 = .ok (.iload_n 3, 1) := by decide +kernel
theorem dX7_carts_53 : decode cX7_carts 53 = .ok (.aload_n 0, 1) := by decide +kernel
theorem dX7_carts_54 : decode cX7_carts 54 = .ok (.iload_n 1, 1) := by decide +kernel
theorem dX7_carts_55 : decode cX7_carts 55 = .ok (.iload 5, 2) := by decide +kernel
theorem dX7_carts_57 : decode cX7_carts 57 = .ok (.invokevirtual 85, 3) := by decide +kernel
theorem dX7_carts_60 : decode cX7_carts 60 = .ok (.bipush 49, 2) := by decide +kernel
theorem dX7_carts_62 : decode cX7_carts 62 = .ok (.iadd, 1) := by decide +kernel
theorem dX7_carts_63 : decode cX7_carts 63 = .ok (.bipush 50, 2) := by decide +kernel
theorem dX7_carts_65 : decode cX7_carts 65 = .ok (.idiv, 1) := by decide +kernel
theorem dX7_carts_66 : decode cX7_carts 66 = .ok (.isub, 1) := by decide +kernel
theorem dX7_carts_67 : decode cX7_carts 67 = .ok (.istore 6, 2) := by decide +kernel
theorem dX7_carts_69 : decode cX7_carts 69 = .ok (.iload 6, 2) := by decide +kernel
theorem dX7_carts_71 : decode cX7_carts 71 = .ok (.ifCond .ge 7, 3) := by decide +kernel
theorem dX7_carts_74 : decode cX7_carts 74 = .ok (.iconst 0, 1) := by decide +kernel
theorem dX7_carts_75 : decode cX7_carts 75 = .ok (.goto 5, 3) := by decide +kernel
theorem dX7_carts_78 : decode cX7_carts 78 = .ok (.iload 6, 2) := by decide +kernel
theorem dX7_carts_80 : decode cX7_carts 80 = .ok (.istore_n 3, 1) := by decide +kernel
theorem dX7_carts_81 : decode cX7_carts 81 = .ok (.iload_n 2, 1) := by decide +kernel
theorem dX7_carts_82 : decode cX7_carts 82 = .ok (.iload 5, 2) := by decide +kernel
theorem dX7_carts_84 : decode cX7_carts 84 = .ok (.isub, 1) := by decide +kernel
theorem dX7_carts_85 : decode cX7_carts 85 = .ok (.istore_n 2, 1) := by decide +kernel
theorem dX7_carts_86 : decode cX7_carts 86 = .ok (.iinc 4 1, 3) := by decide +kernel
theorem dX7_carts_89 : decode cX7_carts 89 = .ok (.goto (-58), 3) := by decide +kernel
theorem dX7_carts_92 : decode cX7_carts 92 = .ok (.iload 4, 2) := by decide +kernel
theorem dX7_carts_94 : decode cX7_carts 94 = .ok (.ireturn, 1) := by decide +kernel
theorem dX7_worth_0 : decode cX7_worth 0 = .ok (.aload_n 0, 1) := by decide +kernel
theorem dX7_worth_1 : decode cX7_worth 1 = .ok (.iload_n 1, 1) := by decide +kernel
theorem dX7_worth_2 : decode cX7_worth 2 = .ok (.invokevirtual 40, 3) := by decide +kernel
theorem dX7_worth_5 : decode cX7_worth 5 = .ok (.ifCond .eq 13, 3) := by decide +kernel
theorem dX7_worth_8 : decode cX7_worth 8 = .ok (.iload_n 2, 1) := by decide +kernel
theorem dX7_worth_9 : decode cX7_worth 9 = .ok (.ifCond .lt 9, 3) := by decide +kernel
theorem dX7_worth_12 : decode cX7_worth 12 = .ok (.iload_n 2, 1) := by decide +kernel
theorem dX7_worth_13 : decode cX7_worth 13 = .ok (.ldc 177, 2) := by decide +kernel
theorem dX7_worth_15 : decode cX7_worth 15 = .ok (.if_icmp .le 5, 3) := by decide +kernel
theorem dX7_worth_18 : decode cX7_worth 18 = .ok (.iconst (-1), 1) := by decide +kernel
theorem dX7_worth_19 : decode cX7_worth 19 = .ok (.ireturn, 1) := by decide +kernel
theorem dX7_worth_20 : decode cX7_worth 20 = .ok (.aload_n 0, 1) := by decide +kernel
theorem dX7_worth_21 : decode cX7_worth 21 = .ok (.iload_n 1, 1) := by decide +kernel
theorem dX7_worth_22 : decode cX7_worth 22 = .ok (.iconst 1, 1) := by decide +kernel
theorem dX7_worth_23 : decode cX7_worth 23 = .ok (.invokevirtual 44, 3) := by decide +kernel
theorem dX7_worth_26 : decode cX7_worth 26 = .ok (.i2l, 1) := by decide +kernel
theorem dX7_worth_27 : decode cX7_worth 27 = .ok (.iload_n 2, 1) := by decide +kernel
theorem dX7_worth_28 : decode cX7_worth 28 = .ok (.i2l, 1) := by decide +kernel
theorem dX7_worth_29 : decode cX7_worth 29 = .ok (.lmul, 1) := by decide +kernel
theorem dX7_worth_30 : decode cX7_worth 30 = .ok (.lstore_n 3, 1) := by decide +kernel
theorem dX7_worth_31 : decode cX7_worth 31 = .ok (.lload_n 3, 1) := by decide +kernel
theorem dX7_worth_32 : decode cX7_worth 32 = .ok (.ldc2_w 178, 3) := by decide +kernel
theorem dX7_worth_35 : decode cX7_worth 35 = .ok (.lcmp, 1) := by decide +kernel
theorem dX7_worth_36 : decode cX7_worth 36 = .ok (.ifCond .le 8, 3) := by decide +kernel
theorem dX7_worth_39 : decode cX7_worth 39 = .ok (.bipush (-9), 2) := by decide +kernel
theorem dX7_worth_41 : decode cX7_worth 41 = .ok (.goto 5, 3) := by decide +kernel
theorem dX7_worth_44 : decode cX7_worth 44 = .ok (.lload_n 3, 1) := by decide +kernel
theorem dX7_worth_45 : decode cX7_worth 45 = .ok (.l2i, 1) := by decide +kernel
theorem dX7_worth_46 : decode cX7_worth 46 = .ok (.ireturn, 1) := by decide +kernel
theorem dX7_nextToCut_0 : decode cX7_nextToCut 0 = .ok (.aload_n 0, 1) := by decide +kernel
theorem dX7_nextToCut_1 : decode cX7_nextToCut 1 = .ok (.iload_n 1, 1) := by decide +kernel
theorem dX7_nextToCut_2 : decode cX7_nextToCut 2 = .ok (.invokevirtual 48, 3) := by decide +kernel
theorem dX7_nextToCut_5 : decode cX7_nextToCut 5 = .ok (.ifCond .ne 5, 3) := by decide +kernel
theorem dX7_nextToCut_8 : decode cX7_nextToCut 8 = .ok (.iconst (-1), 1) := by decide +kernel
theorem dX7_nextToCut_9 : decode cX7_nextToCut 9 = .ok (.ireturn, 1) := by decide +kernel
theorem dX7_nextToCut_10 : decode cX7_nextToCut 10 = .ok (.bipush (-9), 2) := by decide +kernel
theorem dX7_nextToCut_12 : decode cX7_nextToCut 12 = .ok (.istore_n 2, 1) := by decide +kernel
theorem dX7_nextToCut_13 : decode cX7_nextToCut 13 = .ok (.iconst 0, 1) := by decide +kernel
theorem dX7_nextToCut_14 : decode cX7_nextToCut 14 = .ok (.istore_n 3, 1) := by decide +kernel
theorem dX7_nextToCut_15 : decode cX7_nextToCut 15 = .ok (.iconst 0, 1) := by decide +kernel
theorem dX7_nextToCut_16 : decode cX7_nextToCut 16 = .ok (.istore 4, 2) := by decide +kernel
theorem dX7_nextToCut_18 : decode cX7_nextToCut 18 = .ok (.iload 4, 2) := by decide +kernel
theorem dX7_nextToCut_20 : decode cX7_nextToCut 20 = .ok (.aload_n 0, 1) := by decide +kernel
theorem dX7_nextToCut_21 : decode cX7_nextToCut 21 = .ok (.getfield 7, 3) := by decide +kernel
theorem dX7_nextToCut_24 : decode cX7_nextToCut 24 = .ok (.iconst 1, 1) := by decide +kernel
theorem dX7_nextToCut_25 : decode cX7_nextToCut 25 = .ok (.iaload, 1) := by decide +kernel
theorem dX7_nextToCut_26 : decode cX7_nextToCut 26 = .ok (.if_icmp .ge 44, 3) := by decide +kernel
theorem dX7_nextToCut_29 : decode cX7_nextToCut 29 = .ok (.aload_n 0, 1) := by decide +kernel
theorem dX7_nextToCut_30 : decode cX7_nextToCut 30 = .ok (.iload 4, 2) := by decide +kernel
theorem dX7_nextToCut_32 : decode cX7_nextToCut 32 = .ok (.iload_n 1, 1) := by decide +kernel
theorem dX7_nextToCut_33 : decode cX7_nextToCut 33 = .ok (.invokevirtual 68, 3) := by decide +kernel
theorem dX7_nextToCut_36 : decode cX7_nextToCut 36 = .ok (.istore 5, 2) := by decide +kernel
theorem dX7_nextToCut_38 : decode cX7_nextToCut 38 = .ok (.iload 5, 2) := by decide +kernel
theorem dX7_nextToCut_40 : decode cX7_nextToCut 40 = .ok (.iload_n 3, 1) := by decide +kernel
theorem dX7_nextToCut_41 : decode cX7_nextToCut 41 = .ok (.if_icmp .le 8, 3) := by decide +kernel
theorem dX7_nextToCut_44 : decode cX7_nextToCut 44 = .ok (.iload 4, 2) := by decide +kernel
theorem dX7_nextToCut_46 : decode cX7_nextToCut 46 = .ok (.goto 4, 3) := by decide +kernel
theorem dX7_nextToCut_49 : decode cX7_nextToCut 49 = .ok (.iload_n 2, 1) := by decide +kernel
theorem dX7_nextToCut_50 : decode cX7_nextToCut 50 = .ok (.istore_n 2, 1) := by decide +kernel
theorem dX7_nextToCut_51 : decode cX7_nextToCut 51 = .ok (.iload 5, 2) := by decide +kernel
theorem dX7_nextToCut_53 : decode cX7_nextToCut 53 = .ok (.iload_n 3, 1) := by decide +kernel
theorem dX7_nextToCut_54 : decode cX7_nextToCut 54 = .ok (.if_icmp .le 8, 3) := by decide +kernel
theorem dX7_nextToCut_57 : decode cX7_nextToCut 57 = .ok (.iload 5, 2) := by decide +kernel
theorem dX7_nextToCut_59 : decode cX7_nextToCut 59 = .ok (.goto 4, 3) := by decide +kernel
theorem dX7_nextToCut_62 : decode cX7_nextToCut 62 = .ok (.iload_n 3, 1) := by decide +kernel
theorem dX7_nextToCut_63 : decode cX7_nextToCut 63 = .ok (.istore_n 3, 1) := by decide +kernel
theorem dX7_nextToCut_64 : decode cX7_nextToCut 64 = .ok (.iinc 4 1, 3) := by decide +kernel
theorem dX7_nextToCut_67 : decode cX7_nextToCut 67 = .ok (.goto (-49), 3) := by decide +kernel
theorem dX7_nextToCut_70 : decode cX7_nextToCut 70 = .ok (.iload_n 2, 1) := by decide +kernel
theorem dX7_nextToCut_71 : decode cX7_nextToCut 71 = .ok (.ireturn, 1) := by decide +kernel
theorem dJ9_max_7cf53_0 : decode cJ9_max_7cf53 0 = .ok (.iload_n 0, 1) := by decide +kernel
theorem dJ9_max_7cf53_1 : decode cJ9_max_7cf53 1 = .ok (.iload_n 1, 1) := by decide +kernel
theorem dJ9_max_7cf53_2 : decode cJ9_max_7cf53 2 = .ok (.if_icmp .lt 7, 3) := by decide +kernel
theorem dJ9_max_7cf53_5 : decode cJ9_max_7cf53 5 = .ok (.iload_n 0, 1) := by decide +kernel
theorem dJ9_max_7cf53_6 : decode cJ9_max_7cf53 6 = .ok (.goto 4, 3) := by decide +kernel
theorem dJ9_max_7cf53_9 : decode cJ9_max_7cf53 9 = .ok (.iload_n 1, 1) := by decide +kernel
theorem dJ9_max_7cf53_10 : decode cJ9_max_7cf53 10 = .ok (.ireturn, 1) := by decide +kernel
theorem dJ9_min_7cf53_0 : decode cJ9_min_7cf53 0 = .ok (.iload_n 0, 1) := by decide +kernel
theorem dJ9_min_7cf53_1 : decode cJ9_min_7cf53 1 = .ok (.iload_n 1, 1) := by decide +kernel
theorem dJ9_min_7cf53_2 : decode cJ9_min_7cf53 2 = .ok (.if_icmp .gt 7, 3) := by decide +kernel
theorem dJ9_min_7cf53_5 : decode cJ9_min_7cf53 5 = .ok (.iload_n 0, 1) := by decide +kernel
theorem dJ9_min_7cf53_6 : decode cJ9_min_7cf53 6 = .ok (.goto 4, 3) := by decide +kernel
theorem dJ9_min_7cf53_9 : decode cJ9_min_7cf53 9 = .ok (.iload_n 1, 1) := by decide +kernel
theorem dJ9_min_7cf53_10 : decode cJ9_min_7cf53 10 = .ok (.ireturn, 1) := by decide +kernel
theorem dJ0_length_8abf5_0 : decode cJ0_length_8abf5 0 = .ok (.aload_n 0, 1) := by decide +kernel
theorem dJ0_length_8abf5_1 : decode cJ0_length_8abf5 1 = .ok (.getfield 9, 3) := by decide +kernel
theorem dJ0_length_8abf5_4 : decode cJ0_length_8abf5 4 = .ok (.arraylength, 1) := by decide +kernel
theorem dJ0_length_8abf5_5 : decode cJ0_length_8abf5 5 = .ok (.aload_n 0, 1) := by decide +kernel
theorem dJ0_length_8abf5_6 : decode cJ0_length_8abf5 6 = .ok (.invokevirtual 335, 3) := by decide +kernel
theorem dJ0_length_8abf5_9 : decode cJ0_length_8abf5 9 = .ok (.ishr, 1) := by decide +kernel
theorem dJ0_length_8abf5_10 : decode cJ0_length_8abf5 10 = .ok (.ireturn, 1) := by decide +kernel
theorem dJ0_charAt_5068e_0 : decode cJ0_charAt_5068e 0 = .ok (.aload_n 0, 1) := by decide +kernel
theorem dJ0_charAt_5068e_1 : decode cJ0_charAt_5068e 1 = .ok (.invokevirtual 492, 3) := by decide +kernel
theorem dJ0_charAt_5068e_4 : decode cJ0_charAt_5068e 4 = .ok (.ifCond .eq 12, 3) := by decide +kernel
theorem dJ0_charAt_5068e_7 : decode cJ0_charAt_5068e 7 = .ok (.aload_n 0, 1) := by decide +kernel
theorem dJ0_charAt_5068e_8 : decode cJ0_charAt_5068e 8 = .ok (.getfield 9, 3) := by decide +kernel
theorem dJ0_charAt_5068e_11 : decode cJ0_charAt_5068e 11 = .ok (.iload_n 1, 1) := by decide +kernel
theorem dJ0_charAt_5068e_12 : decode cJ0_charAt_5068e 12 = .ok (.invokestatic 495, 3) := by decide +kernel
theorem dJ0_charAt_5068e_15 : decode cJ0_charAt_5068e 15 = .ok (.ireturn, 1) := by decide +kernel
theorem dJ0_charAt_5068e_16 : decode cJ0_charAt_5068e 16 = .ok (.aload_n 0, 1) := by decide +kernel
theorem dJ0_charAt_5068e_17 : decode cJ0_charAt_5068e 17 = .ok (.getfield 9, 3) := by decide +kernel
theorem dJ0_charAt_5068e_20 : decode cJ0_charAt_5068e 20 = .ok (.iload_n 1, 1) := by decide +kernel
theorem dJ0_charAt_5068e_21 : decode cJ0_charAt_5068e 21 = .ok (.invokestatic 498, 3) := by decide +kernel
theorem dJ0_charAt_5068e_24 : decode cJ0_charAt_5068e 24 = .ok (.ireturn, 1) := by decide +kernel
theorem dJ0_coder_7d493_0 : decode cJ0_coder_7d493 0 = .ok (.getstatic 38, 3) := by decide +kernel
theorem dJ0_coder_7d493_3 : decode cJ0_coder_7d493 3 = .ok (.ifCond .eq 10, 3) := by decide +kernel
theorem dJ0_coder_7d493_6 : decode cJ0_coder_7d493 6 = .ok (.aload_n 0, 1) := by decide +kernel
theorem dJ0_coder_7d493_7 : decode cJ0_coder_7d493 7 = .ok (.getfield 15, 3) := by decide +kernel
theorem dJ0_coder_7d493_10 : decode cJ0_coder_7d493 10 = .ok (.goto 4, 3) := by decide +kernel
theorem dJ0_coder_7d493_13 : decode cJ0_coder_7d493 13 = .ok (.iconst 1, 1) := by decide +kernel
theorem dJ0_coder_7d493_14 : decode cJ0_coder_7d493 14 = .ok (.ireturn, 1) := by decide +kernel
theorem dJ0_isLatin1_aae02_0 : decode cJ0_isLatin1_aae02 0 = .ok (.getstatic 38, 3) := by decide +kernel
theorem dJ0_isLatin1_aae02_3 : decode cJ0_isLatin1_aae02 3 = .ok (.ifCond .eq 14, 3) := by decide +kernel
theorem dJ0_isLatin1_aae02_6 : decode cJ0_isLatin1_aae02 6 = .ok (.aload_n 0, 1) := by decide +kernel
theorem dJ0_isLatin1_aae02_7 : decode cJ0_isLatin1_aae02 7 = .ok (.getfield 15, 3) := by decide +kernel
theorem dJ0_isLatin1_aae02_10 : decode cJ0_isLatin1_aae02 10 = .ok (.ifCond .ne 7, 3) := by decide +kernel
theorem dJ0_isLatin1_aae02_13 : decode cJ0_isLatin1_aae02 13 = .ok (.iconst 1, 1) := by decide +kernel
theorem dJ0_isLatin1_aae02_14 : decode cJ0_isLatin1_aae02 14 = .ok (.goto 4, 3) := by decide +kernel
theorem dJ0_isLatin1_aae02_17 : decode cJ0_isLatin1_aae02 17 = .ok (.iconst 0, 1) := by decide +kernel
theorem dJ0_isLatin1_aae02_18 : decode cJ0_isLatin1_aae02 18 = .ok (.ireturn, 1) := by decide +kernel
theorem dJ0_checkIndex_df160_0 : decode cJ0_checkIndex_df160 0 = .ok (.iload_n 0, 1) := by decide +kernel
theorem dJ0_checkIndex_df160_1 : decode cJ0_checkIndex_df160 1 = .ok (.iload_n 1, 1) := by decide +kernel
theorem dJ0_checkIndex_df160_2 : decode cJ0_checkIndex_df160 2 = .ok (.getstatic 1053, 3) := by decide +kernel
theorem dJ0_checkIndex_df160_5 : decode cJ0_checkIndex_df160 5 = .ok (.invokestatic 1059, 3) := by decide +kernel
theorem dJ0_checkIndex_df160_8 : decode cJ0_checkIndex_df160 8 = .ok (.pop, 1) := by decide +kernel
theorem dJ0_checkIndex_df160_9 : decode cJ0_checkIndex_df160 9 = .ok (.return_, 1) := by decide +kernel
theorem dJ1_charAt_3b067_0 : decode cJ1_charAt_3b067 0 = .ok (.iload_n 1, 1) := by decide +kernel
theorem dJ1_charAt_3b067_1 : decode cJ1_charAt_3b067 1 = .ok (.aload_n 0, 1) := by decide +kernel
theorem dJ1_charAt_3b067_2 : decode cJ1_charAt_3b067 2 = .ok (.arraylength, 1) := by decide +kernel
theorem dJ1_charAt_3b067_3 : decode cJ1_charAt_3b067 3 = .ok (.invokestatic 9, 3) := by decide +kernel
theorem dJ1_charAt_3b067_6 : decode cJ1_charAt_3b067 6 = .ok (.aload_n 0, 1) := by decide +kernel
theorem dJ1_charAt_3b067_7 : decode cJ1_charAt_3b067 7 = .ok (.iload_n 1, 1) := by decide +kernel
theorem dJ1_charAt_3b067_8 : decode cJ1_charAt_3b067 8 = .ok (.baload, 1) := by decide +kernel
theorem dJ1_charAt_3b067_9 : decode cJ1_charAt_3b067 9 = .ok (.sipush 255, 3) := by decide +kernel
theorem dJ1_charAt_3b067_12 : decode cJ1_charAt_3b067 12 = .ok (.iand, 1) := by decide +kernel
theorem dJ1_charAt_3b067_13 : decode cJ1_charAt_3b067 13 = .ok (.i2c, 1) := by decide +kernel
theorem dJ1_charAt_3b067_14 : decode cJ1_charAt_3b067 14 = .ok (.ireturn, 1) := by decide +kernel
theorem dJ2_getChar_3b067_0 : decode cJ2_getChar_3b067 0 = .ok (.getstatic 44, 3) := by decide +kernel
theorem dJ2_getChar_3b067_3 : decode cJ2_getChar_3b067 3 = .ok (.ifCond .ne 25, 3) := by decide +kernel
theorem dJ2_getChar_3b067_6 : decode cJ2_getChar_3b067 6 = .ok (.iload_n 1, 1) := by decide +kernel
theorem dJ2_getChar_3b067_7 : decode cJ2_getChar_3b067 7 = .ok (.ifCond .lt 11, 3) := by decide +kernel
theorem dJ2_getChar_3b067_10 : decode cJ2_getChar_3b067 10 = .ok (.iload_n 1, 1) := by decide +kernel
theorem dJ2_getChar_3b067_11 : decode cJ2_getChar_3b067 11 = .ok (.aload_n 0, 1) := by decide +kernel
theorem dJ2_getChar_3b067_12 : decode cJ2_getChar_3b067 12 = .ok (.invokestatic 48, 3) := by decide +kernel
theorem dJ2_getChar_3b067_15 : decode cJ2_getChar_3b067 15 = .ok (.if_icmp .lt 13, 3) := by decide +kernel
theorem dJ2_getChar_3b067_18 : decode cJ2_getChar_3b067 18 = .ok (.new 52, 3) := by decide +kernel
theorem dJ2_getChar_3b067_21 : decode cJ2_getChar_3b067 21 = .ok (.dup, 1) := by decide +kernel
theorem dJ2_getChar_3b067_22 : decode cJ2_getChar_3b067 22 = .ok (.ldc 54, 2) := by decide +kernel
theorem dJ2_getChar_3b067_24 : decode cJ2_getChar_3b067 24 = .ok (.invokespecial 56, 3) := by decide +kernel
theorem dJ2_getChar_3b067_27 : decode cJ2_getChar_3b067 27 = .ok (.athrow, 1) := by decide +kernel
theorem dJ2_getChar_3b067_28 : decode cJ2_getChar_3b067 28 = .ok (.iload_n 1, 1) := by decide +kernel
theorem dJ2_getChar_3b067_29 : decode cJ2_getChar_3b067 29 = .ok (.iconst 1, 1) := by decide +kernel
theorem dJ2_getChar_3b067_30 : decode cJ2_getChar_3b067 30 = .ok (.ishl, 1) := by decide +kernel
theorem dJ2_getChar_3b067_31 : decode cJ2_getChar_3b067 31 = .ok (.istore_n 1, 1) := by decide +kernel
theorem dJ2_getChar_3b067_32 : decode cJ2_getChar_3b067 32 = .ok (.aload_n 0, 1) := by decide +kernel
theorem dJ2_getChar_3b067_33 : decode cJ2_getChar_3b067 33 = .ok (.iload_n 1, 1) := by decide +kernel
theorem dJ2_getChar_3b067_34 : decode cJ2_getChar_3b067 34 = .ok (.iinc 1 1, 3) := by decide +kernel
theorem dJ2_getChar_3b067_37 : decode cJ2_getChar_3b067 37 = .ok (.baload, 1) := by decide +kernel
theorem dJ2_getChar_3b067_38 : decode cJ2_getChar_3b067 38 = .ok (.sipush 255, 3) := by decide +kernel
theorem dJ2_getChar_3b067_41 : decode cJ2_getChar_3b067 41 = .ok (.iand, 1) := by decide +kernel
theorem dJ2_getChar_3b067_42 : decode cJ2_getChar_3b067 42 = .ok (.getstatic 59, 3) := by decide +kernel
theorem dJ2_getChar_3b067_45 : decode cJ2_getChar_3b067 45 = .ok (.ishl, 1) := by decide +kernel
theorem dJ2_getChar_3b067_46 : decode cJ2_getChar_3b067 46 = .ok (.aload_n 0, 1) := by decide +kernel
theorem dJ2_getChar_3b067_47 : decode cJ2_getChar_3b067 47 = .ok (.iload_n 1, 1) := by decide +kernel
theorem dJ2_getChar_3b067_48 : decode cJ2_getChar_3b067 48 = .ok (.baload, 1) := by decide +kernel
theorem dJ2_getChar_3b067_49 : decode cJ2_getChar_3b067 49 = .ok (.sipush 255, 3) := by decide +kernel
theorem dJ2_getChar_3b067_52 : decode cJ2_getChar_3b067 52 = .ok (.iand, 1) := by decide +kernel
theorem dJ2_getChar_3b067_53 : decode cJ2_getChar_3b067 53 = .ok (.getstatic 63, 3) := by decide +kernel
theorem dJ2_getChar_3b067_56 : decode cJ2_getChar_3b067 56 = .ok (.ishl, 1) := by decide +kernel
theorem dJ2_getChar_3b067_57 : decode cJ2_getChar_3b067 57 = .ok (.ior, 1) := by decide +kernel
theorem dJ2_getChar_3b067_58 : decode cJ2_getChar_3b067 58 = .ok (.i2c, 1) := by decide +kernel
theorem dJ2_getChar_3b067_59 : decode cJ2_getChar_3b067 59 = .ok (.ireturn, 1) := by decide +kernel
theorem dJ2_length_9d52b_0 : decode cJ2_length_9d52b 0 = .ok (.aload_n 0, 1) := by decide +kernel
theorem dJ2_length_9d52b_1 : decode cJ2_length_9d52b 1 = .ok (.arraylength, 1) := by decide +kernel
theorem dJ2_length_9d52b_2 : decode cJ2_length_9d52b 2 = .ok (.iconst 1, 1) := by decide +kernel
theorem dJ2_length_9d52b_3 : decode cJ2_length_9d52b 3 = .ok (.ishr, 1) := by decide +kernel
theorem dJ2_length_9d52b_4 : decode cJ2_length_9d52b 4 = .ok (.ireturn, 1) := by decide +kernel
theorem dJ2_charAt_3b067_0 : decode cJ2_charAt_3b067 0 = .ok (.iload_n 1, 1) := by decide +kernel
theorem dJ2_charAt_3b067_1 : decode cJ2_charAt_3b067 1 = .ok (.aload_n 0, 1) := by decide +kernel
theorem dJ2_charAt_3b067_2 : decode cJ2_charAt_3b067 2 = .ok (.invokestatic 67, 3) := by decide +kernel
theorem dJ2_charAt_3b067_5 : decode cJ2_charAt_3b067 5 = .ok (.aload_n 0, 1) := by decide +kernel
theorem dJ2_charAt_3b067_6 : decode cJ2_charAt_3b067 6 = .ok (.iload_n 1, 1) := by decide +kernel
theorem dJ2_charAt_3b067_7 : decode cJ2_charAt_3b067 7 = .ok (.invokestatic 71, 3) := by decide +kernel
theorem dJ2_charAt_3b067_10 : decode cJ2_charAt_3b067 10 = .ok (.ireturn, 1) := by decide +kernel
theorem dJ2_checkIndex_2214a_0 : decode cJ2_checkIndex_2214a 0 = .ok (.iload_n 0, 1) := by decide +kernel
theorem dJ2_checkIndex_2214a_1 : decode cJ2_checkIndex_2214a 1 = .ok (.aload_n 1, 1) := by decide +kernel
theorem dJ2_checkIndex_2214a_2 : decode cJ2_checkIndex_2214a 2 = .ok (.invokestatic 48, 3) := by decide +kernel
theorem dJ2_checkIndex_2214a_5 : decode cJ2_checkIndex_2214a 5 = .ok (.invokestatic 414, 3) := by decide +kernel
theorem dJ2_checkIndex_2214a_8 : decode cJ2_checkIndex_2214a 8 = .ok (.return_, 1) := by decide +kernel
theorem dJ3_checkIndex_8e157_0 : decode cJ3_checkIndex_8e157 0 = .ok (.iload_n 0, 1) := by decide +kernel
theorem dJ3_checkIndex_8e157_1 : decode cJ3_checkIndex_8e157 1 = .ok (.ifCond .lt 8, 3) := by decide +kernel
theorem dJ3_checkIndex_8e157_4 : decode cJ3_checkIndex_8e157 4 = .ok (.iload_n 0, 1) := by decide +kernel
theorem dJ3_checkIndex_8e157_5 : decode cJ3_checkIndex_8e157 5 = .ok (.iload_n 1, 1) := by decide +kernel
theorem dJ3_checkIndex_8e157_6 : decode cJ3_checkIndex_8e157 6 = .ok (.if_icmp .lt 10, 3) := by decide +kernel
theorem dJ3_checkIndex_8e157_9 : decode cJ3_checkIndex_8e157 9 = .ok (.aload_n 2, 1) := by decide +kernel
theorem dJ3_checkIndex_8e157_10 : decode cJ3_checkIndex_8e157 10 = .ok (.iload_n 0, 1) := by decide +kernel
theorem dJ3_checkIndex_8e157_11 : decode cJ3_checkIndex_8e157 11 = .ok (.iload_n 1, 1) := by decide +kernel
theorem dJ3_checkIndex_8e157_12 : decode cJ3_checkIndex_8e157 12 = .ok (.invokestatic 95, 3) := by decide +kernel
theorem dJ3_checkIndex_8e157_15 : decode cJ3_checkIndex_8e157 15 = .ok (.athrow, 1) := by decide +kernel
theorem dJ3_checkIndex_8e157_16 : decode cJ3_checkIndex_8e157 16 = .ok (.iload_n 0, 1) := by decide +kernel
theorem dJ3_checkIndex_8e157_17 : decode cJ3_checkIndex_8e157 17 = .ok (.ireturn, 1) := by decide +kernel
end
section
/-! THE LAYER: an abstract heap (a function from addresses to cells), an abstract list of locals, and a judgement pV over both; a contract pC of a method over the whole heap. -/
abbrev pE : Type := (Nat → ClassId) × (Nat → Nat → Nat) × (Nat → ClassId) × (Nat → Nat) × (Nat → Nat)
abbrev pH : Type := Nat → Option va_E
/-- the kinds of arrays -/
def pT : Nat → FieldType := fun k => match k with
  | 0 => .char
  | 1 => .int
  | 2 => .boolean
  | 3 => .object RX1
  | 4 => .object RX0
  | 5 => .object RX5
  | 6 => .object RX2
  | _ => .object RX4
def px (E : pE) (x : va_E) : va_E := match x with
  | .inl a => .inl (E.2.2.1 a.1, a.2)
  | .inr o => .inr o
def pR (E : pE) (A : Nat → Prop) (h : pH) (H : Heap) : Prop := ∀ (q : Nat) (x : va_E), h q = some x → va_at (E.1, E.2.1) vwCl (q, px E x) H ∧ A q
def pset (h : pH) (a : Nat) (x : va_E) : pH := fun q => if q = a then some x else h q
theorem pset_s (h : pH) (a : Nat) (x : va_E) : pset h a x a = some x := if_pos rfl
theorem pset_n {h : pH} {a q : Nat} {x : va_E} (hq : q ≠ a) : pset h a x q = h q := if_neg hq
theorem pset_pset (h : pH) (a : Nat) (x y : va_E) : pset (pset h a x) a y = pset h a y := by
  funext q
  unfold pset
  by_cases e : q = a
  · rw [if_pos e, if_pos e]
  · rw [if_neg e, if_neg e, if_neg e]
theorem pR.set {E : pE} {A : Nat → Prop} {h : pH} {H H1 : Heap} {a : Nat} {x : va_E} (hh : pR E A h H) (ha : A a) (he : va_at (E.1, E.2.1) vwCl (a, px E x) H1) (oq : ∀ q : Nat, q ≠ a → H1[q]? = H[q]?) : pR E A (pset h a x) H1 := by
  intro q y hq
  by_cases e : q = a
  · subst e
    rw [pset_s] at hq
    cases hq
    exact ⟨he, ha⟩
  · rw [pset_n e] at hq
    exact ⟨(hh q y hq).1.kept (oq q e), (hh q y hq).2⟩
theorem pR.lt {E : pE} {A : Nat → Prop} {h : pH} {H : Heap} {q : Nat} {x : va_E} (hh : pR E A h H) (hq : h q = some x) : q < H.size := (hh q x hq).1.lt
/-- objects and arrays -/
abbrev ob (ci : Nat) (fs : List Value) : va_E := .inr (ci, fs)
abbrev ai (k n : Nat) (f : Nat → Int32) : va_E := .inl (k, n, .inl f)
abbrev ar (k n : Nat) (f : Nat → Option Nat) : va_E := .inl (k, n, .inr (.inr (.inr (.inr f))))
/-! words -/
def uw : List Cond := lw_tbl.filter goodWord
theorem uw_good : GoodIn uw uw := fun w hw => ⟨hw, good_of_word (List.mem_filter.mp hw).2⟩
theorem uw_in {i : Nat} {w : Cond} (h : tables_1[i]? = some w) (g : goodWord w = true) : w ∈ uw := List.mem_filter.mpr ⟨List.mem_append_right _ (List.mem_of_getElem? h), g⟩
theorem uw_sel {i : Nat} {w : Cond} (h : (k2_sels lw_privs)[i]? = some w) (g : goodWord w = true) : w ∈ uw := List.mem_filter.mpr ⟨List.mem_append_left _ (List.mem_of_getElem? h), g⟩
def wy (y : MethodName) (cc : ByteArray) (n : Nat) (r : Option FieldType) : List Cond := .code y cc n r :: uw
theorem wy_good {y : MethodName} {cc : ByteArray} {n : Nat} {r : Option FieldType} (h : Cond.code y cc n r ∈ uw) : GoodIn uw (wy y cc n r) := by
  intro w hw
  rcases List.mem_cons.mp hw with e | e
  · rw [e]; exact uw_good _ h
  · exact uw_good _ e
/-! the tables' facts that are no words: nest mates, arrays over classes -/
def pNest : List Cond := [.methodLinkNest RX2 48 yX1_init RX6, .methodLinkNest RX2 49 yX0_init RX6, .methodLinkNest RX2 50 yX5_init RX6, .methodLinkNest RX6 29 yX3_init RX6, .methodLinkNest RX2 61 yX6_isWithin RX6, .methodLinkNest RX4 30 yX6_isWithin RX6, .methodLinkNest RX3 29 yX6_isWithin RX6]
def pAO : List String := [RX1, RX0, RX5, RX2, RX4]
def pK (E : pE) (U : State) : Prop := va_K (E.1, E.2.1) vwCl [] U ∧ (∀ k : Nat, k < 8 → ArrOfT U (E.2.2.1 k) (pT k) ∧ va_RA U (E.2.2.1 k) (pT k)) ∧ (∀ w ∈ pNest, va_Nw w U) ∧ (∀ C ∈ pAO, va_AO C U)
theorem pNest_same {u U : State} (h : u.vm = U.vm) (hz : ∀ w ∈ pNest, va_Nw w u) : ∀ w ∈ pNest, va_Nw w U := by
  intro w hw
  have h1 := hz w hw
  simp only [pNest, List.mem_cons, List.not_mem_nil, or_false] at hw
  rcases hw with rfl | rfl | rfl | rfl | rfl | rfl | rfl <;> exact va_Nw.same rfl h h1
theorem pNest_warm {s U : State} (hW : s.WarmedH U.vm) (hz : ∀ w ∈ pNest, va_Nw w s) : ∀ w ∈ pNest, va_Nw w U := by
  intro w hw
  have h1 := hz w hw
  simp only [pNest, List.mem_cons, List.not_mem_nil, or_false] at hw
  rcases hw with rfl | rfl | rfl | rfl | rfl | rfl | rfl <;> exact va_Nw.warmM hW h1
theorem pK.same {E : pE} {u U : State} (h : u.vm = U.vm) (hk : pK E u) : pK E U := by
  have ha : u.vm.Alike U.vm := h ▸ Vm.Alike.refl u.vm
  exact ⟨va_K.moved ha hk.1, fun k q => ⟨arrOfT_moved ha (hk.2.1 k q).1, (hk.2.1 k q).2.moved ha⟩, pNest_same h hk.2.2.1, fun C hC => (hk.2.2.2 C hC).moved ha⟩
theorem pK.warm {E : pE} {s U : State} (hW : s.WarmedH U.vm) (hk : pK E s) : pK E U := by
  have ha : s.vm.Alike U.vm := hW.alike
  exact ⟨va_K.moved ha hk.1, fun k q => ⟨arrOfT_moved ha (hk.2.1 k q).1, (hk.2.1 k q).2.moved ha⟩, pNest_warm hW hk.2.2.1, fun C hC => (hk.2.2.2 C hC).moved ha⟩
/-! the constants that are texts, and the statics -/
def pTx : List String := ["house", "bank", "right", "cut", "turn", "cart", "day", ";"]
def pTi : List Nat := [77, 79, 81, 83, 85, 87, 89, 55]
def pTl : List Nat := [5, 4, 5, 3, 4, 4, 3, 1]
def pTb : List (List Int32) := [[104, 111, 117, 115, 101], [98, 97, 110, 107], [114, 105, 103, 104, 116], [99, 117, 116], [116, 117, 114, 110], [99, 97, 114, 116], [100, 97, 121], [59]]
def pS (E : pE) (A : Nat → Prop) (U : State) (H : Heap) : Prop := vk_S 8 pTl pTb E.2.2.2.1 E.2.2.2.2 A U H ∧ (∀ i : Nat, i < 8 → vk_R RX3 (pTi.getD i 0) (pTx.getD i "") (E.2.2.2.1 i) U) ∧ va_Z "java/lang/String" "COMPACT_STRINGS" "Z" (.int 1) A U H ∧ va_Zq "jdk/internal/util/Preconditions" "SIOOBE_FORMATTER" "Ljava/util/function/BiFunction;" A U H
theorem pS.same {E : pE} {A : Nat → Prop} {u U : State} {H : Heap} (h : u.vm = U.vm) (hk : pS E A u H) : pS E A U H := by
  have ha : u.vm.Alike U.vm := h ▸ Vm.Alike.refl u.vm
  exact ⟨hk.1.moved ha, fun i hi => vk_R.same h.symm (hk.2.1 i hi), va_Z.moved ha hk.2.2.1, va_Zq.moved ha hk.2.2.2⟩
theorem pS.warm {E : pE} {A : Nat → Prop} {s U : State} {H : Heap} (hW : s.WarmedH U.vm) (hk : pS E A s H) : pS E A U H := by
  have ha : s.vm.Alike U.vm := hW.alike
  exact ⟨hk.1.moved ha, fun i hi => vk_R.warm hW (hk.2.1 i hi), va_Z.moved ha hk.2.2.1, va_Zq.moved ha hk.2.2.2⟩
theorem pS.kept {E : pE} {A B : Nat → Prop} {U : State} {H H1 : Heap} (hk : pS E A U H) (hq : ∀ a : Nat, a < H.size → ¬ A a → H1[a]? = H[a]?) (hAB : ∀ q, B q → A q) : pS E B U H1 :=
  ⟨(hk.1.kept hq).narrow hAB, hk.2.1, (hk.2.2.1.kept hq).narrow hAB, (hk.2.2.2.kept hq).narrow hAB⟩
/-! locals -/
def pkeep (a : Option Value) : Option Value := match a with
  | some (.long _) => none
  | some (.double _) => none
  | x => x
def lset : List (Option Value) → Nat → Value → List (Option Value)
  | [], _, _ => []
  | _ :: t, 0, v => some v :: t
  | a :: t, 1, v => pkeep a :: lset t 0 v
  | a :: t, i + 2, v => a :: lset t (i + 1) v
def pL (ls : Array Slot) (nL : Nat) (L : List (Option Value)) : Prop := ls.size = nL ∧ lv_wf ls ∧ ∀ (i : Nat) (v : Value), L[i]? = some (some v) → ls[i]? = some (.val v)
def lpairs (L : List (Option Value)) : List (Nat × Value) := (List.range L.length).filterMap fun i => (L.getD i none).map fun v => (i, v)
theorem lpairs_of {L : List (Option Value)} {i : Nat} {v : Value} (h : L[i]? = some (some v)) : (i, v) ∈ lpairs L := by
  have hi : i < L.length := (List.getElem?_eq_some_iff.mp h).1
  refine List.mem_filterMap.mpr ⟨i, List.mem_range.mpr hi, ?_⟩
  rw [List.getD_eq_getElem?_getD, h]
  rfl
theorem lpairs_to {L : List (Option Value)} {q : Nat × Value} (h : q ∈ lpairs L) : L[q.1]? = some (some q.2) := by
  obtain ⟨i, hi, he⟩ := List.mem_filterMap.mp h
  have hi := List.mem_range.mp hi
  rw [List.getD_eq_getElem?_getD, List.getElem?_eq_getElem hi] at he
  cases hv : L[i] with
  | none => simp [hv] at he
  | some v =>
    simp [hv] at he
    rw [← he]
    simp [List.getElem?_eq_getElem hi, hv]
theorem pL.has {ls : Array Slot} {nL : Nat} {L : List (Option Value)} (h : pL ls nL L) : lv_has ls nL (lpairs L) := ⟨h.1, h.2.1, fun _ hq => h.2.2 _ _ (lpairs_to hq)⟩
theorem pkeep_of {a : Option Value} {w : Value} (h : pkeep a = some w) : a = some w ∧ ¬ w.category = 2 := by
  cases a with
  | none => simp [pkeep] at h
  | some x => cases x <;> simp [pkeep] at h <;> subst h <;> exact ⟨rfl, by simp [Value.category]⟩
theorem lset_of : ∀ (L : List (Option Value)) (i : Nat) (v : Value) (j : Nat) (w : Value), (lset L i v)[j]? = some (some w) → (j = i ∧ w = v) ∨ (j ≠ i ∧ L[j]? = some (some w) ∧ ¬ (j + 1 = i ∧ w.category = 2))
  | [], _, _, j, w, h => by simp [lset] at h
  | a :: t, 0, v, j, w, h => by
    cases j with
    | zero => simp [lset] at h; exact Or.inl ⟨rfl, h.symm⟩
    | succ j => simp [lset] at h; exact Or.inr ⟨by omega, by simpa using h, by omega⟩
  | a :: t, 1, v, j, w, h => by
    cases j with
    | zero =>
      simp [lset] at h
      obtain ⟨h1, h2⟩ := pkeep_of h
      exact Or.inr ⟨by omega, by simpa using h1, fun q => h2 q.2⟩
    | succ j =>
      simp only [lset, List.getElem?_cons_succ] at h
      rcases lset_of t 0 v j w h with ⟨h1, h2⟩ | ⟨h1, h2, h3⟩
      · exact Or.inl ⟨by omega, h2⟩
      · exact Or.inr ⟨by omega, by simpa using h2, by omega⟩
  | a :: t, i + 2, v, j, w, h => by
    cases j with
    | zero => simp [lset] at h; exact Or.inr ⟨by omega, by simpa using h, by omega⟩
    | succ j =>
      simp only [lset, List.getElem?_cons_succ] at h
      rcases lset_of t (i + 1) v j w h with ⟨h1, h2⟩ | ⟨h1, h2, h3⟩
      · exact Or.inl ⟨by omega, h2⟩
      · exact Or.inr ⟨by omega, by simpa using h2, fun q => h3 ⟨by omega, q.2⟩⟩
theorem pL.set {ls' : Array Slot} {nL : Nat} {L : List (Option Value)} {i : Nat} {v : Value} (h : lv_has ls' nL ((i, v) :: (lpairs L).filter (fun q => !(q.1 == i) && !(q.1 + 1 == i && q.2.category == 2)))) : pL ls' nL (lset L i v) := by
  refine ⟨h.1, h.2.1, fun j w hj => ?_⟩
  rcases lset_of L i v j w hj with ⟨h1, h2⟩ | ⟨h1, h2, h3⟩
  · subst h1; subst h2
    exact h.2.2 (j, w) List.mem_cons_self
  · refine h.2.2 (j, w) (List.mem_cons_of_mem _ (List.mem_filter.mpr ⟨lpairs_of h2, ?_⟩))
    have q1 : (j == i) = false := by simpa using h1
    have q2 : (j + 1 == i && w.category == 2) = false := by
      cases hc : (j + 1 == i && w.category == 2) with
      | false => rfl
      | true => simp at hc; exact absurd hc h3
    simp only [q1, q2]
    rfl
def lset2 (L : List (Option Value)) (i : Nat) (v : Value) : List (Option Value) := (lset L i v).set (i + 1) none
theorem pL.set2 {ls' : Array Slot} {nL : Nat} {L : List (Option Value)} {i : Nat} {v : Value} (h : lv_has ls' nL ((i, v) :: (lpairs L).filter (fun q => !(q.1 == i) && (!(q.1 == i + 1) && !(q.1 + 1 == i && q.2.category == 2))))) : pL ls' nL (lset2 L i v) := by
  refine ⟨h.1, h.2.1, fun j w hj => ?_⟩
  unfold lset2 at hj
  by_cases e : j = i + 1
  · subst e
    rw [List.getElem?_set_self' ] at hj
    cases hl : (lset L i v)[i + 1]? <;> simp [hl] at hj
  · rw [List.getElem?_set_ne (Ne.symm e)] at hj
    rcases lset_of L i v j w hj with ⟨h1, h2⟩ | ⟨h1, h2, h3⟩
    · subst h1; subst h2
      exact h.2.2 (j, w) List.mem_cons_self
    · refine h.2.2 (j, w) (List.mem_cons_of_mem _ (List.mem_filter.mpr ⟨lpairs_of h2, ?_⟩))
      have q1 : (j == i) = false := by simpa using h1
      have q3 : (j == i + 1) = false := by simpa using e
      have q2 : (j + 1 == i && w.category == 2) = false := by
        cases hc : (j + 1 == i && w.category == 2) with
        | false => rfl
        | true => simp at hc; exact absurd hc h3
      simp only [q1, q2, q3]
      rfl
theorem pL_args : ∀ (vs : List Value) (k i : Nat) (v : Value), (∀ v ∈ vs, v.category = 1) → (vs.map some)[i]? = some (some v) → (k + i, v) ∈ lv_args k vs
  | [], _, i, v, _, h => by simp at h
  | a :: t, k, i, v, hc, h => by
    have ha : a.category = 1 := hc a List.mem_cons_self
    show (k + i, v) ∈ (k, a) :: lv_args (if a.category = 2 then k + 2 else k + 1) t
    rw [if_neg (by omega)]
    cases i with
    | zero => simp at h; rw [h]; exact List.mem_cons_self
    | succ i =>
      refine List.mem_cons_of_mem _ ?_
      have h2 := pL_args t (k + 1) i v (fun x hx => hc x (List.mem_cons_of_mem _ hx)) (by simpa using h)
      rw [show k + (i + 1) = k + 1 + i by omega]
      exact h2
theorem pL_entry {vs : List Value} {n : Nat} (hc : ∀ v ∈ vs, v.category = 1) (hn : (lg_sl vs).length ≤ n) : pL ((lg_sl vs ++ List.replicate (n - (lg_sl vs).length) Slot.unset).toArray) n (vs.map some ++ List.replicate (n - vs.length) none) := by
  have h := lv_entry vs hn
  refine ⟨h.1, h.2.1, fun i v hi => ?_⟩
  have h2 : (vs.map some)[i]? = some (some v) := by
    by_cases hl : i < (vs.map (some : Value → Option Value)).length
    · rw [List.getElem?_append_left hl] at hi
      exact hi
    · rw [List.getElem?_append_right (by omega)] at hi
      have h3 := List.mem_of_getElem? hi
      have h4 := List.eq_of_mem_replicate h3
      cases h4
  have h5 := pL_args vs 0 i v hc h2
  rw [Nat.zero_add] at h5
  exact h.2.2 (i, v) h5
/-! the judgement -/
def pCx (p : Program) (s : State) (m : MethodId) (args : Array Value) (c : Code) (cc : ByteArray) (nL : Nat) (own : String) (E : pE) (A : Nat → Prop) : Prop := CallFix p m c cc nL s args uw own ∧ pK E s ∧ pS E A s s.heap ∧ ∀ q : Nat, s.heap.size ≤ q → A q
def pV (p : Program) (l : Launch) (e : Env) (R : Room) (s : State) (m : MethodId) (args : Array Value) (below : List Frame) (meth : Method) (c : Code) (nL : Nat) (E : pE) (A : Nat → Prop) (Q : State → Prop) (z : Nat) (h : pH) (k n : Nat) (pc : Nat) (L : List (Option Value)) (st : List Value) : Prop :=
  ∀ (H : Heap) (locs : List Loc) (ls : Array Slot), pR E A h H → H.size = z → va_S A s.heap H locs → pL ls nL L → W p l e R s m args below meth c H locs k n Q (F0 m pc ls st)
def pA (h : pH) (z : Nat) : Nat → Prop := fun q => h q ≠ none ∨ z ≤ q
/-- a contract: over every heap with 'pre', the method returns v, and the heap is then h' with 'post' -/
def pC (l : Launch) (E : pE) (y : MethodName) (cc : ByteArray) (nL : Nat) (ret : Option FieldType) (rm : Room) (mc ms : Nat) (vs : List Value) (pre : pH → Nat → Prop) (post : pH → Nat → Option Value → pH → Nat → Prop) : Prop :=
  ∀ (h : pH) (z : Nat), pre h z → Met l y (wy y cc nL ret) rm (va_Pc vs (fun U => U.heap.size = z ∧ pR E (pA h z) h U.heap ∧ pK E U ∧ pS E (pA h z) U U.heap)) (fun _ st oc t => (∃ (v : Option Value) (h' : pH) (z' : Nat), oc = .returned v ∧ post h z v h' z' ∧ t.heap.size = z' ∧ z ≤ z' ∧ pR E (pA h z) h' t.heap) ∧ va_F (pA h z) st t) mc ms (pA h z)
end
section
section PVR
variable {p : Program} {l : Launch} {e : Env} {R : Room} {s : State} {m : MethodId} {args : Array Value} {below : List Frame} {meth : Method} {c : Code} {cc : ByteArray} {nL : Nat} {own : String} {E : pE} {A : Nat → Prop} {Q : State → Prop} {z : Nat} {h : pH} {k n : Nat} {pc : Nat} {L : List (Option Value)} {st : List Value}
theorem v_iconst (X : pCx p s m args c cc nL own E A) {i : Int} {v : Int32} (hv : Int32.ofInt i = v := by first | rfl | decide) (hd : decode cc pc = .ok (.iconst i, 1)) (kk : pV p l e R s m args below meth c nL E A Q z h k n (pc + 1) L (.int v :: st)) : pV p l e R s m args below meth c nL E A Q z h k n pc L st := fun H locs ls a b c0 d => lv_iconst X.1.1 X.1.2.1 hd hv (kk H locs ls a b c0 d)
theorem v_bipush (X : pCx p s m args c cc nL own E A) {i : Int} {v : Int32} (hv : (Int8.ofInt i).toInt32 = v := by first | rfl | decide) (hd : decode cc pc = .ok (.bipush i, 2)) (kk : pV p l e R s m args below meth c nL E A Q z h k n (pc + 2) L (.int v :: st)) : pV p l e R s m args below meth c nL E A Q z h k n pc L st := fun H locs ls a b c0 d => lv_bipush X.1.1 X.1.2.1 hd hv (kk H locs ls a b c0 d)
theorem v_sipush (X : pCx p s m args c cc nL own E A) {i : Int} {v : Int32} (hv : (Int16.ofInt i).toInt32 = v := by first | rfl | decide) (hd : decode cc pc = .ok (.sipush i, 3)) (kk : pV p l e R s m args below meth c nL E A Q z h k n (pc + 3) L (.int v :: st)) : pV p l e R s m args below meth c nL E A Q z h k n pc L st := fun H locs ls a b c0 d => lv_sipush X.1.1 X.1.2.1 hd hv (kk H locs ls a b c0 d)
theorem v_lconst (X : pCx p s m args c cc nL own E A) {i : Fin 2} {v : Int64} (hv : Int64.ofNat (i : Nat) = v := by first | rfl | decide) (hd : decode cc pc = .ok (.lconst i, 1)) (kk : pV p l e R s m args below meth c nL E A Q z h k n (pc + 1) L (.long v :: st)) : pV p l e R s m args below meth c nL E A Q z h k n pc L st := fun H locs ls a b c0 d => lv_lconst X.1.1 X.1.2.1 hd hv (kk H locs ls a b c0 d)
theorem v_dconst1 (X : pCx p s m args c cc nL own E A)  (hd : decode cc pc = .ok (.dconst 1, 1)) (kk : pV p l e R s m args below meth c nL E A Q z h k n (pc + 1) L (.double FP.dconst1 :: st)) : pV p l e R s m args below meth c nL E A Q z h k n pc L st := fun H locs ls a b c0 d => lv_dconst1 X.1.1 X.1.2.1 hd  (kk H locs ls a b c0 d)
theorem v_iload_n (X : pCx p s m args c cc nL own E A) {i : Fin 4} {j : Nat} {x : Int32} (hj : (i : Nat) = j := by rfl) (hl : L[j]? = some (some (.int x)) := by rfl) (hd : decode cc pc = .ok (.iload_n i, 1)) (kk : pV p l e R s m args below meth c nL E A Q z h k n (pc + 1) L (.int x :: st)) : pV p l e R s m args below meth c nL E A Q z h k n pc L st := fun H locs ls a b c0 d => lv_iload_n X.1.1 X.1.2.1 hd hj (d.2.2 _ _ hl) (kk H locs ls a b c0 d)
theorem v_iload (X : pCx p s m args c cc nL own E A) {i : Nat} {x : Int32} (hl : L[i]? = some (some (.int x)) := by rfl) (hd : decode cc pc = .ok (.iload i, 2)) (kk : pV p l e R s m args below meth c nL E A Q z h k n (pc + 2) L (.int x :: st)) : pV p l e R s m args below meth c nL E A Q z h k n pc L st := fun H locs ls a b c0 d => lv_iload X.1.1 X.1.2.1 hd (d.2.2 _ _ hl) (kk H locs ls a b c0 d)
theorem v_aload_n (X : pCx p s m args c cc nL own E A) {i : Fin 4} {j : Nat} {x : Nat} (hj : (i : Nat) = j := by rfl) (hl : L[j]? = some (some (.ref x)) := by rfl) (hd : decode cc pc = .ok (.aload_n i, 1)) (kk : pV p l e R s m args below meth c nL E A Q z h k n (pc + 1) L (.ref x :: st)) : pV p l e R s m args below meth c nL E A Q z h k n pc L st := fun H locs ls a b c0 d => lv_aload_n X.1.1 X.1.2.1 hd hj (d.2.2 _ _ hl) (kk H locs ls a b c0 d)
theorem v_aload (X : pCx p s m args c cc nL own E A) {i : Nat} {x : Nat} (hl : L[i]? = some (some (.ref x)) := by rfl) (hd : decode cc pc = .ok (.aload i, 2)) (kk : pV p l e R s m args below meth c nL E A Q z h k n (pc + 2) L (.ref x :: st)) : pV p l e R s m args below meth c nL E A Q z h k n pc L st := fun H locs ls a b c0 d => lv_aload X.1.1 X.1.2.1 hd (d.2.2 _ _ hl) (kk H locs ls a b c0 d)
theorem v_lload_n (X : pCx p s m args c cc nL own E A) {i : Fin 4} {j : Nat} {x : Int64} (hj : (i : Nat) = j := by rfl) (hl : L[j]? = some (some (.long x)) := by rfl) (hd : decode cc pc = .ok (.lload_n i, 1)) (kk : pV p l e R s m args below meth c nL E A Q z h k n (pc + 1) L (.long x :: st)) : pV p l e R s m args below meth c nL E A Q z h k n pc L st := fun H locs ls a b c0 d => lv_lload_n X.1.1 X.1.2.1 hd hj (d.2.2 _ _ hl) (kk H locs ls a b c0 d)
theorem v_lload (X : pCx p s m args c cc nL own E A) {i : Nat} {x : Int64} (hl : L[i]? = some (some (.long x)) := by rfl) (hd : decode cc pc = .ok (.lload i, 2)) (kk : pV p l e R s m args below meth c nL E A Q z h k n (pc + 2) L (.long x :: st)) : pV p l e R s m args below meth c nL E A Q z h k n pc L st := fun H locs ls a b c0 d => lv_lload X.1.1 X.1.2.1 hd (d.2.2 _ _ hl) (kk H locs ls a b c0 d)
theorem v_istore_n (X : pCx p s m args c cc nL own E A) {i : Fin 4} {j : Nat} {x : Int32} (hd : decode cc pc = .ok (.istore_n i, 1)) (hj : (i : Nat) = j := by rfl) (hn : j < nL := by decide) (kk : pV p l e R s m args below meth c nL E A Q z h k n (pc + 1) (lset L j (.int x)) st) : pV p l e R s m args below meth c nL E A Q z h k n pc L (.int x :: st) := fun H locs ls a b c0 d => lv_istore_n X.1.1 X.1.2.1 hd hj d.has hn rfl (fun ls1 hls => kk H locs ls1 a b c0 (pL.set hls))
theorem v_istore (X : pCx p s m args c cc nL own E A) {j : Nat} {x : Int32} (hd : decode cc pc = .ok (.istore j, 2)) (hn : j < nL := by decide) (kk : pV p l e R s m args below meth c nL E A Q z h k n (pc + 2) (lset L j (.int x)) st) : pV p l e R s m args below meth c nL E A Q z h k n pc L (.int x :: st) := fun H locs ls a b c0 d => lv_istore X.1.1 X.1.2.1 hd d.has hn rfl (fun ls1 hls => kk H locs ls1 a b c0 (pL.set hls))
theorem v_astore_n (X : pCx p s m args c cc nL own E A) {i : Fin 4} {j : Nat} {x : Nat} (hd : decode cc pc = .ok (.astore_n i, 1)) (hj : (i : Nat) = j := by rfl) (hn : j < nL := by decide) (kk : pV p l e R s m args below meth c nL E A Q z h k n (pc + 1) (lset L j (.ref x)) st) : pV p l e R s m args below meth c nL E A Q z h k n pc L (.ref x :: st) := fun H locs ls a b c0 d => lv_astore_n X.1.1 X.1.2.1 hd hj d.has hn rfl (fun ls1 hls => kk H locs ls1 a b c0 (pL.set hls))
theorem v_astore (X : pCx p s m args c cc nL own E A) {j : Nat} {x : Nat} (hd : decode cc pc = .ok (.astore j, 2)) (hn : j < nL := by decide) (kk : pV p l e R s m args below meth c nL E A Q z h k n (pc + 2) (lset L j (.ref x)) st) : pV p l e R s m args below meth c nL E A Q z h k n pc L (.ref x :: st) := fun H locs ls a b c0 d => lv_astore X.1.1 X.1.2.1 hd d.has hn rfl (fun ls1 hls => kk H locs ls1 a b c0 (pL.set hls))
theorem v_lstore_n (X : pCx p s m args c cc nL own E A) {i : Fin 4} {j : Nat} {x : Int64} (hd : decode cc pc = .ok (.lstore_n i, 1)) (hj : (i : Nat) = j := by rfl) (hn : j + 1 < nL := by decide) (kk : pV p l e R s m args below meth c nL E A Q z h k n (pc + 1) (lset2 L j (.long x)) st) : pV p l e R s m args below meth c nL E A Q z h k n pc L (.long x :: st) := fun H locs ls a b c0 d => lv_lstore_n X.1.1 X.1.2.1 hd hj d.has hn rfl (fun ls1 hls => kk H locs ls1 a b c0 (pL.set2 hls))
theorem v_lstore (X : pCx p s m args c cc nL own E A) {j : Nat} {x : Int64} (hd : decode cc pc = .ok (.lstore j, 2)) (hn : j + 1 < nL := by decide) (kk : pV p l e R s m args below meth c nL E A Q z h k n (pc + 2) (lset2 L j (.long x)) st) : pV p l e R s m args below meth c nL E A Q z h k n pc L (.long x :: st) := fun H locs ls a b c0 d => lv_lstore X.1.1 X.1.2.1 hd d.has hn rfl (fun ls1 hls => kk H locs ls1 a b c0 (pL.set2 hls))
theorem v_iinc (X : pCx p s m args c cc nL own E A) {j : Nat} {i : Int} {x v : Int32} (hd : decode cc pc = .ok (.iinc j i, 3)) (hl : L[j]? = some (some (.int x)) := by rfl) (hv : x + Int32.ofInt i = v := by rfl) (hn : j < nL := by decide) (kk : pV p l e R s m args below meth c nL E A Q z h k n (pc + 3) (lset L j (.int v)) st) : pV p l e R s m args below meth c nL E A Q z h k n pc L st := fun H locs ls a b c0 d => by
  obtain ⟨q, hq⟩ := List.getElem?_of_mem (lpairs_of hl)
  exact lv_iinc X.1.1 X.1.2.1 hd d.has hq hv hn rfl (fun ls1 hls => kk H locs ls1 a b c0 (pL.set hls))
theorem v_iadd (X : pCx p s m args c cc nL own E A) {x y : Int32} (hd : decode cc pc = .ok (.iadd, 1)) (kk : pV p l e R s m args below meth c nL E A Q z h k n (pc + 1) L (.int (x + y) :: st)) : pV p l e R s m args below meth c nL E A Q z h k n pc L (.int y :: .int x :: st) := fun H locs ls a b c0 d => lv_iadd X.1.1 X.1.2.1 hd  (kk H locs ls a b c0 d)
theorem v_isub (X : pCx p s m args c cc nL own E A) {x y : Int32} (hd : decode cc pc = .ok (.isub, 1)) (kk : pV p l e R s m args below meth c nL E A Q z h k n (pc + 1) L (.int (x - y) :: st)) : pV p l e R s m args below meth c nL E A Q z h k n pc L (.int y :: .int x :: st) := fun H locs ls a b c0 d => lv_isub X.1.1 X.1.2.1 hd  (kk H locs ls a b c0 d)
theorem v_imul (X : pCx p s m args c cc nL own E A) {x y : Int32} (hd : decode cc pc = .ok (.imul, 1)) (kk : pV p l e R s m args below meth c nL E A Q z h k n (pc + 1) L (.int (x * y) :: st)) : pV p l e R s m args below meth c nL E A Q z h k n pc L (.int y :: .int x :: st) := fun H locs ls a b c0 d => lv_imul X.1.1 X.1.2.1 hd  (kk H locs ls a b c0 d)
theorem v_iand (X : pCx p s m args c cc nL own E A) {x y : Int32} (hd : decode cc pc = .ok (.iand, 1)) (kk : pV p l e R s m args below meth c nL E A Q z h k n (pc + 1) L (.int (x &&& y) :: st)) : pV p l e R s m args below meth c nL E A Q z h k n pc L (.int y :: .int x :: st) := fun H locs ls a b c0 d => lv_iand X.1.1 X.1.2.1 hd  (kk H locs ls a b c0 d)
theorem v_ior (X : pCx p s m args c cc nL own E A) {x y : Int32} (hd : decode cc pc = .ok (.ior, 1)) (kk : pV p l e R s m args below meth c nL E A Q z h k n (pc + 1) L (.int (x ||| y) :: st)) : pV p l e R s m args below meth c nL E A Q z h k n pc L (.int y :: .int x :: st) := fun H locs ls a b c0 d => lv_ior X.1.1 X.1.2.1 hd  (kk H locs ls a b c0 d)
theorem v_ixor (X : pCx p s m args c cc nL own E A) {x y : Int32} (hd : decode cc pc = .ok (.ixor, 1)) (kk : pV p l e R s m args below meth c nL E A Q z h k n (pc + 1) L (.int (x ^^^ y) :: st)) : pV p l e R s m args below meth c nL E A Q z h k n pc L (.int y :: .int x :: st) := fun H locs ls a b c0 d => lv_ixor X.1.1 X.1.2.1 hd  (kk H locs ls a b c0 d)
theorem v_ishl (X : pCx p s m args c cc nL own E A) {x y : Int32} (hd : decode cc pc = .ok (.ishl, 1)) (kk : pV p l e R s m args below meth c nL E A Q z h k n (pc + 1) L (.int (x <<< (y &&& 31)) :: st)) : pV p l e R s m args below meth c nL E A Q z h k n pc L (.int y :: .int x :: st) := fun H locs ls a b c0 d => lv_ishl X.1.1 X.1.2.1 hd  (kk H locs ls a b c0 d)
theorem v_ishr (X : pCx p s m args c cc nL own E A) {x y : Int32} (hd : decode cc pc = .ok (.ishr, 1)) (kk : pV p l e R s m args below meth c nL E A Q z h k n (pc + 1) L (.int (x >>> (y &&& 31)) :: st)) : pV p l e R s m args below meth c nL E A Q z h k n pc L (.int y :: .int x :: st) := fun H locs ls a b c0 d => lv_ishr X.1.1 X.1.2.1 hd  (kk H locs ls a b c0 d)
theorem v_ladd (X : pCx p s m args c cc nL own E A) {x y : Int64} (hd : decode cc pc = .ok (.ladd, 1)) (kk : pV p l e R s m args below meth c nL E A Q z h k n (pc + 1) L (.long (x + y) :: st)) : pV p l e R s m args below meth c nL E A Q z h k n pc L (.long y :: .long x :: st) := fun H locs ls a b c0 d => lv_ladd X.1.1 X.1.2.1 hd  (kk H locs ls a b c0 d)
theorem v_lsub (X : pCx p s m args c cc nL own E A) {x y : Int64} (hd : decode cc pc = .ok (.lsub, 1)) (kk : pV p l e R s m args below meth c nL E A Q z h k n (pc + 1) L (.long (x - y) :: st)) : pV p l e R s m args below meth c nL E A Q z h k n pc L (.long y :: .long x :: st) := fun H locs ls a b c0 d => lv_lsub X.1.1 X.1.2.1 hd  (kk H locs ls a b c0 d)
theorem v_lmul (X : pCx p s m args c cc nL own E A) {x y : Int64} (hd : decode cc pc = .ok (.lmul, 1)) (kk : pV p l e R s m args below meth c nL E A Q z h k n (pc + 1) L (.long (x * y) :: st)) : pV p l e R s m args below meth c nL E A Q z h k n pc L (.long y :: .long x :: st) := fun H locs ls a b c0 d => lv_lmul X.1.1 X.1.2.1 hd  (kk H locs ls a b c0 d)
theorem v_idiv (X : pCx p s m args c cc nL own E A) {x y : Int32} (hne : ¬ y = 0) (hd : decode cc pc = .ok (.idiv, 1)) (kk : pV p l e R s m args below meth c nL E A Q z h k n (pc + 1) L (.int (x / y) :: st)) : pV p l e R s m args below meth c nL E A Q z h k n pc L (.int y :: .int x :: st) := fun H locs ls a b c0 d => lv_idiv X.1.1 X.1.2.1 hd hne (kk H locs ls a b c0 d)
theorem v_ldiv (X : pCx p s m args c cc nL own E A) {x y : Int64} (hne : ¬ y = 0) (hd : decode cc pc = .ok (.ldiv, 1)) (kk : pV p l e R s m args below meth c nL E A Q z h k n (pc + 1) L (.long (x / y) :: st)) : pV p l e R s m args below meth c nL E A Q z h k n pc L (.long y :: .long x :: st) := fun H locs ls a b c0 d => lv_ldiv X.1.1 X.1.2.1 hd hne (kk H locs ls a b c0 d)
theorem v_lcmp (X : pCx p s m args c cc nL own E A) {x y : Int64} (hd : decode cc pc = .ok (.lcmp, 1)) (kk : pV p l e R s m args below meth c nL E A Q z h k n (pc + 1) L (.int (lg_cmp x y) :: st)) : pV p l e R s m args below meth c nL E A Q z h k n pc L (.long y :: .long x :: st) := fun H locs ls a b c0 d => W.lcmp X.1.1 X.1.2.1 hd  (kk H locs ls a b c0 d)
theorem v_i2l (X : pCx p s m args c cc nL own E A) {x : Int32} (hd : decode cc pc = .ok (.i2l, 1)) (kk : pV p l e R s m args below meth c nL E A Q z h k n (pc + 1) L (.long x.toInt64 :: st)) : pV p l e R s m args below meth c nL E A Q z h k n pc L (.int x :: st) := fun H locs ls a b c0 d => lv_i2l X.1.1 X.1.2.1 hd rfl (kk H locs ls a b c0 d)
theorem v_l2i (X : pCx p s m args c cc nL own E A) {x : Int64} (hd : decode cc pc = .ok (.l2i, 1)) (kk : pV p l e R s m args below meth c nL E A Q z h k n (pc + 1) L (.int x.toInt32 :: st)) : pV p l e R s m args below meth c nL E A Q z h k n pc L (.long x :: st) := fun H locs ls a b c0 d => lv_l2i X.1.1 X.1.2.1 hd rfl (kk H locs ls a b c0 d)
theorem v_i2c (X : pCx p s m args c cc nL own E A) {x : Int32} (hd : decode cc pc = .ok (.i2c, 1)) (kk : pV p l e R s m args below meth c nL E A Q z h k n (pc + 1) L (.int (x.toUInt32 % 65536).toInt32 :: st)) : pV p l e R s m args below meth c nL E A Q z h k n pc L (.int x :: st) := fun H locs ls a b c0 d => lv_i2c X.1.1 X.1.2.1 hd rfl (kk H locs ls a b c0 d)
theorem v_i2d (X : pCx p s m args c cc nL own E A) {x : Int32} (hd : decode cc pc = .ok (.i2d, 1)) (kk : pV p l e R s m args below meth c nL E A Q z h k n (pc + 1) L (.double (FP.i2d x) :: st)) : pV p l e R s m args below meth c nL E A Q z h k n pc L (.int x :: st) := fun H locs ls a b c0 d => lv_i2d X.1.1 X.1.2.1 hd  (kk H locs ls a b c0 d)
theorem v_d2i (X : pCx p s m args c cc nL own E A) {x : UInt64} (hd : decode cc pc = .ok (.d2i, 1)) (kk : pV p l e R s m args below meth c nL E A Q z h k n (pc + 1) L (.int (FP.d2i x) :: st)) : pV p l e R s m args below meth c nL E A Q z h k n pc L (.double x :: st) := fun H locs ls a b c0 d => lv_d2i X.1.1 X.1.2.1 hd  (kk H locs ls a b c0 d)
theorem v_dsub (X : pCx p s m args c cc nL own E A) {x y : UInt64} (hne : vf_n64 (FP.dsub x y)) (hd : decode cc pc = .ok (.dsub, 1)) (kk : pV p l e R s m args below meth c nL E A Q z h k n (pc + 1) L (.double (FP.dsub x y) :: st)) : pV p l e R s m args below meth c nL E A Q z h k n pc L (.double y :: .double x :: st) := fun H locs ls a b c0 d => lv_dsub X.1.1 X.1.2.1 hd hne (kk H locs ls a b c0 d)
theorem v_dmul (X : pCx p s m args c cc nL own E A) {x y : UInt64} (hne : vf_n64 (FP.dmul x y)) (hd : decode cc pc = .ok (.dmul, 1)) (kk : pV p l e R s m args below meth c nL E A Q z h k n (pc + 1) L (.double (FP.dmul x y) :: st)) : pV p l e R s m args below meth c nL E A Q z h k n pc L (.double y :: .double x :: st) := fun H locs ls a b c0 d => lv_dmul X.1.1 X.1.2.1 hd hne (kk H locs ls a b c0 d)
theorem v_ddiv (X : pCx p s m args c cc nL own E A) {x y : UInt64} (hne : vf_n64 (FP.ddiv x y)) (hd : decode cc pc = .ok (.ddiv, 1)) (kk : pV p l e R s m args below meth c nL E A Q z h k n (pc + 1) L (.double (FP.ddiv x y) :: st)) : pV p l e R s m args below meth c nL E A Q z h k n pc L (.double y :: .double x :: st) := fun H locs ls a b c0 d => lv_ddiv X.1.1 X.1.2.1 hd hne (kk H locs ls a b c0 d)
theorem v_dup (X : pCx p s m args c cc nL own E A) {va : Value} (hva : va.category = 1 := by rfl) (hd : decode cc pc = .ok (.dup, 1)) (kk : pV p l e R s m args below meth c nL E A Q z h k n (pc + 1) L (va :: va :: st)) : pV p l e R s m args below meth c nL E A Q z h k n pc L (va :: st) := fun H locs ls a b c0 d => lv_dup X.1.1 X.1.2.1 hd hva (kk H locs ls a b c0 d)
theorem v_pop (X : pCx p s m args c cc nL own E A) {va : Value} (hva : va.category = 1 := by rfl) (hd : decode cc pc = .ok (.pop, 1)) (kk : pV p l e R s m args below meth c nL E A Q z h k n (pc + 1) L st) : pV p l e R s m args below meth c nL E A Q z h k n pc L (va :: st) := fun H locs ls a b c0 d => lv_pop X.1.1 X.1.2.1 hd hva (kk H locs ls a b c0 d)
theorem v_dup2 (X : pCx p s m args c cc nL own E A) {va vb : Value} (hva : va.category = 1 := by rfl) (hvb : vb.category = 1 := by rfl) (hd : decode cc pc = .ok (.dup2, 1)) (kk : pV p l e R s m args below meth c nL E A Q z h k n (pc + 1) L (va :: vb :: va :: vb :: st)) : pV p l e R s m args below meth c nL E A Q z h k n pc L (va :: vb :: st) := fun H locs ls a b c0 d => lv_dup2_11 X.1.1 X.1.2.1 hd hva hvb (kk H locs ls a b c0 d)
theorem v_dup_x1 (X : pCx p s m args c cc nL own E A) {va vb : Value} (hva : va.category = 1 := by rfl) (hvb : vb.category = 1 := by rfl) (hd : decode cc pc = .ok (.dup_x1, 1)) (kk : pV p l e R s m args below meth c nL E A Q z h k n (pc + 1) L (va :: vb :: va :: st)) : pV p l e R s m args below meth c nL E A Q z h k n pc L (va :: vb :: st) := fun H locs ls a b c0 d => lv_dup_x1 X.1.1 X.1.2.1 hd hva hvb (kk H locs ls a b c0 d)
theorem v_dup_x2 (X : pCx p s m args c cc nL own E A) {va vb vd : Value} (hva : va.category = 1 := by rfl) (hvb : vb.category = 1 := by rfl) (hvd : vd.category = 1 := by rfl) (hd : decode cc pc = .ok (.dup_x2, 1)) (kk : pV p l e R s m args below meth c nL E A Q z h k n (pc + 1) L (va :: vb :: vd :: va :: st)) : pV p l e R s m args below meth c nL E A Q z h k n pc L (va :: vb :: vd :: st) := fun H locs ls a b c0 d => lv_dup_x2 X.1.1 X.1.2.1 hd hva hvb hvd (kk H locs ls a b c0 d)
theorem v_ldc (X : pCx p s m args c cc nL own E A) {i : Nat} {v : Int32} (hw : Cond.constant own i v ∈ uw) (hd : decode cc pc = .ok (.ldc i, 2)) (kk : pV p l e R s m args below meth c nL E A Q z h k n (pc + 2) L (.int v :: st)) : pV p l e R s m args below meth c nL E A Q z h k n pc L st := fun H locs ls a b c0 d => lv_ldc X.1.1 X.1.2.1 X.1.2.2.2.1 (X.1.2.2.2.2 _ hw) hd (kk H locs ls a b c0 d)
theorem v_ldc2 (X : pCx p s m args c cc nL own E A) {i : Nat} {v : Int64} (hw : Cond.constantLong own i v ∈ uw) (hd : decode cc pc = .ok (.ldc2_w i, 3)) (kk : pV p l e R s m args below meth c nL E A Q z h k n (pc + 3) L (.long v :: st)) : pV p l e R s m args below meth c nL E A Q z h k n pc L st := fun H locs ls a b c0 d => lv_ldc2 X.1.1 X.1.2.1 X.1.2.2.2.1 (X.1.2.2.2.2 _ hw) hd (kk H locs ls a b c0 d)
theorem v_ldc2d (X : pCx p s m args c cc nL own E A) {i : Nat} {v : UInt64} (hw : Cond.constantDouble own i v ∈ uw) (hd : decode cc pc = .ok (.ldc2_w i, 3)) (kk : pV p l e R s m args below meth c nL E A Q z h k n (pc + 3) L (.double v :: st)) : pV p l e R s m args below meth c nL E A Q z h k n pc L st := fun H locs ls a b c0 d => lv_ldc2d X.1.1 X.1.2.1 X.1.2.2.2.1 (X.1.2.2.2.2 _ hw) hd (kk H locs ls a b c0 d)
theorem v_ifeq (X : pCx p s m args c cc nL own E A) {x : Int32} {off : Int} {tgt : Nat} (hd : decode cc pc = .ok (.ifCond .eq off, 3)) (ht : (pc : Int) + off = (tgt : Int) := by decide) (kt : x = 0 → pV p l e R s m args below meth c nL E A Q z h k n tgt L st) (kf : ¬ (x = 0) → pV p l e R s m args below meth c nL E A Q z h k n (pc + 3) L st) : pV p l e R s m args below meth c nL E A Q z h k n pc L (.int x :: st) := fun H locs ls a b c0 d => lv_if_eq X.1.1 X.1.2.1 hd ht (fun q => kt (by first | exact q | simpa using q) H locs ls a b c0 d) (fun q => kf (by first | exact q | simpa using q) H locs ls a b c0 d)
theorem v_icmpeq (X : pCx p s m args c cc nL own E A) {x y : Int32} {off : Int} {tgt : Nat} (hd : decode cc pc = .ok (.if_icmp .eq off, 3)) (ht : (pc : Int) + off = (tgt : Int) := by decide) (kt : x = y → pV p l e R s m args below meth c nL E A Q z h k n tgt L st) (kf : ¬ (x = y) → pV p l e R s m args below meth c nL E A Q z h k n (pc + 3) L st) : pV p l e R s m args below meth c nL E A Q z h k n pc L (.int y :: .int x :: st) := fun H locs ls a b c0 d => lv_icmp_eq X.1.1 X.1.2.1 hd ht (fun q => kt (by first | exact q | simpa using q) H locs ls a b c0 d) (fun q => kf (by first | exact q | simpa using q) H locs ls a b c0 d)
theorem v_ifne (X : pCx p s m args c cc nL own E A) {x : Int32} {off : Int} {tgt : Nat} (hd : decode cc pc = .ok (.ifCond .ne off, 3)) (ht : (pc : Int) + off = (tgt : Int) := by decide) (kt : ¬ x = 0 → pV p l e R s m args below meth c nL E A Q z h k n tgt L st) (kf : ¬ (¬ x = 0) → pV p l e R s m args below meth c nL E A Q z h k n (pc + 3) L st) : pV p l e R s m args below meth c nL E A Q z h k n pc L (.int x :: st) := fun H locs ls a b c0 d => lv_if_ne X.1.1 X.1.2.1 hd ht (fun q => kt (by first | exact q | simpa using q) H locs ls a b c0 d) (fun q => kf (by first | exact q | simpa using q) H locs ls a b c0 d)
theorem v_icmpne (X : pCx p s m args c cc nL own E A) {x y : Int32} {off : Int} {tgt : Nat} (hd : decode cc pc = .ok (.if_icmp .ne off, 3)) (ht : (pc : Int) + off = (tgt : Int) := by decide) (kt : ¬ x = y → pV p l e R s m args below meth c nL E A Q z h k n tgt L st) (kf : ¬ (¬ x = y) → pV p l e R s m args below meth c nL E A Q z h k n (pc + 3) L st) : pV p l e R s m args below meth c nL E A Q z h k n pc L (.int y :: .int x :: st) := fun H locs ls a b c0 d => lv_icmp_ne X.1.1 X.1.2.1 hd ht (fun q => kt (by first | exact q | simpa using q) H locs ls a b c0 d) (fun q => kf (by first | exact q | simpa using q) H locs ls a b c0 d)
theorem v_iflt (X : pCx p s m args c cc nL own E A) {x : Int32} {off : Int} {tgt : Nat} (hd : decode cc pc = .ok (.ifCond .lt off, 3)) (ht : (pc : Int) + off = (tgt : Int) := by decide) (kt : x < 0 → pV p l e R s m args below meth c nL E A Q z h k n tgt L st) (kf : ¬ (x < 0) → pV p l e R s m args below meth c nL E A Q z h k n (pc + 3) L st) : pV p l e R s m args below meth c nL E A Q z h k n pc L (.int x :: st) := fun H locs ls a b c0 d => lv_if_lt X.1.1 X.1.2.1 hd ht (fun q => kt (by first | exact q | simpa using q) H locs ls a b c0 d) (fun q => kf (by first | exact q | simpa using q) H locs ls a b c0 d)
theorem v_icmplt (X : pCx p s m args c cc nL own E A) {x y : Int32} {off : Int} {tgt : Nat} (hd : decode cc pc = .ok (.if_icmp .lt off, 3)) (ht : (pc : Int) + off = (tgt : Int) := by decide) (kt : x < y → pV p l e R s m args below meth c nL E A Q z h k n tgt L st) (kf : ¬ (x < y) → pV p l e R s m args below meth c nL E A Q z h k n (pc + 3) L st) : pV p l e R s m args below meth c nL E A Q z h k n pc L (.int y :: .int x :: st) := fun H locs ls a b c0 d => lv_icmp_lt X.1.1 X.1.2.1 hd ht (fun q => kt (by first | exact q | simpa using q) H locs ls a b c0 d) (fun q => kf (by first | exact q | simpa using q) H locs ls a b c0 d)
theorem v_ifge (X : pCx p s m args c cc nL own E A) {x : Int32} {off : Int} {tgt : Nat} (hd : decode cc pc = .ok (.ifCond .ge off, 3)) (ht : (pc : Int) + off = (tgt : Int) := by decide) (kt : 0 ≤ x → pV p l e R s m args below meth c nL E A Q z h k n tgt L st) (kf : ¬ (0 ≤ x) → pV p l e R s m args below meth c nL E A Q z h k n (pc + 3) L st) : pV p l e R s m args below meth c nL E A Q z h k n pc L (.int x :: st) := fun H locs ls a b c0 d => lv_if_ge X.1.1 X.1.2.1 hd ht (fun q => kt (by first | exact q | simpa using q) H locs ls a b c0 d) (fun q => kf (by first | exact q | simpa using q) H locs ls a b c0 d)
theorem v_icmpge (X : pCx p s m args c cc nL own E A) {x y : Int32} {off : Int} {tgt : Nat} (hd : decode cc pc = .ok (.if_icmp .ge off, 3)) (ht : (pc : Int) + off = (tgt : Int) := by decide) (kt : y ≤ x → pV p l e R s m args below meth c nL E A Q z h k n tgt L st) (kf : ¬ (y ≤ x) → pV p l e R s m args below meth c nL E A Q z h k n (pc + 3) L st) : pV p l e R s m args below meth c nL E A Q z h k n pc L (.int y :: .int x :: st) := fun H locs ls a b c0 d => lv_icmp_ge X.1.1 X.1.2.1 hd ht (fun q => kt (by first | exact q | simpa using q) H locs ls a b c0 d) (fun q => kf (by first | exact q | simpa using q) H locs ls a b c0 d)
theorem v_ifgt (X : pCx p s m args c cc nL own E A) {x : Int32} {off : Int} {tgt : Nat} (hd : decode cc pc = .ok (.ifCond .gt off, 3)) (ht : (pc : Int) + off = (tgt : Int) := by decide) (kt : 0 < x → pV p l e R s m args below meth c nL E A Q z h k n tgt L st) (kf : ¬ (0 < x) → pV p l e R s m args below meth c nL E A Q z h k n (pc + 3) L st) : pV p l e R s m args below meth c nL E A Q z h k n pc L (.int x :: st) := fun H locs ls a b c0 d => lv_if_gt X.1.1 X.1.2.1 hd ht (fun q => kt (by first | exact q | simpa using q) H locs ls a b c0 d) (fun q => kf (by first | exact q | simpa using q) H locs ls a b c0 d)
theorem v_icmpgt (X : pCx p s m args c cc nL own E A) {x y : Int32} {off : Int} {tgt : Nat} (hd : decode cc pc = .ok (.if_icmp .gt off, 3)) (ht : (pc : Int) + off = (tgt : Int) := by decide) (kt : y < x → pV p l e R s m args below meth c nL E A Q z h k n tgt L st) (kf : ¬ (y < x) → pV p l e R s m args below meth c nL E A Q z h k n (pc + 3) L st) : pV p l e R s m args below meth c nL E A Q z h k n pc L (.int y :: .int x :: st) := fun H locs ls a b c0 d => lv_icmp_gt X.1.1 X.1.2.1 hd ht (fun q => kt (by first | exact q | simpa using q) H locs ls a b c0 d) (fun q => kf (by first | exact q | simpa using q) H locs ls a b c0 d)
theorem v_ifle (X : pCx p s m args c cc nL own E A) {x : Int32} {off : Int} {tgt : Nat} (hd : decode cc pc = .ok (.ifCond .le off, 3)) (ht : (pc : Int) + off = (tgt : Int) := by decide) (kt : x ≤ 0 → pV p l e R s m args below meth c nL E A Q z h k n tgt L st) (kf : ¬ (x ≤ 0) → pV p l e R s m args below meth c nL E A Q z h k n (pc + 3) L st) : pV p l e R s m args below meth c nL E A Q z h k n pc L (.int x :: st) := fun H locs ls a b c0 d => lv_if_le X.1.1 X.1.2.1 hd ht (fun q => kt (by first | exact q | simpa using q) H locs ls a b c0 d) (fun q => kf (by first | exact q | simpa using q) H locs ls a b c0 d)
theorem v_icmple (X : pCx p s m args c cc nL own E A) {x y : Int32} {off : Int} {tgt : Nat} (hd : decode cc pc = .ok (.if_icmp .le off, 3)) (ht : (pc : Int) + off = (tgt : Int) := by decide) (kt : x ≤ y → pV p l e R s m args below meth c nL E A Q z h k n tgt L st) (kf : ¬ (x ≤ y) → pV p l e R s m args below meth c nL E A Q z h k n (pc + 3) L st) : pV p l e R s m args below meth c nL E A Q z h k n pc L (.int y :: .int x :: st) := fun H locs ls a b c0 d => lv_icmp_le X.1.1 X.1.2.1 hd ht (fun q => kt (by first | exact q | simpa using q) H locs ls a b c0 d) (fun q => kf (by first | exact q | simpa using q) H locs ls a b c0 d)
theorem v_goto (X : pCx p s m args c cc nL own E A) {off : Int} {tgt : Nat} (hd : decode cc pc = .ok (.goto off, 3)) (ht : (pc : Int) + off = (tgt : Int) := by decide) (kk : pV p l e R s m args below meth c nL E A Q z h k n tgt L st) : pV p l e R s m args below meth c nL E A Q z h k n pc L st := fun H locs ls a b c0 d => lv_goto X.1.1 X.1.2.1 hd ht (kk H locs ls a b c0 d)
theorem v_tabOut (X : pCx p s m args c cc nL own E A) {dflt lo hi : Int} {offs : Array Int} {len : Nat} {x : Int32} {tgt : Nat} (hd : decode cc pc = .ok (.tableswitch dflt lo hi offs, len)) (h0 : x.toInt < lo ∨ hi < x.toInt) (ht : (pc : Int) + dflt = (tgt : Int) := by decide) (kk : pV p l e R s m args below meth c nL E A Q z h k n tgt L st) : pV p l e R s m args below meth c nL E A Q z h k n pc L (.int x :: st) := fun H locs ls a b c0 d => lv_tableOut X.1.1 X.1.2.1 hd h0 ht (kk H locs ls a b c0 d)
theorem v_tabIn (X : pCx p s m args c cc nL own E A) {dflt lo hi : Int} {offs : Array Int} {len : Nat} {x : Int32} {off : Int} {tgt : Nat} (hd : decode cc pc = .ok (.tableswitch dflt lo hi offs, len)) (j : Nat) (hx : x.toInt = lo + (j : Int)) (hj : lo + (j : Int) ≤ hi := by decide) (ho : offs[j]? = some off := by rfl) (ht : (pc : Int) + off = (tgt : Int) := by decide) (kk : pV p l e R s m args below meth c nL E A Q z h k n tgt L st) : pV p l e R s m args below meth c nL E A Q z h k n pc L (.int x :: st) := fun H locs ls a b c0 d => lv_tableIn X.1.1 X.1.2.1 hd (by omega) (by omega) (by rw [show (x.toInt - lo).toNat = j by omega]; exact ho) ht (kk H locs ls a b c0 d)
theorem v_sub (L1 : List (Option Value)) (hs : ∀ (i : Nat) (v : Value), L1[i]? = some (some v) → L[i]? = some (some v)) (kk : pV p l e R s m args below meth c nL E A Q z h k n pc L1 st) : pV p l e R s m args below meth c nL E A Q z h k n pc L st := fun H locs ls a b c0 d => kk H locs ls a b c0 ⟨d.1, d.2.1, fun i v hi => d.2.2 i v (hs i v hi)⟩
theorem v_heap (h1 : pH) (hs : h1 = h) (kk : pV p l e R s m args below meth c nL E A Q z h1 k n pc L st) : pV p l e R s m args below meth c nL E A Q z h k n pc L st := hs ▸ kk
theorem v_topi {x : Int32} (kk : ∀ y : Int32, y = x → pV p l e R s m args below meth c nL E A Q z h k n pc L (.int y :: st)) : pV p l e R s m args below meth c nL E A Q z h k n pc L (.int x :: st) := kk x rfl
theorem v_widen {k1 n1 : Nat} (h1 : k ≤ k1) (h2 : n ≤ n1) (kk : pV p l e R s m args below meth c nL E A Q z h k1 n1 pc L st) : pV p l e R s m args below meth c nL E A Q z h k n pc L st := fun H locs ls a b c0 d => W.widen h1 h2 (kk H locs ls a b c0 d)
theorem v_iald (X : pCx p s m args c cc nL own E A) {a0 N : Nat} {f : Nat → Int32} {i : Int32} (hd : decode cc pc = .ok (.iaload, 1)) (hh : h a0 = some (ai 1 N f)) (hi : vp_in i N) (kk : pV p l e R s m args below meth c nL E A Q z h k n (pc + 1) L (.int (f i.toNatClampNeg) :: st)) : pV p l e R s m args below meth c nL E A Q z h k n pc L (.int i :: .ref a0 :: st) := fun H locs ls a b c0 d => by
  have hlt : i.toNatClampNeg < N := Nat.not_le.mp fun q => hi (Or.inr q)
  have hc : H[a0]? = some (vp_cell (E.2.2.1 1) (N, .inl f)) := (a a0 _ hh).1
  have hk := (X.2.1.2.1 1 (by decide)).1
  exact W.iald (v := .int (f i.toNatClampNeg)) X.1.1 X.1.2.1 hc (hk N (fun j => .int (f j))) (fun q => by cases q) (by show ¬ (i < 0 ∨ (arrV _ _ _).slots.size ≤ _); rw [arrV_size]; exact hi) (by show (arrV _ _ _).slots[_]? = _; rw [arrV_read _ _ hlt]) rfl rfl hd (kk H locs ls a b c0 d)
theorem v_zald (X : pCx p s m args c cc nL own E A) {a0 N : Nat} {f : Nat → Int32} {i : Int32} (hd : decode cc pc = .ok (.baload, 1)) (hh : h a0 = some (ai 2 N f)) (hi : vp_in i N) (kk : pV p l e R s m args below meth c nL E A Q z h k n (pc + 1) L (.int (f i.toNatClampNeg) :: st)) : pV p l e R s m args below meth c nL E A Q z h k n pc L (.int i :: .ref a0 :: st) := fun H locs ls a b c0 d => by
  have hlt : i.toNatClampNeg < N := Nat.not_le.mp fun q => hi (Or.inr q)
  have hc : H[a0]? = some (vp_cell (E.2.2.1 2) (N, .inl f)) := (a a0 _ hh).1
  have hk := (X.2.1.2.1 2 (by decide)).1
  exact W.zald (v := .int (f i.toNatClampNeg)) X.1.1 X.1.2.1 hc (hk N (fun j => .int (f j))) (fun q => by cases q) (by show ¬ (i < 0 ∨ (arrV _ _ _).slots.size ≤ _); rw [arrV_size]; exact hi) (by show (arrV _ _ _).slots[_]? = _; rw [arrV_read _ _ hlt]) rfl rfl hd (kk H locs ls a b c0 d)
theorem v_cald (X : pCx p s m args c cc nL own E A) {a0 N : Nat} {f : Nat → Int32} {i : Int32} (hd : decode cc pc = .ok (.caload, 1)) (hh : h a0 = some (ai 0 N f)) (hi : vp_in i N) (kk : pV p l e R s m args below meth c nL E A Q z h k n (pc + 1) L (.int (f i.toNatClampNeg) :: st)) : pV p l e R s m args below meth c nL E A Q z h k n pc L (.int i :: .ref a0 :: st) := fun H locs ls a b c0 d => by
  have hlt : i.toNatClampNeg < N := Nat.not_le.mp fun q => hi (Or.inr q)
  have hc : H[a0]? = some (vp_cell (E.2.2.1 0) (N, .inl f)) := (a a0 _ hh).1
  have hk := (X.2.1.2.1 0 (by decide)).1
  exact W.cald (v := .int (f i.toNatClampNeg)) X.1.1 X.1.2.1 hc (hk N (fun j => .int (f j))) (fun q => by cases q) (by show ¬ (i < 0 ∨ (arrV _ _ _).slots.size ≤ _); rw [arrV_size]; exact hi) (by show (arrV _ _ _).slots[_]? = _; rw [arrV_read _ _ hlt]) rfl rfl hd (kk H locs ls a b c0 d)
theorem v_aald (X : pCx p s m args c cc nL own E A) {a0 N ki y : Nat} {C : String} {f : Nat → Option Nat} {i : Int32} (hd : decode cc pc = .ok (.aaload, 1)) (hh : h a0 = some (ar ki N f)) (hi : vp_in i N) (hki : ki < 8 := by decide) (hC : pT ki = .object C := by rfl) (hf : f i.toNatClampNeg = some y) (kk : pV p l e R s m args below meth c nL E A Q z h k n (pc + 1) L (.ref y :: st)) : pV p l e R s m args below meth c nL E A Q z h k n pc L (.int i :: .ref a0 :: st) := fun H locs ls a b c0 d => by
  have hlt : i.toNatClampNeg < N := Nat.not_le.mp fun q => hi (Or.inr q)
  have hc : H[a0]? = some (vp_cell (E.2.2.1 ki) (N, .inr (.inr (.inr (.inr f))))) := (a a0 _ hh).1
  have hk := (X.2.1.2.1 ki hki).1
  rw [hC] at hk
  exact W.aald (v := .ref y) (ty := .object C) X.1.1 X.1.2.1 hc (hk N (fun j => va_rf (f j))) rfl (fun q => by cases q) (by show ¬ (i < 0 ∨ (arrV _ _ _).slots.size ≤ _); rw [arrV_size]; exact hi) (by show (arrV _ _ _).slots[_]? = _; rw [arrV_read _ _ hlt, hf]; rfl) rfl rfl hd (kk H locs ls a b c0 d)
theorem v_iast (X : pCx p s m args c cc nL own E A) {a0 N : Nat} {f : Nat → Int32} {i x : Int32} (hd : decode cc pc = .ok (.iastore, 1)) (hh : h a0 = some (ai 1 N f)) (hi : vp_in i N) (kk : pV p l e R s m args below meth c nL E A Q z (pset h a0 (ai 1 N (upd f i.toNatClampNeg x))) k n (pc + 1) L st) : pV p l e R s m args below meth c nL E A Q z h k n pc L (.int x :: .int i :: .ref a0 :: st) := fun H locs ls a b c0 d => by
  have hc : H[a0]? = some (vp_cell (E.2.2.1 1) (N, .inl f)) := (a a0 _ hh).1
  have hk := (X.2.1.2.1 1 (by decide)).1
  refine W.iast X.1.1 X.1.2.1 hc (hk N (fun j => .int (f j))) (fun q => by cases q) (by show ¬ (i < 0 ∨ (arrV _ _ _).slots.size ≤ _); rw [arrV_size]; exact hi) rfl rfl hd fun H1 e1 z1 oq => ?_
  refine kk H1 _ ls (a.set (a a0 _ hh).2 ?_ oq) (by rw [z1]; exact b) (c0.put z1 oq (a a0 _ hh).2) d
  show H1[a0]? = some (vp_cell _ _)
  rw [e1]
  rw [vp_cell_i, vp_cell_i, arrV_store]
  congr 2
  funext q
  by_cases hq : q = i.toNatClampNeg
  · subst hq
    simp [updV, upd, vp_nar]
    try rfl
  · simp [updV, upd, hq]
theorem v_zast (X : pCx p s m args c cc nL own E A) {a0 N : Nat} {f : Nat → Int32} {i x : Int32} (hd : decode cc pc = .ok (.bastore, 1)) (hh : h a0 = some (ai 2 N f)) (hi : vp_in i N) (kk : pV p l e R s m args below meth c nL E A Q z (pset h a0 (ai 2 N (upd f i.toNatClampNeg (vp_nar .boolean x)))) k n (pc + 1) L st) : pV p l e R s m args below meth c nL E A Q z h k n pc L (.int x :: .int i :: .ref a0 :: st) := fun H locs ls a b c0 d => by
  have hc : H[a0]? = some (vp_cell (E.2.2.1 2) (N, .inl f)) := (a a0 _ hh).1
  have hk := (X.2.1.2.1 2 (by decide)).1
  refine W.zast X.1.1 X.1.2.1 hc (hk N (fun j => .int (f j))) (fun q => by cases q) (by show ¬ (i < 0 ∨ (arrV _ _ _).slots.size ≤ _); rw [arrV_size]; exact hi) rfl rfl hd fun H1 e1 z1 oq => ?_
  refine kk H1 _ ls (a.set (a a0 _ hh).2 ?_ oq) (by rw [z1]; exact b) (c0.put z1 oq (a a0 _ hh).2) d
  show H1[a0]? = some (vp_cell _ _)
  rw [e1]
  rw [vp_cell_i, vp_cell_i, arrV_store]
  congr 2
  funext q
  by_cases hq : q = i.toNatClampNeg
  · subst hq
    simp [updV, upd, vp_nar]
    try rfl
  · simp [updV, upd, hq]
theorem v_cast (X : pCx p s m args c cc nL own E A) {a0 N : Nat} {f : Nat → Int32} {i x : Int32} (hd : decode cc pc = .ok (.castore, 1)) (hh : h a0 = some (ai 0 N f)) (hi : vp_in i N) (kk : pV p l e R s m args below meth c nL E A Q z (pset h a0 (ai 0 N (upd f i.toNatClampNeg (vp_nar .char x)))) k n (pc + 1) L st) : pV p l e R s m args below meth c nL E A Q z h k n pc L (.int x :: .int i :: .ref a0 :: st) := fun H locs ls a b c0 d => by
  have hc : H[a0]? = some (vp_cell (E.2.2.1 0) (N, .inl f)) := (a a0 _ hh).1
  have hk := (X.2.1.2.1 0 (by decide)).1
  refine W.cast X.1.1 X.1.2.1 hc (hk N (fun j => .int (f j))) (fun q => by cases q) (by show ¬ (i < 0 ∨ (arrV _ _ _).slots.size ≤ _); rw [arrV_size]; exact hi) rfl rfl hd fun H1 e1 z1 oq => ?_
  refine kk H1 _ ls (a.set (a a0 _ hh).2 ?_ oq) (by rw [z1]; exact b) (c0.put z1 oq (a a0 _ hh).2) d
  show H1[a0]? = some (vp_cell _ _)
  rw [e1]
  rw [vp_cell_i, vp_cell_i, arrV_store]
  congr 2
  funext q
  by_cases hq : q = i.toNatClampNeg
  · subst hq
    simp [updV, upd, vp_nar]
    try rfl
  · simp [updV, upd, hq]
theorem v_aast (X : pCx p s m args c cc nL own E A) {a0 N ki y ci : Nat} {r : vw_C} {vs : List Value} {f : Nat → Option Nat} {i : Int32} (hd : decode cc pc = .ok (.aastore, 1)) (hh : h a0 = some (ar ki N f)) (hv : h y = some (ob ci vs)) (hi : vp_in i N) (hki : ki < 8 := by decide) (hc0 : vwCl[ci]? = some r := by rfl) (hC : pT ki = .object r.1 := by rfl) (kk : pV p l e R s m args below meth c nL E A Q z (pset h a0 (ar ki N (va_up f i.toNatClampNeg (some y)))) k n (pc + 1) L st) : pV p l e R s m args below meth c nL E A Q z h k n pc L (.ref y :: .int i :: .ref a0 :: st) := fun H locs ls a b c0 d => by
  have hlt : i.toNatClampNeg < N := Nat.not_le.mp fun q => hi (Or.inr q)
  have h0 : ¬ i < 0 := fun q => hi (Or.inl q)
  have hc : H[a0]? = some (vp_cell (E.2.2.1 ki) (N, .inr (.inr (.inr (.inr f))))) := (a a0 _ hh).1
  obtain ⟨r', hr', cellV, g1, g2, g3, -⟩ := (a y _ hv).1
  have hcls := (X.2.1.1.1 ci r hc0).2
  have hRA := (X.2.1.2.1 ki hki).2
  rw [hC] at hRA
  obtain ⟨kA, comp, k1, k2, k3, -⟩ := hRA
  have hcomp : comp = E.1 ci := Option.some.inj (k3.symm.trans hcls.1)
  subst hcomp
  obtain ⟨kC, hkC, -⟩ := hcls.2
  refine W.aast X.1.1 X.1.2.1 hc (fun q h => by cases h) (fun h => by cases h) k1 k2 rfl hkC ⟨h0, by show _ < (arrV _ _ _).slots.size; rw [arrV_size]; exact hlt⟩ g1 (fun q h => by rw [g3] at h; cases h) (by rw [g2]; exact hkC) (by rw [g2]; exact va_assign hcls) rfl rfl hd fun H1 e1 z1 oq => ?_
  refine kk H1 _ ls (a.set (a a0 _ hh).2 ?_ oq) (by rw [z1]; exact b) (c0.put z1 oq (a a0 _ hh).2) d
  show H1[a0]? = some (vp_cell _ _)
  rw [e1]
  rw [vp_cell_q, vp_cell_q, arrV_store]
  congr 2
  funext q
  by_cases hq : q = i.toNatClampNeg
  · subst hq
    simp [updV, va_up, va_rf]
  · simp [updV, va_up, hq]
theorem v_get (X : pCx p s m args c cc nL own E A) {a0 ci i kf : Nat} {C : String} {T : u_T} {N : Nat} {fs : List Value} {v : Value} (hd : decode cc pc = .ok (.getfield i, 3)) (hin : ∀ w ∈ u_ws C T N, w ∈ uw) (hc : vwCl[ci]? = some (C, T, N)) (hk : kf < N) (hw : Cond.fieldLink own i (T kf).1 (T kf).2.1 (T kf).2.2.1 ∈ uw) (hh : h a0 = some (ob ci fs)) (hv : fs[kf]? = some v) (kk : pV p l e R s m args below meth c nL E A Q z h k n (pc + 3) L (v :: st)) : pV p l e R s m args below meth c nL E A Q z h k n pc L (.ref a0 :: st) := fun H locs ls a b c0 d => by
  obtain ⟨r, h1, cell, q1, q2, q3, q4⟩ := (a a0 _ hh).1
  have hr : r = (C, T, N) := Option.some.inj (h1.symm.trans hc)
  subst hr
  obtain ⟨hS, hfc, kC, hkC, hkind⟩ := X.2.1.1.1 ci _ hc
  obtain ⟨cf, kf0, fi, f, hi, hsl⟩ := hS kf hk
  refine W.getf X.1.1 X.1.2.1 X.1.2.2.2.1 (X.1.2.2.2.2 _ hw) hi (u_facts hfc hkC (u_lays X.1.2.2.2.2 hin hk) hi).1 q1 (by rw [q3]; exact fun h => by cases h) (v := v) ?_ rfl rfl hd (kk H locs ls a b c0 d)
  rw [hsl, q4 kf hk]
  simp [vp_V, hv]
theorem v_put (X : pCx p s m args c cc nL own E A) {a0 ci i kf : Nat} {C : String} {T : u_T} {N : Nat} {fs : List Value} {v : Value} {ty : FieldType} (hd : decode cc pc = .ok (.putfield i, 3)) (hin : ∀ w ∈ u_ws C T N, w ∈ uw) (ty0 : Nat → FieldType) (hty : ∀ k, k < N → parseFieldDescriptor (T k).2.2.1 = some (ty0 k)) (hnm : ∀ a, a < N → ∀ b, b < N → a ≠ b → (T a).2.1 ≠ (T b).2.1) (hc : vwCl[ci]? = some (C, T, N)) (hk : kf < N) (hw : Cond.fieldLink own i (T kf).1 (T kf).2.1 (T kf).2.2.1 ∈ uw) (hfin : (T kf).2.2.2 = false) (hd0 : parseFieldDescriptor (T kf).2.2.1 = some ty) (hn : narrow ty v = v) (hfit : fits ty v = true) (hh : h a0 = some (ob ci fs)) (hl : kf < fs.length) (kk : pV p l e R s m args below meth c nL E A Q z (pset h a0 (ob ci (fs.set kf v))) k n (pc + 3) L st) : pV p l e R s m args below meth c nL E A Q z h k n pc L (v :: .ref a0 :: st) := fun H locs ls a b c0 d => by
  have hap := va_apart (own := own) X.1.2.2.2.2 hin ty0 hty hnm X.2.1.1 hc
  obtain ⟨r, h1, cell, q1, q2, q3, q4⟩ := (a a0 _ hh).1
  have hr : r = (C, T, N) := Option.some.inj (h1.symm.trans hc)
  subst hr
  obtain ⟨hS, hfc, kC, hkC, hkind⟩ := X.2.1.1.1 ci _ hc
  obtain ⟨cf, kf0, fi, f, hi, hsl⟩ := hS kf hk
  have hlay := X.1.2.2.2.2 _ (hin _ (u_in_lay hk))
  unfold u_lay at hlay
  rw [if_neg (by rw [hfin]; decide)] at hlay
  have hst := (u_facts hfc hkC (u_lays X.1.2.2.2.2 hin hk) hi).1
  have h6 := u_store hfc hkC hkind hlay hi hd0 hn hfit
  refine W.putK X.1.1 X.1.2.1 (f := f) ⟨X.1.2.2.2.1, X.1.2.2.2.2 _ hw, ⟨_, _, _, hi⟩, hst⟩ (by rw [q2]; exact h6) q1 q3 (by rw [hsl]; exact k2_hasslot (q4 kf hk)) rfl rfl hd fun H' e1 e2 e3 => ?_
  rw [hsl] at e1 ⊢
  exact kk H' _ ls (a.set (a a0 _ hh).2 ⟨_, hc, t_OB.to (V := updV (vp_V fs) kf v) ⟨_, e1, q2, q3, t_set q4 hap hk v⟩ (fun j _ => vp_updV_set hl v j)⟩ e3) (by rw [e2]; exact b) (c0.put e2 e3 (a a0 _ hh).2) d
theorem v_putF (X : pCx p s m args c cc nL own E A) {a0 ci i kf : Nat} {C : String} {T : u_T} {N : Nat} {fs : List Value} {v : Value} {ty : FieldType} (hd : decode cc pc = .ok (.putfield i, 3)) (hin : ∀ w ∈ u_ws C T N, w ∈ uw) (ty0 : Nat → FieldType) (hty : ∀ k, k < N → parseFieldDescriptor (T k).2.2.1 = some (ty0 k)) (hnm : ∀ a, a < N → ∀ b, b < N → a ≠ b → (T a).2.1 ≠ (T b).2.1) (hc : vwCl[ci]? = some (C, T, N)) (hk : kf < N) (hw : Cond.fieldLink own i (T kf).1 (T kf).2.1 (T kf).2.2.1 ∈ uw) (hfin : (T kf).2.2.2 = true) (hin2 : meth.name = "<init>") (hdecl : (T kf).1 = own) (hd0 : parseFieldDescriptor (T kf).2.2.1 = some ty) (hn : narrow ty v = v) (hfit : fits ty v = true) (hh : h a0 = some (ob ci fs)) (hl : kf < fs.length) (kk : pV p l e R s m args below meth c nL E A Q z (pset h a0 (ob ci (fs.set kf v))) k n (pc + 3) L st) : pV p l e R s m args below meth c nL E A Q z h k n pc L (v :: .ref a0 :: st) := fun H locs ls a b c0 d => by
  have hap := va_apart (own := own) X.1.2.2.2.2 hin ty0 hty hnm X.2.1.1 hc
  obtain ⟨r, h1, cell, q1, q2, q3, q4⟩ := (a a0 _ hh).1
  have hr : r = (C, T, N) := Option.some.inj (h1.symm.trans hc)
  subst hr
  obtain ⟨hS, hfc, kC, hkC, hkind⟩ := X.2.1.1.1 ci _ hc
  obtain ⟨cf, kf0, fi, f, hi, hsl⟩ := hS kf hk
  have hlay := X.1.2.2.2.2 _ (hin _ (u_in_lay hk))
  unfold u_lay at hlay
  rw [if_pos hfin] at hlay
  have hst := (u_facts hfc hkC (u_lays X.1.2.2.2.2 hin hk) hi).1
  have hcf : m.cls = cf := by
    obtain ⟨_, _, c', _, _, _, -, -, hf', -, -, -, hown2, -⟩ := Cond.laysFinal_spec hlay
    have e1 : c' = cf := by have := hi.symm.trans hf'; simp at this; exact this.1.symm
    rw [hdecl] at hown2
    rw [← e1]; exact Option.some.inj (X.1.2.2.2.1.symm.trans hown2)
  have h6 := u_fits hfc hkC hkind (Or.inr hlay) hi hd0 hn hfit
  refine W.putFinK X.1.1 X.1.2.1 X.1.2.2.2.1 (X.1.2.2.2.2 _ hw) hi hst hcf hin2 (by rw [q2]; exact h6) q1 q3 (by rw [hsl]; exact k2_hasslot (q4 kf hk)) rfl rfl hd fun H' e1 e2 e3 => ?_
  rw [hsl] at e1 ⊢
  exact kk H' _ ls (a.set (a a0 _ hh).2 ⟨_, hc, t_OB.to (V := updV (vp_V fs) kf v) ⟨_, e1, q2, q3, t_set q4 hap hk v⟩ (fun j _ => vp_updV_set hl v j)⟩ e3) (by rw [e2]; exact b) (c0.put e2 e3 (a a0 _ hh).2) d
end PVR
end
section
/-! calls, ends, makings -/
def pQ (E : pE) (post : pH → Nat → Option Value → pH → Nat → Prop) (h : pH) (z : Nat) : Array Value → State → Outcome → State → Prop := fun _ st oc t => (∃ (v : Option Value) (h' : pH) (z' : Nat), oc = .returned v ∧ post h z v h' z' ∧ t.heap.size = z' ∧ z ≤ z' ∧ pR E (pA h z) h' t.heap) ∧ va_F (pA h z) st t
def pP (E : pE) (h : pH) (z : Nat) : State → Prop := fun U => U.heap.size = z ∧ pR E (pA h z) h U.heap ∧ pK E U ∧ pS E (pA h z) U U.heap
theorem pP_blind {E : pE} {h : pH} {z : Nat} {vs : List Value} : FrameBlind (va_Pc vs (pP E h z)) := fun a U g mk q => by
  obtain ⟨q0, q1, q2, q3, q4⟩ := q
  exact ⟨q0, q1, q2, pK.same (u := U) (U := U.calling g mk a) rfl q3, pS.same (u := U) (U := U.calling g mk a) rfl q4⟩
def pWB (own : String) (idx : Nat) (y : MethodName) (cy : ByteArray) (ny : Nat) (ret : Option FieldType) (N : Nat) : Prop := Cond.methodLink own idx y ∈ uw ∧ Cond.initialized y.cls ∈ uw ∧ Cond.code y cy ny ret ∈ uw ∧ (y.cls ≠ "java/lang/invoke/MethodHandle" ∧ y.cls ≠ "java/lang/invoke/VarHandle" ∧ (parseMethodDescriptor y.desc).map (fun d => d.parameters.length) = some N)
def pWV (own : String) (idx : Nat) (y : MethodName) (cy : ByteArray) (ny : Nat) (ret : Option FieldType) (N : Nat) : Prop := pWB own idx y cy ny ret N ∧ Cond.instanceMethod y ∈ uw ∧ Cond.selects y.cls y y ∈ uw
def pWS (own : String) (idx : Nat) (y : MethodName) (cy : ByteArray) (ny : Nat) (ret : Option FieldType) (N : Nat) : Prop := pWB own idx y cy ny ret N ∧ Cond.static y ∈ uw
def pWI (own : String) (idx : Nat) (y : MethodName) (cy : ByteArray) (ny : Nat) (N : Nat) : Prop := pWB own idx y cy ny none N ∧ y.name = "<init>" ∧ Cond.instanceMethod y ∈ uw
def pWN (own : String) (idx : Nat) (y : MethodName) (host : String) (cy : ByteArray) (ny : Nat) (ret : Option FieldType) (N : Nat) : Prop := Cond.methodLinkNest own idx y host ∈ pNest ∧ Cond.initialized y.cls ∈ uw ∧ Cond.code y cy ny ret ∈ uw ∧ (y.cls ≠ "java/lang/invoke/MethodHandle" ∧ y.cls ≠ "java/lang/invoke/VarHandle" ∧ (parseMethodDescriptor y.desc).map (fun d => d.parameters.length) = some N)
section PVC
variable {p : Program} {l : Launch} {e : Env} {R : Room} {s : State} {m : MethodId} {args : Array Value} {below : List Frame} {meth : Method} {c : Code} {cc : ByteArray} {nL : Nat} {own : String} {E : pE} {A : Nat → Prop} {Q : State → Prop} {z : Nat} {h : pH} {k n : Nat} {pc : Nat} {L : List (Option Value)} {st st0 : List Value}
variable {h0 : pH} {z0 : Nat} {y : MethodName} {cy : ByteArray} {ny N idx : Nat} {ret : Option FieldType} {rm : Room} {mc ms : Nat} {As : List Value} {pre : pH → Nat → Prop} {post : pH → Nat → Option Value → pH → Nat → Prop}
theorem v_core (X : pCx p s m args c cc nL own E A) {vs : List Value}
    (run : ∀ (H : Heap) (locs : List Loc) (ls : Array Slot), pR E A h H → H.size = z → va_S A s.heap H locs → pL ls nL L → va_Run p l e R s m args below meth c H locs k n mc ms (F0 m pc ls st0) st (pQ E post h z vs.toArray) (pA h z))
    (kk : ∀ (v : Option Value) (h' : pH) (z' : Nat), post h z v h' z' → pV p l e R s m args below meth c nL E A Q z' h' (k + mc) (n + ms) (pc + 3) L (v.toList ++ st)) :
    pV p l e R s m args below meth c nL E A Q z h k n pc L st0 := by
  intro H locs ls a b c0 d T hT X0
  have hAA : ∀ q : Nat, pA h z q → A q := by
    intro q hq
    rcases hq with hq | hq
    · cases hx : h q with
      | none => exact absurd hx hq
      | some x => exact (a q x hx).2
    · exact X.2.2.2 q (Nat.le_trans (by rw [← b]; exact c0.1) hq)
  obtain ⟨v, st₀, t, T', Lc, h0, X', hL, e1, e2, ⟨⟨v', h', z', hv, hpost, hz, hle, hR'⟩, hF1, hF2⟩, go⟩ := run H locs ls a b c0 d T hT X0
  cases hv
  rw [h0] at hF1 hF2
  refine (fun ⟨t2, a1, b1⟩ => ⟨t2, go t2 a1, b1⟩) (kk v h' z' hpost T'.heap (locs ++ Lc) ls ?_ (by rw [e1]; exact hz) ?_ d T' rfl X')
  · intro q x hq
    obtain ⟨g1, g2⟩ := hR' q x hq
    exact ⟨by rw [e1]; exact g1, hAA q g2⟩
  · refine ⟨Nat.le_trans c0.1 (by rw [e1]; exact hF1), fun q h1 h2 => ?_, fun q hq => ?_⟩
    · rw [e1, hF2 q (Nat.lt_of_lt_of_le h1 c0.1) (fun w => h2 (hAA q w))]
      exact c0.2.1 q h1 h2
    · rcases List.mem_append.mp hq with w | w
      · exact c0.2.2 q w
      · exact hAA _ (hL q w)
theorem pP_at (X : pCx p s m args c cc nL own E A) {H : Heap} {locs : List Loc} (a : pR E A h H) (b : H.size = z) (c0 : va_S A s.heap H locs) {U : State} (hU : U.heap = H) (hW : s.WarmedH U.vm) : pP E h z U := by
  refine ⟨by rw [hU]; exact b, fun q x hq => ⟨by rw [hU]; exact (a q x hq).1, Or.inl (by rw [hq]; exact fun w => by cases w)⟩, X.2.1.warm hW, ?_⟩
  refine (X.2.2.1.warm hW).kept (H1 := U.heap) (fun q h1 h2 => by rw [hU]; exact c0.2.1 q h1 h2) (fun q hq => ?_)
  rcases hq with hq | hq
  · cases hx : h q with
    | none => exact absurd hx hq
    | some x => exact (a q x hx).2
  · exact X.2.2.2 q (Nat.le_trans (by rw [← b]; exact c0.1) hq)
theorem pWB.use (X : pCx p s m args c cc nL own E A) (w : pWB own idx y cy ny ret N) (hrm : rm.cells = mc ∧ rm.slots = ms) (hR : rm.frames + 1 ≤ R.frames ∧ 8 + (ny + 11) + rm.locals ≤ R.locals) : CallB R s args own idx y cy ny ret (wy y cy ny ret) rm mc ms N :=
  callB_of N X.1.2.2.2.2 (wy_good w.2.2.1) rfl hrm.1 hrm.2 (X.1.2.2.2.2 _ w.2.1) (X.1.2.2.2.2 _ w.1) w.2.2.2 hR
/-- a call of a method on an object of the abstract heap -/
theorem v_callV (X : pCx p s m args c cc nL own E A) {b ci : Nat} {r : vw_C} {fs : List Value} (hd : decode cc pc = .ok (.invokevirtual idx, 3)) (w : pWV own idx y cy ny ret N) (hC : pC l E y cy ny ret rm mc ms (.ref b :: As) pre post) (hp : pre h z) (hb : h b = some (ob ci fs))
    (kk : ∀ (v : Option Value) (h' : pH) (z' : Nat), post h z v h' z' → pV p l e R s m args below meth c nL E A Q z' h' (k + mc) (n + ms) (pc + 3) L (v.toList ++ st))
    (hcl : vwCl[ci]? = some r := by rfl) (hr : r.1 = y.cls := by rfl) (hN : As.length = N := by rfl) (hst : st0 = As.reverse ++ .ref b :: st := by rfl) (hrm : rm.cells = mc ∧ rm.slots = ms := by exact ⟨rfl, rfl⟩) (hR : rm.frames + 1 ≤ R.frames ∧ 8 + (ny + 11) + rm.locals ≤ R.locals := by decide) (hf : k + mc ≤ R.cells ∧ n + ms ≤ R.slots := by decide) (hW : (st.map fun v => v.category).sum ≤ 8 := by exact Nat.le_of_ble_eq_true rfl) :
    pV p l e R s m args below meth c nL E A Q z h k n pc L st0 := by
  subst hst
  refine v_core X (vs := .ref b :: As) (fun H locs ls a0 b0 c0 d0 => ?_) kk
  refine va_runV (As := As) (rest := st) (own := own) X.1 (hC h z hp) ⟨w.1.use X hrm hR, X.1.2.2.2.2 _ w.2.1, X.1.2.2.2.2 _ w.2.2⟩ ⟨pP_blind, ?_, fun U hU hW => ⟨rfl, pP_at X a0 b0 c0 hU hW⟩⟩ rfl hN d0.1 rfl (lv_room hW) hd hf
  obtain ⟨q', h1, cell, g1, g2, g3, -⟩ := (a0 b _ hb).1
  have hq : q' = r := Option.some.inj (h1.symm.trans hcl)
  subst hq
  exact ⟨cell, g1, by rw [g3]; rfl, by rw [g2, ← hr]; exact (X.2.1.1.1 ci q' hcl).2.1⟩
theorem v_callS (X : pCx p s m args c cc nL own E A) (hd : decode cc pc = .ok (.invokestatic idx, 3)) (w : pWS own idx y cy ny ret N) (hC : pC l E y cy ny ret rm mc ms As pre post) (hp : pre h z)
    (kk : ∀ (v : Option Value) (h' : pH) (z' : Nat), post h z v h' z' → pV p l e R s m args below meth c nL E A Q z' h' (k + mc) (n + ms) (pc + 3) L (v.toList ++ st))
    (hN : As.length = N := by rfl) (hst : st0 = As.reverse ++ st := by rfl) (hrm : rm.cells = mc ∧ rm.slots = ms := by exact ⟨rfl, rfl⟩) (hR : rm.frames + 1 ≤ R.frames ∧ 8 + (ny + 11) + rm.locals ≤ R.locals := by decide) (hf : k + mc ≤ R.cells ∧ n + ms ≤ R.slots := by decide) (hW : (st.map fun v => v.category).sum ≤ 8 := by exact Nat.le_of_ble_eq_true rfl) :
    pV p l e R s m args below meth c nL E A Q z h k n pc L st0 := by
  subst hst
  refine v_core X (vs := As) (fun H locs ls a0 b0 c0 d0 => ?_) kk
  exact va_runS (As := As) (rest := st) (own := own) X.1 (hC h z hp) ⟨w.1.use X hrm hR, X.1.2.2.2.2 _ w.2⟩ ⟨pP_blind, fun U hU hW => ⟨rfl, pP_at X a0 b0 c0 hU hW⟩⟩ rfl hN d0.1 rfl (lv_room hW) hd hf
theorem v_callI (X : pCx p s m args c cc nL own E A) {b : Nat} (hd : decode cc pc = .ok (.invokespecial idx, 3)) (w : pWI own idx y cy ny N) (hC : pC l E y cy ny none rm mc ms (.ref b :: As) pre post) (hp : pre h z)
    (kk : ∀ (v : Option Value) (h' : pH) (z' : Nat), post h z v h' z' → pV p l e R s m args below meth c nL E A Q z' h' (k + mc) (n + ms) (pc + 3) L (v.toList ++ st))
    (hN : As.length = N := by rfl) (hst : st0 = As.reverse ++ .ref b :: st := by rfl) (hrm : rm.cells = mc ∧ rm.slots = ms := by exact ⟨rfl, rfl⟩) (hR : rm.frames + 1 ≤ R.frames ∧ 8 + (ny + 11) + rm.locals ≤ R.locals := by decide) (hf : k + mc ≤ R.cells ∧ n + ms ≤ R.slots := by decide) (hW : (st.map fun v => v.category).sum ≤ 8 := by exact Nat.le_of_ble_eq_true rfl) :
    pV p l e R s m args below meth c nL E A Q z h k n pc L st0 := by
  subst hst
  refine v_core X (vs := .ref b :: As) (fun H locs ls a0 b0 c0 d0 => ?_) kk
  exact va_runI (As := As) (rest := st) (own := own) X.1 (hC h z hp) ⟨w.1.use X hrm hR, w.2.1, X.1.2.2.2.2 _ w.2.2⟩ ⟨pP_blind, fun U hU hW => ⟨rfl, pP_at X a0 b0 c0 hU hW⟩⟩ rfl hN d0.1 rfl (lv_room hW) hd hf
theorem pWN.use (X : pCx p s m args c cc nL own E A) {host : String} (w : pWN own idx y host cy ny ret N) (hrm : rm.cells = mc ∧ rm.slots = ms) (hR : rm.frames + 1 ≤ R.frames ∧ 8 + (ny + 11) + rm.locals ≤ R.locals) : va_CN R s args own idx y host cy ny ret (wy y cy ny ret) rm mc ms N :=
  va_cnB N X.1.2.2.2.2 (wy_good w.2.2.1) rfl hrm.1 hrm.2 (X.2.1.2.2.1 _ w.1) (X.1.2.2.2.2 _ w.2.1) w.2.2.2 hR
theorem v_callSN (X : pCx p s m args c cc nL own E A) {host : String} (hd : decode cc pc = .ok (.invokestatic idx, 3)) (w : pWN own idx y host cy ny ret N ∧ Cond.static y ∈ uw) (hC : pC l E y cy ny ret rm mc ms As pre post) (hp : pre h z)
    (kk : ∀ (v : Option Value) (h' : pH) (z' : Nat), post h z v h' z' → pV p l e R s m args below meth c nL E A Q z' h' (k + mc) (n + ms) (pc + 3) L (v.toList ++ st))
    (hN : As.length = N := by rfl) (hst : st0 = As.reverse ++ st := by rfl) (hrm : rm.cells = mc ∧ rm.slots = ms := by exact ⟨rfl, rfl⟩) (hR : rm.frames + 1 ≤ R.frames ∧ 8 + (ny + 11) + rm.locals ≤ R.locals := by decide) (hf : k + mc ≤ R.cells ∧ n + ms ≤ R.slots := by decide) (hW : (st.map fun v => v.category).sum ≤ 8 := by exact Nat.le_of_ble_eq_true rfl) :
    pV p l e R s m args below meth c nL E A Q z h k n pc L st0 := by
  subst hst
  refine v_core X (vs := As) (fun H locs ls a0 b0 c0 d0 => ?_) kk
  exact va_runSN (As := As) (rest := st) (own := own) X.1 (hC h z hp) ⟨w.1.use X hrm hR, X.1.2.2.2.2 _ w.2, trivial⟩ ⟨pP_blind, fun U hU hW => ⟨rfl, pP_at X a0 b0 c0 hU hW⟩⟩ rfl hN d0.1 rfl (lv_room hW) hd hf
theorem v_callIN (X : pCx p s m args c cc nL own E A) {b : Nat} {host : String} (hd : decode cc pc = .ok (.invokespecial idx, 3)) (w : pWN own idx y host cy ny none N ∧ y.name = "<init>" ∧ Cond.instanceMethod y ∈ uw) (hC : pC l E y cy ny none rm mc ms (.ref b :: As) pre post) (hp : pre h z)
    (kk : ∀ (v : Option Value) (h' : pH) (z' : Nat), post h z v h' z' → pV p l e R s m args below meth c nL E A Q z' h' (k + mc) (n + ms) (pc + 3) L (v.toList ++ st))
    (hN : As.length = N := by rfl) (hst : st0 = As.reverse ++ .ref b :: st := by rfl) (hrm : rm.cells = mc ∧ rm.slots = ms := by exact ⟨rfl, rfl⟩) (hR : rm.frames + 1 ≤ R.frames ∧ 8 + (ny + 11) + rm.locals ≤ R.locals := by decide) (hf : k + mc ≤ R.cells ∧ n + ms ≤ R.slots := by decide) (hW : (st.map fun v => v.category).sum ≤ 8 := by exact Nat.le_of_ble_eq_true rfl) :
    pV p l e R s m args below meth c nL E A Q z h k n pc L st0 := by
  subst hst
  refine v_core X (vs := .ref b :: As) (fun H locs ls a0 b0 c0 d0 => ?_) kk
  exact va_runIN (As := As) (rest := st) (own := own) X.1 (hC h z hp) ⟨w.1.use X hrm hR, w.2.1, X.1.2.2.2.2 _ w.2.2⟩ ⟨pP_blind, fun U hU hW => ⟨rfl, pP_at X a0 b0 c0 hU hW⟩⟩ rfl hN d0.1 rfl (lv_room hW) hd hf
/-- Object.<init> -/
theorem v_objInit (X : pCx p s m args c cc nL own E A) {b : Nat} (hd : decode cc pc = .ok (.invokespecial idx, 3)) (hw1 : Cond.methodLink own idx objectInit ∈ uw) (hw2 : Cond.instanceMethod objectInit ∈ uw) (hw3 : Cond.code objectInit ⟨#[0xb1]⟩ 1 none ∈ uw)
    (kk : pV p l e R s m args below meth c nL E A Q z h k n (pc + 3) L st) (hF : 1 ≤ R.frames := by decide) (hLo : (st.map fun v => v.category).sum + 12 ≤ R.locals := by exact Nat.le_of_ble_eq_true rfl) : pV p l e R s m args below meth c nL E A Q z h k n pc L (.ref b :: st) := fun H locs ls a b0 c0 d =>
  W.objInit X.1.1 X.1.2.1 X.1.2.2.2.1 (X.1.2.2.2.2 _ hw1) (X.1.2.2.2.2 _ hw2) (X.1.2.2.2.2 _ hw3) rfl (by rw [X.1.2.2.1]; exact d.1) rfl hd hF (by show 2 * 0 + _ + 12 ≤ _; omega) (W.eq (g2 := F0 m (pc + 3) ls st) rfl (kk H locs ls a b0 c0 d))
theorem v_max (X : pCx p s m args c cc nL own E A) {x x2 : Int32} (hd : decode cc pc = .ok (.invokestatic idx, 3)) (hw1 : Cond.methodLink own idx Lib.Math.max.name ∈ uw) (hw2 : Cond.static Lib.Math.max.name ∈ uw) (hw3 : Cond.initialized "java/lang/Math" ∈ uw) (hw4 : Cond.code Lib.Math.max.name Lib.Math.max.code 2 (some .int) ∈ uw)
    (kk : pV p l e R s m args below meth c nL E A Q z h k n (pc + 3) L (.int (if x < x2 then x2 else x) :: st)) (hF : 1 ≤ R.frames := by decide) (hLo : (st.map fun v => v.category).sum + 13 ≤ R.locals := by exact Nat.le_of_ble_eq_true rfl) (hf : k ≤ R.cells ∧ n ≤ R.slots := by decide) : pV p l e R s m args below meth c nL E A Q z h k n pc L (.int x2 :: .int x :: st) := fun H locs ls a b0 c0 d =>
  va_mmax X.1.1 X.1.2.1 (by rw [X.1.2.2.1]; exact d.1.symm) X.1.2.2.2.1 (X.1.2.2.2.2 _ hw1) (X.1.2.2.2.2 _ hw2) (X.1.2.2.2.2 _ hw3) (X.1.2.2.2.2 _ hw4) hF hLo hf.1 hf.2 hd (kk H locs ls a b0 c0 d)
theorem v_min (X : pCx p s m args c cc nL own E A) {x x2 : Int32} (hd : decode cc pc = .ok (.invokestatic idx, 3)) (hw1 : Cond.methodLink own idx Lib.Math.min.name ∈ uw) (hw2 : Cond.static Lib.Math.min.name ∈ uw) (hw3 : Cond.initialized "java/lang/Math" ∈ uw) (hw4 : Cond.code Lib.Math.min.name Lib.Math.min.code 2 (some .int) ∈ uw)
    (kk : pV p l e R s m args below meth c nL E A Q z h k n (pc + 3) L (.int (if x2 < x then x2 else x) :: st)) (hF : 1 ≤ R.frames := by decide) (hLo : (st.map fun v => v.category).sum + 13 ≤ R.locals := by exact Nat.le_of_ble_eq_true rfl) (hf : k ≤ R.cells ∧ n ≤ R.slots := by decide) : pV p l e R s m args below meth c nL E A Q z h k n pc L (.int x2 :: .int x :: st) := fun H locs ls a b0 c0 d =>
  va_mmin X.1.1 X.1.2.1 (by rw [X.1.2.2.1]; exact d.1.symm) X.1.2.2.2.1 (X.1.2.2.2.2 _ hw1) (X.1.2.2.2.2 _ hw2) (X.1.2.2.2.2 _ hw3) (X.1.2.2.2.2 _ hw4) hF hLo hf.1 hf.2 hd (kk H locs ls a b0 c0 d)
/-! ends -/
theorem v_iret (X : pCx p s m args c cc nL own E (pA h0 z0)) (hr : meth.sig.returnType = some .int) (hlk : meth.locks = false) {r : Int32} (hd : decode cc pc = .ok (.ireturn, 1)) (hq : post h0 z0 (some (.int r)) h z) (hz : z0 ≤ z) : pV p l e R s m args below meth c nL E (pA h0 z0) (MQ below (pQ E post h0 z0) args s k n (pA h0 z0)) z h k n pc L [.int r] := fun H locs ls a b c0 d =>
  W.iret X.1.1 X.1.2.1 hr (fun t ht hW => ⟨⟨some (.int r), h, z, rfl, hq, by rw [ht]; exact b, hz, by rw [ht]; exact a⟩, c0.F ht⟩) c0.2.2 hd hlk
theorem v_zret (X : pCx p s m args c cc nL own E (pA h0 z0)) {ty : FieldType} (hr : meth.sig.returnType = some ty) (hlk : meth.locks = false) {r : Int32} (hd : decode cc pc = .ok (.ireturn, 1)) (hn : narrow ty (.int r) = .int r) (hq : post h0 z0 (some (.int r)) h z) (hz : z0 ≤ z) : pV p l e R s m args below meth c nL E (pA h0 z0) (MQ below (pQ E post h0 z0) args s k n (pA h0 z0)) z h k n pc L [.int r] := fun H locs ls a b c0 d =>
  W.zret X.1.1 X.1.2.1 hr hn (fun t ht hW => ⟨⟨some (.int r), h, z, rfl, hq, by rw [ht]; exact b, hz, by rw [ht]; exact a⟩, c0.F ht⟩) c0.2.2 hd hlk
theorem v_vret (X : pCx p s m args c cc nL own E (pA h0 z0)) (hr : meth.sig.returnType = none) (hlk : meth.locks = false) (hd : decode cc pc = .ok (.return_, 1)) (hq : post h0 z0 none h z) (hz : z0 ≤ z) : pV p l e R s m args below meth c nL E (pA h0 z0) (MQ below (pQ E post h0 z0) args s k n (pA h0 z0)) z h k n pc L [] := fun H locs ls a b c0 d =>
  W.vret X.1.1 X.1.2.1 hr (fun t ht hW => ⟨⟨none, h, z, rfl, hq, by rw [ht]; exact b, hz, by rw [ht]; exact a⟩, c0.F ht⟩) c0.2.2 hd hlk
/-! makings: the new cell stands at z -/
theorem pR.push {H H1 : Heap} {x : va_E} (a : pR E A h H) (b : H.size = z) (hA : A z) (hx : va_at (E.1, E.2.1) vwCl (z, px E x) H1) (o : ∀ q : Nat, q < z → H1[q]? = H[q]?) : pR E A (pset h z x) H1 := by
  intro q y0 hq
  by_cases e0 : q = z
  · subst e0
    rw [pset_s] at hq
    cases hq
    exact ⟨hx, hA⟩
  · rw [pset_n e0] at hq
    exact ⟨(a q y0 hq).1.kept (o q (by rw [← b]; exact a.lt hq)), (a q y0 hq).2⟩
theorem v_new (X : pCx p s m args c cc nL own E A) {ci : Nat} {C : String} {T : u_T} {Nf : Nat} (hd : decode cc pc = .ok (.new idx, 3)) (hin : ∀ w ∈ u_ws C T Nf, w ∈ uw) (ty : Nat → FieldType) (hty : ∀ k, k < Nf → parseFieldDescriptor (T k).2.2.1 = some (ty k)) (hw1 : Cond.classLink own idx C ∈ uw) (hw2 : Cond.instantiable C Nf ∈ uw) (hw3 : Cond.initialized C ∈ uw) (hc : vwCl[ci]? = some (C, T, Nf)) (fs : List Value) (hfs : ∀ j, j < Nf → defaultValue (ty j) = vp_V fs j)
    (kk : pV p l e R s m args below meth c nL E A Q (z + 1) (pset h z (ob ci fs)) (k + 1) (n + Nf) (pc + 3) L (.ref z :: st)) (hf : k + 1 ≤ R.cells ∧ n + Nf ≤ R.slots := by decide) : pV p l e R s m args below meth c nL E A Q z h k n pc L st := fun H locs ls a b c0 d => by
  have hKn := X.2.1.1.1 ci _ hc
  refine W.newcK X.1.1 X.1.2.1 X.1.2.2.2.1 (X.1.2.2.2.2 _ hw1) (X.1.2.2.2.2 _ hw2) (X.1.2.2.2.2 _ hw3) rfl hd hf.1 hf.2 hKn.2.1 b fun H1 kC hkC e1 z1 o1 => ?_
  refine kk H1 locs ls (a.push b (X.2.2.2 z (by rw [← b]; exact c0.1)) ⟨_, hc, (u_born ty X.1.2.2.2.2 hin hKn hkC e1 hty).to hfs⟩ o1) z1 ⟨Nat.le_trans c0.1 (by omega), fun x h1 h2 => (o1 x (by rw [← b]; exact Nat.lt_of_lt_of_le h1 c0.1)).trans (c0.2.1 x h1 h2), c0.2.2⟩ d
theorem v_newa (X : pCx p s m args c cc nL own E A) {ki : Nat} {atype : ArrayType} {i : Int32} {Na : Nat} (hd : decode cc pc = .ok (.newarray atype, 2)) (hw : Cond.arrayClass (newarray.typeOf atype) ∈ uw) (hki : ki < 8) (hT : pT ki = newarray.typeOf atype) (hdef : defaultValue (newarray.typeOf atype) = .int 0) (hi0 : ¬ i < 0) (hN : i.toNatClampNeg = Na) (hb : Na * componentBytes (newarray.typeOf atype) ≤ 536870912) (hRA : ∀ (U : State) (cA : ClassId), va_RA U cA (newarray.typeOf atype) → U.vm.findClass ("[" ++ (newarray.typeOf atype).toString) = some cA)
    (kk : pV p l e R s m args below meth c nL E A Q (z + 1) (pset h z (ai ki Na (fun _ => 0))) (k + 1) (n + Na) (pc + 2) L (.ref z :: st)) (hf : k + 1 ≤ R.cells ∧ n + Na ≤ R.slots := by decide) : pV p l e R s m args below meth c nL E A Q z h k n pc L (.int i :: st) := fun H locs ls a b c0 d => by
  refine va_newaK X.1.1 X.1.2.1 (X.1.2.2.2.2 _ hw) rfl hd rfl hi0 hN hb hf.1 hf.2 b fun H1 cA e1 z1 o1 hAr hNm => ?_
  have hk := (X.2.1.2.1 ki hki).2
  rw [hT] at hk
  have hcA : E.2.2.1 ki = cA := Option.some.inj ((hRA s _ hk).symm.trans hNm)
  refine kk H1 locs ls (a.push b (X.2.2.2 z (by rw [← b]; exact c0.1)) ?_ o1) z1 ⟨Nat.le_trans c0.1 (by omega), fun x h1 h2 => (o1 x (by rw [← b]; exact Nat.lt_of_lt_of_le h1 c0.1)).trans (c0.2.1 x h1 h2), c0.2.2⟩ d
  show H1[z]? = some (vp_cell (E.2.2.1 ki) (Na, .inl (fun _ => 0)))
  rw [hcA, vp_cell_i, e1, hdef]
theorem v_newq (X : pCx p s m args c cc nL own E A) {ki : Nat} {C : String} {i : Int32} {Na : Nat} (hd : decode cc pc = .ok (.anewarray idx, 3)) (hw : Cond.classLink own idx C ∈ uw) (hAO : C ∈ pAO) (hki : ki < 8) (hT : pT ki = .object C) (hi0 : ¬ i < 0) (hN : i.toNatClampNeg = Na) (hb : Na * 4 ≤ 536870912)
    (kk : pV p l e R s m args below meth c nL E A Q (z + 1) (pset h z (ar ki Na (fun _ => none))) (k + 1) (n + Na) (pc + 3) L (.ref z :: st)) (hf : k + 1 ≤ R.cells ∧ n + Na ≤ R.slots := by decide) : pV p l e R s m args below meth c nL E A Q z h k n pc L (.int i :: st) := fun H locs ls a b c0 d => by
  subst hN
  refine W.anew X.1.1 X.1.2.1 X.1.2.2.2.1 (X.1.2.2.2.2 _ hw) (va_AO.use (X.2.1.2.2.2 C hAO)) rfl hd rfl hi0 hb hf.1 hf.2 fun cA kA comp f1 f2 f3 f4 => ?_
  generalize hH1 : H.push ({ cls := cA, slots := Array.replicate i.toNatClampNeg .null, vm := .none } : Cell) = H1
  have z1 : H1.size = z + 1 := by rw [← hH1, Array.size_push, b]
  have e1 : H1[z]? = some (arrV cA i.toNatClampNeg (fun _ => .null)) := by rw [← hH1, ← b, Array.getElem?_push_size, ← arrV_new]
  have o1 : ∀ q : Nat, q < z → H1[q]? = H[q]? := fun q hq => by rw [← hH1, Array.getElem?_push, if_neg (by omega)]
  have hk := (X.2.1.2.1 ki hki).2
  rw [hT] at hk
  obtain ⟨kA', comp', k1, k2, k3, k4⟩ := hk
  have hcA : E.2.2.1 ki = cA := Option.some.inj (k4.symm.trans f1)
  rw [b]
  refine kk H1 locs ls (a.push b (X.2.2.2 z (by rw [← b]; exact c0.1)) ?_ o1) z1 ⟨Nat.le_trans c0.1 (by omega), fun x h1 h2 => (o1 x (by rw [← b]; exact Nat.lt_of_lt_of_le h1 c0.1)).trans (c0.2.1 x h1 h2), c0.2.2⟩ d
  show H1[z]? = some (vp_cell (E.2.2.1 ki) (i.toNatClampNeg, .inr (.inr (.inr (.inr (fun _ => none))))))
  rw [hcA, vp_cell_q, e1]
  rfl
/-! a contract out of a walk -/
theorem pC_of {vs : List Value} (hy : plainName y.cls = true) (hc : ∀ v ∈ vs, v.category = 1) (hn : (lg_sl vs).length ≤ ny)
    (body : ∀ (h : pH) (z : Nat), pre h z → ∀ (p : Program) (e : Env) (s : State) (m : MethodId) (args : Array Value) (below : List Frame) (meth : Method) (c : Code), pCx p s m args c cy ny y.cls E (pA h z) → meth.sig.returnType = ret → meth.locks = false → meth.name = y.name →
      pV p l e rm s m args below meth c ny E (pA h z) (MQ below (pQ E post h z) args s mc ms (pA h z)) z h 0 0 0 (vs.map some ++ List.replicate (ny - vs.length) none) []) : pC l E y cy ny ret rm mc ms vs pre post := by
  intro h z hp
  refine Met.ofW (cc := cy) (maxL := ny) (ret := ret) hy rfl ?_
  intro p e s m args below meth c s₁ B hml hv
  obtain ⟨rfl, hz, hR, hK, hS⟩ := hv
  have hts := atoms_spec (ws := wy y cy ny ret) B.pre
  have X : pCx p s m vs.toArray c cy ny y.cls E (pA h z) := ⟨⟨B.exec, B.bytes, hml, findClass_of_methodNamed B.named, fun w hw => hts w (List.mem_cons_of_mem _ hw)⟩, hK, hS, fun q hq => Or.inr (by rw [← hz]; exact hq)⟩
  have hb := body h z hp p e s m vs.toArray below meth c X B.returns B.notSynchronized (name_of_methodNamed B.named B.method).1
  rw [lg_entry_eq]
  exact hb s.heap [] _ hR hz va_S.rf (pL_entry hc hn)
end PVC
end
section
theorem wi_L : Cond.initialized RL ∈ uw := uw_in (i := 0) (by decide +kernel) (by decide +kernel)
theorem wi_X6 : Cond.initialized RX6 ∈ uw := uw_in (i := 1) (by decide +kernel) (by decide +kernel)
theorem wi_X4 : Cond.initialized RX4 ∈ uw := uw_in (i := 2) (by decide +kernel) (by decide +kernel)
theorem wi_X2 : Cond.initialized RX2 ∈ uw := uw_in (i := 3) (by decide +kernel) (by decide +kernel)
theorem wi_X1 : Cond.initialized RX1 ∈ uw := uw_in (i := 4) (by decide +kernel) (by decide +kernel)
theorem wi_X0 : Cond.initialized RX0 ∈ uw := uw_in (i := 5) (by decide +kernel) (by decide +kernel)
theorem wi_X5 : Cond.initialized RX5 ∈ uw := uw_in (i := 6) (by decide +kernel) (by decide +kernel)
theorem wi_X3 : Cond.initialized RX3 ∈ uw := uw_in (i := 7) (by decide +kernel) (by decide +kernel)
theorem wi_X7 : Cond.initialized RX7 ∈ uw := uw_in (i := 8) (by decide +kernel) (by decide +kernel)
theorem wi_Math : Cond.initialized "java/lang/Math" ∈ uw := uw_in (i := 9) (by decide +kernel) (by decide +kernel)
theorem wi_J0 : Cond.initialized RJ0 ∈ uw := uw_in (i := 10) (by decide +kernel) (by decide +kernel)
theorem wi_J1 : Cond.initialized RJ1 ∈ uw := uw_in (i := 11) (by decide +kernel) (by decide +kernel)
theorem wi_J3 : Cond.initialized RJ3 ∈ uw := uw_in (i := 12) (by decide +kernel) (by decide +kernel)
theorem wi_J2 : Cond.initialized RJ2 ∈ uw := uw_in (i := 13) (by decide +kernel) (by decide +kernel)
theorem wc_X6_init : Cond.code yX6_init cX6_init 2 none ∈ uw := uw_in (i := 18) (by decide +kernel) (by decide +kernel)
theorem wc_objectInit : Cond.code objectInit ⟨#[0xb1]⟩ 1 none ∈ uw := uw_in (i := 21) (by decide +kernel) (by decide +kernel)
theorem wc_X4_init : Cond.code yX4_init cX4_init 2 none ∈ uw := uw_in (i := 26) (by decide +kernel) (by decide +kernel)
theorem wc_X2_init : Cond.code yX2_init cX2_init 2 none ∈ uw := uw_in (i := 32) (by decide +kernel) (by decide +kernel)
theorem wc_X1_init : Cond.code yX1_init cX1_init 1 none ∈ uw := uw_in (i := 43) (by decide +kernel) (by decide +kernel)
theorem wc_X0_init : Cond.code yX0_init cX0_init 1 none ∈ uw := uw_in (i := 61) (by decide +kernel) (by decide +kernel)
theorem wc_X5_init : Cond.code yX5_init cX5_init 1 none ∈ uw := uw_in (i := 101) (by decide +kernel) (by decide +kernel)
theorem wc_X3_init : Cond.code yX3_init cX3_init 1 none ∈ uw := uw_in (i := 176) (by decide +kernel) (by decide +kernel)
theorem wc_X6_come : Cond.code yX6_come cX6_come 2 (some .int) ∈ uw := uw_in (i := 215) (by decide +kernel) (by decide +kernel)
theorem wc_X4_copyFrom : Cond.code yX4_copyFrom cX4_copyFrom 3 none ∈ uw := uw_in (i := 219) (by decide +kernel) (by decide +kernel)
theorem wc_X2_copyFrom : Cond.code yX2_copyFrom cX2_copyFrom 3 none ∈ uw := uw_in (i := 223) (by decide +kernel) (by decide +kernel)
theorem wc_X1_copyFrom : Cond.code yX1_copyFrom cX1_copyFrom 2 none ∈ uw := uw_in (i := 227) (by decide +kernel) (by decide +kernel)
theorem wc_X0_copyFrom : Cond.code yX0_copyFrom cX0_copyFrom 3 none ∈ uw := uw_in (i := 231) (by decide +kernel) (by decide +kernel)
theorem wc_X5_copyFrom : Cond.code yX5_copyFrom cX5_copyFrom 2 none ∈ uw := uw_in (i := 235) (by decide +kernel) (by decide +kernel)
theorem wc_X2_addHousehold : Cond.code yX2_addHousehold cX2_addHousehold 2 (some .int) ∈ uw := uw_in (i := 239) (by decide +kernel) (by decide +kernel)
theorem wc_X6_isWithin : Cond.code yX6_isWithin cX6_isWithin 3 (some .boolean) ∈ uw := uw_in (i := 242) (by decide +kernel) (by decide +kernel)
theorem wc_X6_recorded : Cond.code yX6_recorded cX6_recorded 3 (some .int) ∈ uw := uw_in (i := 246) (by decide +kernel) (by decide +kernel)
theorem wc_X6_dropOldestState : Cond.code yX6_dropOldestState cX6_dropOldestState 3 none ∈ uw := uw_in (i := 250) (by decide +kernel) (by decide +kernel)
theorem wc_X6_setSpades : Cond.code yX6_setSpades cX6_setSpades 3 (some .int) ∈ uw := uw_in (i := 254) (by decide +kernel) (by decide +kernel)
theorem wc_X2_changeSpades : Cond.code yX2_changeSpades cX2_changeSpades 4 (some .int) ∈ uw := uw_in (i := 258) (by decide +kernel) (by decide +kernel)
theorem wc_X2_hasHousehold : Cond.code yX2_hasHousehold cX2_hasHousehold 2 (some .boolean) ∈ uw := uw_in (i := 262) (by decide +kernel) (by decide +kernel)
theorem wc_X6_addBank : Cond.code yX6_addBank cX6_addBank 3 (some .int) ∈ uw := uw_in (i := 266) (by decide +kernel) (by decide +kernel)
theorem wc_X2_openBank : Cond.code yX2_openBank cX2_openBank 3 (some .int) ∈ uw := uw_in (i := 270) (by decide +kernel) (by decide +kernel)
theorem wc_X6_setAllowance : Cond.code yX6_setAllowance cX6_setAllowance 3 (some .int) ∈ uw := uw_in (i := 274) (by decide +kernel) (by decide +kernel)
theorem wc_X2_changeAllowance : Cond.code yX2_changeAllowance cX2_changeAllowance 4 (some .int) ∈ uw := uw_in (i := 278) (by decide +kernel) (by decide +kernel)
theorem wc_X2_hasBank : Cond.code yX2_hasBank cX2_hasBank 2 (some .boolean) ∈ uw := uw_in (i := 282) (by decide +kernel) (by decide +kernel)
theorem wc_X6_grant : Cond.code yX6_grant cX6_grant 4 (some .int) ∈ uw := uw_in (i := 286) (by decide +kernel) (by decide +kernel)
theorem wc_X2_changeRight : Cond.code yX2_changeRight cX2_changeRight 4 (some .int) ∈ uw := uw_in (i := 290) (by decide +kernel) (by decide +kernel)
theorem wc_X0_holders : Cond.code yX0_holders cX0_holders 3 (some .int) ∈ uw := uw_in (i := 294) (by decide +kernel) (by decide +kernel)
theorem wc_X6_cut : Cond.code yX6_cut cX6_cut 4 (some .int) ∈ uw := uw_in (i := 298) (by decide +kernel) (by decide +kernel)
theorem wc_X2_cutTurfs : Cond.code yX2_cutTurfs cX2_cutTurfs 6 (some .int) ∈ uw := uw_in (i := 302) (by decide +kernel) (by decide +kernel)
theorem wc_X2_shareOf : Cond.code yX2_shareOf cX2_shareOf 7 (some .int) ∈ uw := uw_in (i := 306) (by decide +kernel) (by decide +kernel)
theorem wc_X2_spadesAt : Cond.code yX2_spadesAt cX2_spadesAt 4 (some .int) ∈ uw := uw_in (i := 310) (by decide +kernel) (by decide +kernel)
theorem wc_X6_turn : Cond.code yX6_turn cX6_turn 2 (some .int) ∈ uw := uw_in (i := 315) (by decide +kernel) (by decide +kernel)
theorem wc_X2_turnStack : Cond.code yX2_turnStack cX2_turnStack 3 (some .int) ∈ uw := uw_in (i := 319) (by decide +kernel) (by decide +kernel)
theorem wc_X2_hasStack : Cond.code yX2_hasStack cX2_hasStack 2 (some .boolean) ∈ uw := uw_in (i := 323) (by decide +kernel) (by decide +kernel)
theorem wc_X6_join : Cond.code yX6_join cX6_join 3 (some .int) ∈ uw := uw_in (i := 327) (by decide +kernel) (by decide +kernel)
theorem wc_X2_joinStacks : Cond.code yX2_joinStacks cX2_joinStacks 5 (some .int) ∈ uw := uw_in (i := 331) (by decide +kernel) (by decide +kernel)
theorem wc_X5_takeAllOf : Cond.code yX5_takeAllOf cX5_takeAllOf 5 none ∈ uw := uw_in (i := 335) (by decide +kernel) (by decide +kernel)
theorem wc_min : Cond.code Lib.Math.min.name Lib.Math.min.code 2 (some .int) ∈ uw := uw_in (i := 338) (by decide +kernel) (by decide +kernel)
theorem wc_X2_removeStack : Cond.code yX2_removeStack cX2_removeStack 4 none ∈ uw := uw_in (i := 342) (by decide +kernel) (by decide +kernel)
theorem wc_X6_cart : Cond.code yX6_cart cX6_cart 3 (some .int) ∈ uw := uw_in (i := 346) (by decide +kernel) (by decide +kernel)
theorem wc_X2_cartTurfs : Cond.code yX2_cartTurfs cX2_cartTurfs 7 (some .int) ∈ uw := uw_in (i := 350) (by decide +kernel) (by decide +kernel)
theorem wc_X5_loadOf : Cond.code yX5_loadOf cX5_loadOf 2 (some .int) ∈ uw := uw_in (i := 354) (by decide +kernel) (by decide +kernel)
theorem wc_X5_turfWeight : Cond.code yX5_turfWeight cX5_turfWeight 1 (some .int) ∈ uw := uw_in (i := 358) (by decide +kernel) (by decide +kernel)
theorem wc_X2_bearingToday : Cond.code yX2_bearingToday cX2_bearingToday 2 (some .int) ∈ uw := uw_in (i := 362) (by decide +kernel) (by decide +kernel)
theorem wc_X0_bearing : Cond.code yX0_bearing cX0_bearing 3 (some .int) ∈ uw := uw_in (i := 366) (by decide +kernel) (by decide +kernel)
theorem wc_max : Cond.code Lib.Math.max.name Lib.Math.max.code 2 (some .int) ∈ uw := uw_in (i := 369) (by decide +kernel) (by decide +kernel)
theorem wc_X5_isDry : Cond.code yX5_isDry cX5_isDry 1 (some .boolean) ∈ uw := uw_in (i := 373) (by decide +kernel) (by decide +kernel)
theorem wc_X0_wearBy : Cond.code yX0_wearBy cX0_wearBy 1 (some .int) ∈ uw := uw_in (i := 376) (by decide +kernel) (by decide +kernel)
theorem wc_X6_repair : Cond.code yX6_repair cX6_repair 2 (some .int) ∈ uw := uw_in (i := 380) (by decide +kernel) (by decide +kernel)
theorem wc_X2_repairRoad : Cond.code yX2_repairRoad cX2_repairRoad 3 (some .int) ∈ uw := uw_in (i := 384) (by decide +kernel) (by decide +kernel)
theorem wc_X6_day : Cond.code yX6_day cX6_day 3 (some .int) ∈ uw := uw_in (i := 388) (by decide +kernel) (by decide +kernel)
theorem wc_X2_passDay : Cond.code yX2_passDay cX2_passDay 5 (some .int) ∈ uw := uw_in (i := 392) (by decide +kernel) (by decide +kernel)
theorem wc_X5_wetnessAfterDay : Cond.code yX5_wetnessAfterDay cX5_wetnessAfterDay 6 (some .int) ∈ uw := uw_in (i := 396) (by decide +kernel) (by decide +kernel)
theorem wc_X2_dryStacks : Cond.code yX2_dryStacks cX2_dryStacks 3 (some .int) ∈ uw := uw_in (i := 402) (by decide +kernel) (by decide +kernel)
theorem wc_X6_endYear : Cond.code yX6_endYear cX6_endYear 1 (some .int) ∈ uw := uw_in (i := 406) (by decide +kernel) (by decide +kernel)
theorem wc_X2_closeYear : Cond.code yX2_closeYear cX2_closeYear 3 (some .int) ∈ uw := uw_in (i := 410) (by decide +kernel) (by decide +kernel)
theorem wc_X0_forgetYear : Cond.code yX0_forgetYear cX0_forgetYear 2 none ∈ uw := uw_in (i := 414) (by decide +kernel) (by decide +kernel)
theorem wc_X6_take : Cond.code yX6_take cX6_take 2 (some .int) ∈ uw := uw_in (i := 418) (by decide +kernel) (by decide +kernel)
theorem wc_X4_takeSnapshot : Cond.code yX4_takeSnapshot cX4_takeSnapshot 2 (some .int) ∈ uw := uw_in (i := 422) (by decide +kernel) (by decide +kernel)
theorem wc_X6_restore : Cond.code yX6_restore cX6_restore 2 (some .int) ∈ uw := uw_in (i := 427) (by decide +kernel) (by decide +kernel)
theorem wc_X4_restoreSnapshot : Cond.code yX4_restoreSnapshot cX4_restoreSnapshot 2 (some .int) ∈ uw := uw_in (i := 431) (by decide +kernel) (by decide +kernel)
theorem wc_X6_undo : Cond.code yX6_undo cX6_undo 2 (some .int) ∈ uw := uw_in (i := 435) (by decide +kernel) (by decide +kernel)
theorem wc_X6_append : Cond.code yX6_append cX6_append 2 (some .int) ∈ uw := uw_in (i := 439) (by decide +kernel) (by decide +kernel)
theorem wc_X3_addCharacter : Cond.code yX3_addCharacter cX3_addCharacter 2 (some .int) ∈ uw := uw_in (i := 443) (by decide +kernel) (by decide +kernel)
theorem wc_X6_clearText : Cond.code yX6_clearText cX6_clearText 1 (some .int) ∈ uw := uw_in (i := 448) (by decide +kernel) (by decide +kernel)
theorem wc_X3_clearCharacters : Cond.code yX3_clearCharacters cX3_clearCharacters 2 (some .int) ∈ uw := uw_in (i := 452) (by decide +kernel) (by decide +kernel)
theorem wc_X6_run : Cond.code yX6_run cX6_run 2 (some .int) ∈ uw := uw_in (i := 456) (by decide +kernel) (by decide +kernel)
theorem wc_X3_runOn : Cond.code yX3_runOn cX3_runOn 4 (some .int) ∈ uw := uw_in (i := 460) (by decide +kernel) (by decide +kernel)
theorem wc_X3_readToken : Cond.code yX3_readToken cX3_readToken 2 none ∈ uw := uw_in (i := 464) (by decide +kernel) (by decide +kernel)
theorem wc_X3_kindOf : Cond.code yX3_kindOf cX3_kindOf 1 (some .int) ∈ uw := uw_in (i := 467) (by decide +kernel) (by decide +kernel)
theorem wc_X3_runCommand : Cond.code yX3_runCommand cX3_runCommand 6 (some .int) ∈ uw := uw_in (i := 471) (by decide +kernel) (by decide +kernel)
theorem wc_X3_commandOfToken : Cond.code yX3_commandOfToken cX3_commandOfToken 1 (some .int) ∈ uw := uw_in (i := 475) (by decide +kernel) (by decide +kernel)
theorem wc_X3_isToken : Cond.code yX3_isToken cX3_isToken 3 (some .boolean) ∈ uw := uw_in (i := 480) (by decide +kernel) (by decide +kernel)
theorem wc_J0_length_8abf5 : Cond.code yJ0_length_8abf5 cJ0_length_8abf5 1 (some .int) ∈ uw := uw_in (i := 484) (by decide +kernel) (by decide +kernel)
theorem wc_J0_coder_7d493 : Cond.code yJ0_coder_7d493 cJ0_coder_7d493 1 (some .byte) ∈ uw := uw_in (i := 488) (by decide +kernel) (by decide +kernel)
theorem wc_J0_charAt_5068e : Cond.code yJ0_charAt_5068e cJ0_charAt_5068e 2 (some .char) ∈ uw := uw_in (i := 494) (by decide +kernel) (by decide +kernel)
theorem wc_J0_isLatin1_aae02 : Cond.code yJ0_isLatin1_aae02 cJ0_isLatin1_aae02 1 (some .boolean) ∈ uw := uw_in (i := 498) (by decide +kernel) (by decide +kernel)
theorem wc_J1_charAt_3b067 : Cond.code yJ1_charAt_3b067 cJ1_charAt_3b067 2 (some .char) ∈ uw := uw_in (i := 501) (by decide +kernel) (by decide +kernel)
theorem wc_J0_checkIndex_df160 : Cond.code yJ0_checkIndex_df160 cJ0_checkIndex_df160 2 none ∈ uw := uw_in (i := 504) (by decide +kernel) (by decide +kernel)
theorem wc_J3_checkIndex_8e157 : Cond.code yJ3_checkIndex_8e157 cJ3_checkIndex_8e157 3 (some .int) ∈ uw := uw_in (i := 509) (by decide +kernel) (by decide +kernel)
theorem wc_J2_charAt_3b067 : Cond.code yJ2_charAt_3b067 cJ2_charAt_3b067 2 (some .char) ∈ uw := uw_in (i := 512) (by decide +kernel) (by decide +kernel)
theorem wc_J2_checkIndex_2214a : Cond.code yJ2_checkIndex_2214a cJ2_checkIndex_2214a 2 none ∈ uw := uw_in (i := 515) (by decide +kernel) (by decide +kernel)
theorem wc_J2_length_9d52b : Cond.code yJ2_length_9d52b cJ2_length_9d52b 1 (some .int) ∈ uw := uw_in (i := 518) (by decide +kernel) (by decide +kernel)
theorem wc_J2_getChar_3b067 : Cond.code yJ2_getChar_3b067 cJ2_getChar_3b067 2 (some .char) ∈ uw := uw_in (i := 522) (by decide +kernel) (by decide +kernel)
theorem wc_X3_numbersOf : Cond.code yX3_numbersOf cX3_numbersOf 1 (some .int) ∈ uw := uw_in (i := 537) (by decide +kernel) (by decide +kernel)
theorem wc_X3_isNumber : Cond.code yX3_isNumber cX3_isNumber 2 (some .boolean) ∈ uw := uw_in (i := 541) (by decide +kernel) (by decide +kernel)
theorem wc_X3_valueOfToken : Cond.code yX3_valueOfToken cX3_valueOfToken 3 (some .int) ∈ uw := uw_in (i := 545) (by decide +kernel) (by decide +kernel)
theorem wc_X3_perform : Cond.code yX3_perform cX3_perform 3 (some .int) ∈ uw := uw_in (i := 550) (by decide +kernel) (by decide +kernel)
theorem wc_X6_count : Cond.code yX6_count cX6_count 2 (some .int) ∈ uw := uw_in (i := 562) (by decide +kernel) (by decide +kernel)
theorem wc_X4_snapshots : Cond.code yX4_snapshots cX4_snapshots 3 (some .int) ∈ uw := uw_in (i := 567) (by decide +kernel) (by decide +kernel)
theorem wc_X6_household : Cond.code yX6_household cX6_household 3 (some .int) ∈ uw := uw_in (i := 571) (by decide +kernel) (by decide +kernel)
theorem wc_X2_householdProperty : Cond.code yX2_householdProperty cX2_householdProperty 3 (some .int) ∈ uw := uw_in (i := 575) (by decide +kernel) (by decide +kernel)
theorem wc_X2_rightsOf : Cond.code yX2_rightsOf cX2_rightsOf 4 (some .int) ∈ uw := uw_in (i := 579) (by decide +kernel) (by decide +kernel)
theorem wc_X2_stacksOf : Cond.code yX2_stacksOf cX2_stacksOf 4 (some .int) ∈ uw := uw_in (i := 583) (by decide +kernel) (by decide +kernel)
theorem wc_X2_turfsInStacksOf : Cond.code yX2_turfsInStacksOf cX2_turfsInStacksOf 4 (some .int) ∈ uw := uw_in (i := 587) (by decide +kernel) (by decide +kernel)
theorem wc_X6_bank : Cond.code yX6_bank cX6_bank 3 (some .int) ∈ uw := uw_in (i := 591) (by decide +kernel) (by decide +kernel)
theorem wc_X2_bankProperty : Cond.code yX2_bankProperty cX2_bankProperty 4 (some .int) ∈ uw := uw_in (i := 595) (by decide +kernel) (by decide +kernel)
theorem wc_X0_holdersAsBits : Cond.code yX0_holdersAsBits cX0_holdersAsBits 3 (some .int) ∈ uw := uw_in (i := 599) (by decide +kernel) (by decide +kernel)
theorem wc_X2_turfsInStacksAt : Cond.code yX2_turfsInStacksAt cX2_turfsInStacksAt 4 (some .int) ∈ uw := uw_in (i := 603) (by decide +kernel) (by decide +kernel)
theorem wc_X6_right : Cond.code yX6_right cX6_right 4 (some .int) ∈ uw := uw_in (i := 607) (by decide +kernel) (by decide +kernel)
theorem wc_X2_rightPart : Cond.code yX2_rightPart cX2_rightPart 4 (some .int) ∈ uw := uw_in (i := 611) (by decide +kernel) (by decide +kernel)
theorem wc_X2_stillToCut : Cond.code yX2_stillToCut cX2_stillToCut 3 (some .int) ∈ uw := uw_in (i := 615) (by decide +kernel) (by decide +kernel)
theorem wc_X6_stack : Cond.code yX6_stack cX6_stack 3 (some .int) ∈ uw := uw_in (i := 620) (by decide +kernel) (by decide +kernel)
theorem wc_X2_stackProperty : Cond.code yX2_stackProperty cX2_stackProperty 4 (some .int) ∈ uw := uw_in (i := 624) (by decide +kernel) (by decide +kernel)
theorem wc_X6_dryIn : Cond.code yX6_dryIn cX6_dryIn 4 (some .int) ∈ uw := uw_in (i := 629) (by decide +kernel) (by decide +kernel)
theorem wc_X2_daysUntilDry : Cond.code yX2_daysUntilDry cX2_daysUntilDry 7 (some .int) ∈ uw := uw_in (i := 633) (by decide +kernel) (by decide +kernel)
theorem wc_X6_cartLoad : Cond.code yX6_cartLoad cX6_cartLoad 2 (some .int) ∈ uw := uw_in (i := 637) (by decide +kernel) (by decide +kernel)
theorem wc_X2_greatestCartOf : Cond.code yX2_greatestCartOf cX2_greatestCartOf 4 (some .int) ∈ uw := uw_in (i := 641) (by decide +kernel) (by decide +kernel)
theorem wc_X5_greatestCart : Cond.code yX5_greatestCart cX5_greatestCart 5 (some .int) ∈ uw := uw_in (i := 645) (by decide +kernel) (by decide +kernel)
theorem wc_X6_carts : Cond.code yX6_carts cX6_carts 2 (some .int) ∈ uw := uw_in (i := 649) (by decide +kernel) (by decide +kernel)
theorem wc_X2_cartsNeeded : Cond.code yX2_cartsNeeded cX2_cartsNeeded 8 (some .int) ∈ uw := uw_in (i := 653) (by decide +kernel) (by decide +kernel)
theorem wc_X6_worth : Cond.code yX6_worth cX6_worth 3 (some .int) ∈ uw := uw_in (i := 657) (by decide +kernel) (by decide +kernel)
theorem wc_X2_worthOfShed : Cond.code yX2_worthOfShed cX2_worthOfShed 5 (some .int) ∈ uw := uw_in (i := 661) (by decide +kernel) (by decide +kernel)
theorem wc_X6_nextToCut : Cond.code yX6_nextToCut cX6_nextToCut 2 (some .int) ∈ uw := uw_in (i := 667) (by decide +kernel) (by decide +kernel)
theorem wc_X2_mostToCut : Cond.code yX2_mostToCut cX2_mostToCut 6 (some .int) ∈ uw := uw_in (i := 671) (by decide +kernel) (by decide +kernel)
theorem wc_X7_init : Cond.code yX7_init cX7_init 1 none ∈ uw := uw_in (i := 676) (by decide +kernel) (by decide +kernel)
theorem wc_X7_come : Cond.code yX7_come cX7_come 4 (some .int) ∈ uw := uw_in (i := 718) (by decide +kernel) (by decide +kernel)
theorem wc_X7_in : Cond.code yX7_in cX7_in 3 (some .boolean) ∈ uw := uw_in (i := 721) (by decide +kernel) (by decide +kernel)
theorem wc_X7_acts : Cond.code yX7_acts cX7_acts 2 none ∈ uw := uw_in (i := 725) (by decide +kernel) (by decide +kernel)
theorem wc_X7_setSpades : Cond.code yX7_setSpades cX7_setSpades 4 (some .int) ∈ uw := uw_in (i := 729) (by decide +kernel) (by decide +kernel)
theorem wc_X7_isHouse : Cond.code yX7_isHouse cX7_isHouse 2 (some .boolean) ∈ uw := uw_in (i := 733) (by decide +kernel) (by decide +kernel)
theorem wc_X7_inHouse : Cond.code yX7_inHouse cX7_inHouse 3 (some .int) ∈ uw := uw_in (i := 737) (by decide +kernel) (by decide +kernel)
theorem wc_X7_addBank : Cond.code yX7_addBank cX7_addBank 5 (some .int) ∈ uw := uw_in (i := 741) (by decide +kernel) (by decide +kernel)
theorem wc_X7_setAllowance : Cond.code yX7_setAllowance cX7_setAllowance 4 (some .int) ∈ uw := uw_in (i := 745) (by decide +kernel) (by decide +kernel)
theorem wc_X7_isBank : Cond.code yX7_isBank cX7_isBank 2 (some .boolean) ∈ uw := uw_in (i := 749) (by decide +kernel) (by decide +kernel)
theorem wc_X7_inBank : Cond.code yX7_inBank cX7_inBank 3 (some .int) ∈ uw := uw_in (i := 753) (by decide +kernel) (by decide +kernel)
theorem wc_X7_grant : Cond.code yX7_grant cX7_grant 5 (some .int) ∈ uw := uw_in (i := 757) (by decide +kernel) (by decide +kernel)
theorem wc_X7_ones : Cond.code yX7_ones cX7_ones 3 (some .int) ∈ uw := uw_in (i := 760) (by decide +kernel) (by decide +kernel)
theorem wc_X7_cut : Cond.code yX7_cut cX7_cut 5 (some .int) ∈ uw := uw_in (i := 764) (by decide +kernel) (by decide +kernel)
theorem wc_X7_mayCut : Cond.code yX7_mayCut cX7_mayCut 4 (some .int) ∈ uw := uw_in (i := 768) (by decide +kernel) (by decide +kernel)
theorem wc_X7_shareOf : Cond.code yX7_shareOf cX7_shareOf 7 (some .int) ∈ uw := uw_in (i := 772) (by decide +kernel) (by decide +kernel)
theorem wc_X7_spadesOf : Cond.code yX7_spadesOf cX7_spadesOf 4 (some .int) ∈ uw := uw_in (i := 776) (by decide +kernel) (by decide +kernel)
theorem wc_X7_hasRight : Cond.code yX7_hasRight cX7_hasRight 3 (some .boolean) ∈ uw := uw_in (i := 780) (by decide +kernel) (by decide +kernel)
theorem wc_X7_turn : Cond.code yX7_turn cX7_turn 2 (some .int) ∈ uw := uw_in (i := 785) (by decide +kernel) (by decide +kernel)
theorem wc_X7_isStack : Cond.code yX7_isStack cX7_isStack 2 (some .boolean) ∈ uw := uw_in (i := 789) (by decide +kernel) (by decide +kernel)
theorem wc_X7_inStack : Cond.code yX7_inStack cX7_inStack 3 (some .int) ∈ uw := uw_in (i := 793) (by decide +kernel) (by decide +kernel)
theorem wc_X7_join : Cond.code yX7_join cX7_join 7 (some .int) ∈ uw := uw_in (i := 797) (by decide +kernel) (by decide +kernel)
theorem wc_X7_goes : Cond.code yX7_goes cX7_goes 3 none ∈ uw := uw_in (i := 801) (by decide +kernel) (by decide +kernel)
theorem wc_X7_cart : Cond.code yX7_cart cX7_cart 5 (some .int) ∈ uw := uw_in (i := 805) (by decide +kernel) (by decide +kernel)
theorem wc_X7_load : Cond.code yX7_load cX7_load 3 (some .int) ∈ uw := uw_in (i := 809) (by decide +kernel) (by decide +kernel)
theorem wc_X7_weight : Cond.code yX7_weight cX7_weight 2 (some .int) ∈ uw := uw_in (i := 813) (by decide +kernel) (by decide +kernel)
theorem wc_X7_bears : Cond.code yX7_bears cX7_bears 3 (some .int) ∈ uw := uw_in (i := 817) (by decide +kernel) (by decide +kernel)
theorem wc_X7_isDry : Cond.code yX7_isDry cX7_isDry 2 (some .boolean) ∈ uw := uw_in (i := 821) (by decide +kernel) (by decide +kernel)
theorem wc_X7_repair : Cond.code yX7_repair cX7_repair 3 (some .int) ∈ uw := uw_in (i := 825) (by decide +kernel) (by decide +kernel)
theorem wc_X7_day : Cond.code yX7_day cX7_day 4 (some .int) ∈ uw := uw_in (i := 829) (by decide +kernel) (by decide +kernel)
theorem wc_X7_dried : Cond.code yX7_dried cX7_dried 5 (some .int) ∈ uw := uw_in (i := 832) (by decide +kernel) (by decide +kernel)
theorem wc_X7_dryStacks : Cond.code yX7_dryStacks cX7_dryStacks 3 (some .int) ∈ uw := uw_in (i := 836) (by decide +kernel) (by decide +kernel)
theorem wc_X7_endYear : Cond.code yX7_endYear cX7_endYear 3 (some .int) ∈ uw := uw_in (i := 840) (by decide +kernel) (by decide +kernel)
theorem wc_X7_take : Cond.code yX7_take cX7_take 3 (some .int) ∈ uw := uw_in (i := 844) (by decide +kernel) (by decide +kernel)
theorem wc_X7_restore : Cond.code yX7_restore cX7_restore 3 (some .int) ∈ uw := uw_in (i := 848) (by decide +kernel) (by decide +kernel)
theorem wc_X7_undo : Cond.code yX7_undo cX7_undo 2 (some .int) ∈ uw := uw_in (i := 852) (by decide +kernel) (by decide +kernel)
theorem wc_X7_append : Cond.code yX7_append cX7_append 2 (some .int) ∈ uw := uw_in (i := 856) (by decide +kernel) (by decide +kernel)
theorem wc_X7_clearText : Cond.code yX7_clearText cX7_clearText 2 (some .int) ∈ uw := uw_in (i := 860) (by decide +kernel) (by decide +kernel)
theorem wc_X7_run : Cond.code yX7_run cX7_run 4 (some .int) ∈ uw := uw_in (i := 864) (by decide +kernel) (by decide +kernel)
theorem wc_X7_readsAll : Cond.code yX7_readsAll cX7_readsAll 2 (some .int) ∈ uw := uw_in (i := 868) (by decide +kernel) (by decide +kernel)
theorem wc_X7_token : Cond.code yX7_token cX7_token 2 none ∈ uw := uw_in (i := 872) (by decide +kernel) (by decide +kernel)
theorem wc_X7_kindOf : Cond.code yX7_kindOf cX7_kindOf 1 (some .int) ∈ uw := uw_in (i := 875) (by decide +kernel) (by decide +kernel)
theorem wc_X7_readsOne : Cond.code yX7_readsOne cX7_readsOne 5 (some .int) ∈ uw := uw_in (i := 879) (by decide +kernel) (by decide +kernel)
theorem wc_X7_command : Cond.code yX7_command cX7_command 1 (some .int) ∈ uw := uw_in (i := 883) (by decide +kernel) (by decide +kernel)
theorem wc_X7_isWord : Cond.code yX7_isWord cX7_isWord 9 (some .boolean) ∈ uw := uw_in (i := 887) (by decide +kernel) (by decide +kernel)
theorem wc_X7_isNumber : Cond.code yX7_isNumber cX7_isNumber 4 (some .boolean) ∈ uw := uw_in (i := 891) (by decide +kernel) (by decide +kernel)
theorem wc_X7_does : Cond.code yX7_does cX7_does 2 (some .int) ∈ uw := uw_in (i := 895) (by decide +kernel) (by decide +kernel)
theorem wc_X7_count : Cond.code yX7_count cX7_count 2 (some .int) ∈ uw := uw_in (i := 906) (by decide +kernel) (by decide +kernel)
theorem wc_X7_household : Cond.code yX7_household cX7_household 3 (some .int) ∈ uw := uw_in (i := 910) (by decide +kernel) (by decide +kernel)
theorem wc_X7_banksOf : Cond.code yX7_banksOf cX7_banksOf 4 (some .int) ∈ uw := uw_in (i := 914) (by decide +kernel) (by decide +kernel)
theorem wc_X7_stacksOf : Cond.code yX7_stacksOf cX7_stacksOf 5 (some .int) ∈ uw := uw_in (i := 918) (by decide +kernel) (by decide +kernel)
theorem wc_X7_bank : Cond.code yX7_bank cX7_bank 3 (some .int) ∈ uw := uw_in (i := 922) (by decide +kernel) (by decide +kernel)
theorem wc_X7_turfsAt : Cond.code yX7_turfsAt cX7_turfsAt 4 (some .int) ∈ uw := uw_in (i := 926) (by decide +kernel) (by decide +kernel)
theorem wc_X7_right : Cond.code yX7_right cX7_right 4 (some .int) ∈ uw := uw_in (i := 930) (by decide +kernel) (by decide +kernel)
theorem wc_X7_stack : Cond.code yX7_stack cX7_stack 3 (some .int) ∈ uw := uw_in (i := 934) (by decide +kernel) (by decide +kernel)
theorem wc_X7_dryIn : Cond.code yX7_dryIn cX7_dryIn 6 (some .int) ∈ uw := uw_in (i := 938) (by decide +kernel) (by decide +kernel)
theorem wc_X7_cartLoad : Cond.code yX7_cartLoad cX7_cartLoad 3 (some .int) ∈ uw := uw_in (i := 942) (by decide +kernel) (by decide +kernel)
theorem wc_X7_most : Cond.code yX7_most cX7_most 5 (some .int) ∈ uw := uw_in (i := 946) (by decide +kernel) (by decide +kernel)
theorem wc_X7_carts : Cond.code yX7_carts cX7_carts 7 (some .int) ∈ uw := uw_in (i := 950) (by decide +kernel) (by decide +kernel)
theorem wc_X7_worth : Cond.code yX7_worth cX7_worth 5 (some .int) ∈ uw := uw_in (i := 954) (by decide +kernel) (by decide +kernel)
theorem wc_X7_nextToCut : Cond.code yX7_nextToCut cX7_nextToCut 6 (some .int) ∈ uw := uw_in (i := 960) (by decide +kernel) (by decide +kernel)
theorem wn_X6_init : Cond.instanceMethod yX6_init ∈ uw := uw_in (i := 17) (by decide +kernel) (by decide +kernel)
theorem wn_objectInit : Cond.instanceMethod objectInit ∈ uw := uw_in (i := 20) (by decide +kernel) (by decide +kernel)
theorem wn_X4_init : Cond.instanceMethod yX4_init ∈ uw := uw_in (i := 25) (by decide +kernel) (by decide +kernel)
theorem wn_X2_init : Cond.instanceMethod yX2_init ∈ uw := uw_in (i := 31) (by decide +kernel) (by decide +kernel)
theorem wn_X1_init : Cond.instanceMethod yX1_init ∈ uw := uw_in (i := 42) (by decide +kernel) (by decide +kernel)
theorem wn_X0_init : Cond.instanceMethod yX0_init ∈ uw := uw_in (i := 60) (by decide +kernel) (by decide +kernel)
theorem wn_X5_init : Cond.instanceMethod yX5_init ∈ uw := uw_in (i := 100) (by decide +kernel) (by decide +kernel)
theorem wn_X3_init : Cond.instanceMethod yX3_init ∈ uw := uw_in (i := 175) (by decide +kernel) (by decide +kernel)
theorem wn_X6_come : Cond.instanceMethod yX6_come ∈ uw := uw_in (i := 213) (by decide +kernel) (by decide +kernel)
theorem wn_X4_copyFrom : Cond.instanceMethod yX4_copyFrom ∈ uw := uw_in (i := 217) (by decide +kernel) (by decide +kernel)
theorem wn_X2_copyFrom : Cond.instanceMethod yX2_copyFrom ∈ uw := uw_in (i := 221) (by decide +kernel) (by decide +kernel)
theorem wn_X1_copyFrom : Cond.instanceMethod yX1_copyFrom ∈ uw := uw_in (i := 225) (by decide +kernel) (by decide +kernel)
theorem wn_X0_copyFrom : Cond.instanceMethod yX0_copyFrom ∈ uw := uw_in (i := 229) (by decide +kernel) (by decide +kernel)
theorem wn_X5_copyFrom : Cond.instanceMethod yX5_copyFrom ∈ uw := uw_in (i := 233) (by decide +kernel) (by decide +kernel)
theorem wn_X2_addHousehold : Cond.instanceMethod yX2_addHousehold ∈ uw := uw_in (i := 237) (by decide +kernel) (by decide +kernel)
theorem wn_X6_recorded : Cond.instanceMethod yX6_recorded ∈ uw := uw_in (i := 245) (by decide +kernel) (by decide +kernel)
theorem wn_X6_dropOldestState : Cond.instanceMethod yX6_dropOldestState ∈ uw := uw_in (i := 249) (by decide +kernel) (by decide +kernel)
theorem wn_X6_setSpades : Cond.instanceMethod yX6_setSpades ∈ uw := uw_in (i := 252) (by decide +kernel) (by decide +kernel)
theorem wn_X2_changeSpades : Cond.instanceMethod yX2_changeSpades ∈ uw := uw_in (i := 256) (by decide +kernel) (by decide +kernel)
theorem wn_X2_hasHousehold : Cond.instanceMethod yX2_hasHousehold ∈ uw := uw_in (i := 260) (by decide +kernel) (by decide +kernel)
theorem wn_X6_addBank : Cond.instanceMethod yX6_addBank ∈ uw := uw_in (i := 264) (by decide +kernel) (by decide +kernel)
theorem wn_X2_openBank : Cond.instanceMethod yX2_openBank ∈ uw := uw_in (i := 268) (by decide +kernel) (by decide +kernel)
theorem wn_X6_setAllowance : Cond.instanceMethod yX6_setAllowance ∈ uw := uw_in (i := 272) (by decide +kernel) (by decide +kernel)
theorem wn_X2_changeAllowance : Cond.instanceMethod yX2_changeAllowance ∈ uw := uw_in (i := 276) (by decide +kernel) (by decide +kernel)
theorem wn_X2_hasBank : Cond.instanceMethod yX2_hasBank ∈ uw := uw_in (i := 280) (by decide +kernel) (by decide +kernel)
theorem wn_X6_grant : Cond.instanceMethod yX6_grant ∈ uw := uw_in (i := 284) (by decide +kernel) (by decide +kernel)
theorem wn_X2_changeRight : Cond.instanceMethod yX2_changeRight ∈ uw := uw_in (i := 288) (by decide +kernel) (by decide +kernel)
theorem wn_X0_holders : Cond.instanceMethod yX0_holders ∈ uw := uw_in (i := 292) (by decide +kernel) (by decide +kernel)
theorem wn_X6_cut : Cond.instanceMethod yX6_cut ∈ uw := uw_in (i := 296) (by decide +kernel) (by decide +kernel)
theorem wn_X2_cutTurfs : Cond.instanceMethod yX2_cutTurfs ∈ uw := uw_in (i := 300) (by decide +kernel) (by decide +kernel)
theorem wn_X2_shareOf : Cond.instanceMethod yX2_shareOf ∈ uw := uw_in (i := 304) (by decide +kernel) (by decide +kernel)
theorem wn_X2_spadesAt : Cond.instanceMethod yX2_spadesAt ∈ uw := uw_in (i := 308) (by decide +kernel) (by decide +kernel)
theorem wn_X6_turn : Cond.instanceMethod yX6_turn ∈ uw := uw_in (i := 313) (by decide +kernel) (by decide +kernel)
theorem wn_X2_turnStack : Cond.instanceMethod yX2_turnStack ∈ uw := uw_in (i := 317) (by decide +kernel) (by decide +kernel)
theorem wn_X2_hasStack : Cond.instanceMethod yX2_hasStack ∈ uw := uw_in (i := 321) (by decide +kernel) (by decide +kernel)
theorem wn_X6_join : Cond.instanceMethod yX6_join ∈ uw := uw_in (i := 325) (by decide +kernel) (by decide +kernel)
theorem wn_X2_joinStacks : Cond.instanceMethod yX2_joinStacks ∈ uw := uw_in (i := 329) (by decide +kernel) (by decide +kernel)
theorem wn_X5_takeAllOf : Cond.instanceMethod yX5_takeAllOf ∈ uw := uw_in (i := 333) (by decide +kernel) (by decide +kernel)
theorem wn_X2_removeStack : Cond.instanceMethod yX2_removeStack ∈ uw := uw_in (i := 340) (by decide +kernel) (by decide +kernel)
theorem wn_X6_cart : Cond.instanceMethod yX6_cart ∈ uw := uw_in (i := 344) (by decide +kernel) (by decide +kernel)
theorem wn_X2_cartTurfs : Cond.instanceMethod yX2_cartTurfs ∈ uw := uw_in (i := 348) (by decide +kernel) (by decide +kernel)
theorem wn_X5_loadOf : Cond.instanceMethod yX5_loadOf ∈ uw := uw_in (i := 352) (by decide +kernel) (by decide +kernel)
theorem wn_X5_turfWeight : Cond.instanceMethod yX5_turfWeight ∈ uw := uw_in (i := 356) (by decide +kernel) (by decide +kernel)
theorem wn_X2_bearingToday : Cond.instanceMethod yX2_bearingToday ∈ uw := uw_in (i := 360) (by decide +kernel) (by decide +kernel)
theorem wn_X0_bearing : Cond.instanceMethod yX0_bearing ∈ uw := uw_in (i := 364) (by decide +kernel) (by decide +kernel)
theorem wn_X5_isDry : Cond.instanceMethod yX5_isDry ∈ uw := uw_in (i := 371) (by decide +kernel) (by decide +kernel)
theorem wn_X6_repair : Cond.instanceMethod yX6_repair ∈ uw := uw_in (i := 378) (by decide +kernel) (by decide +kernel)
theorem wn_X2_repairRoad : Cond.instanceMethod yX2_repairRoad ∈ uw := uw_in (i := 382) (by decide +kernel) (by decide +kernel)
theorem wn_X6_day : Cond.instanceMethod yX6_day ∈ uw := uw_in (i := 386) (by decide +kernel) (by decide +kernel)
theorem wn_X2_passDay : Cond.instanceMethod yX2_passDay ∈ uw := uw_in (i := 390) (by decide +kernel) (by decide +kernel)
theorem wn_X5_wetnessAfterDay : Cond.instanceMethod yX5_wetnessAfterDay ∈ uw := uw_in (i := 394) (by decide +kernel) (by decide +kernel)
theorem wn_X2_dryStacks : Cond.instanceMethod yX2_dryStacks ∈ uw := uw_in (i := 400) (by decide +kernel) (by decide +kernel)
theorem wn_X6_endYear : Cond.instanceMethod yX6_endYear ∈ uw := uw_in (i := 404) (by decide +kernel) (by decide +kernel)
theorem wn_X2_closeYear : Cond.instanceMethod yX2_closeYear ∈ uw := uw_in (i := 408) (by decide +kernel) (by decide +kernel)
theorem wn_X0_forgetYear : Cond.instanceMethod yX0_forgetYear ∈ uw := uw_in (i := 412) (by decide +kernel) (by decide +kernel)
theorem wn_X6_take : Cond.instanceMethod yX6_take ∈ uw := uw_in (i := 416) (by decide +kernel) (by decide +kernel)
theorem wn_X4_takeSnapshot : Cond.instanceMethod yX4_takeSnapshot ∈ uw := uw_in (i := 420) (by decide +kernel) (by decide +kernel)
theorem wn_X6_restore : Cond.instanceMethod yX6_restore ∈ uw := uw_in (i := 425) (by decide +kernel) (by decide +kernel)
theorem wn_X4_restoreSnapshot : Cond.instanceMethod yX4_restoreSnapshot ∈ uw := uw_in (i := 429) (by decide +kernel) (by decide +kernel)
theorem wn_X6_undo : Cond.instanceMethod yX6_undo ∈ uw := uw_in (i := 433) (by decide +kernel) (by decide +kernel)
theorem wn_X6_append : Cond.instanceMethod yX6_append ∈ uw := uw_in (i := 437) (by decide +kernel) (by decide +kernel)
theorem wn_X3_addCharacter : Cond.instanceMethod yX3_addCharacter ∈ uw := uw_in (i := 441) (by decide +kernel) (by decide +kernel)
theorem wn_X6_clearText : Cond.instanceMethod yX6_clearText ∈ uw := uw_in (i := 446) (by decide +kernel) (by decide +kernel)
theorem wn_X3_clearCharacters : Cond.instanceMethod yX3_clearCharacters ∈ uw := uw_in (i := 450) (by decide +kernel) (by decide +kernel)
theorem wn_X6_run : Cond.instanceMethod yX6_run ∈ uw := uw_in (i := 454) (by decide +kernel) (by decide +kernel)
theorem wn_X3_runOn : Cond.instanceMethod yX3_runOn ∈ uw := uw_in (i := 458) (by decide +kernel) (by decide +kernel)
theorem wn_X3_readToken : Cond.instanceMethod yX3_readToken ∈ uw := uw_in (i := 462) (by decide +kernel) (by decide +kernel)
theorem wn_X3_runCommand : Cond.instanceMethod yX3_runCommand ∈ uw := uw_in (i := 469) (by decide +kernel) (by decide +kernel)
theorem wn_X3_commandOfToken : Cond.instanceMethod yX3_commandOfToken ∈ uw := uw_in (i := 473) (by decide +kernel) (by decide +kernel)
theorem wn_X3_isToken : Cond.instanceMethod yX3_isToken ∈ uw := uw_in (i := 478) (by decide +kernel) (by decide +kernel)
theorem wn_J0_length_8abf5 : Cond.instanceMethod yJ0_length_8abf5 ∈ uw := uw_in (i := 482) (by decide +kernel) (by decide +kernel)
theorem wn_J0_coder_7d493 : Cond.instanceMethod yJ0_coder_7d493 ∈ uw := uw_in (i := 486) (by decide +kernel) (by decide +kernel)
theorem wn_J0_charAt_5068e : Cond.instanceMethod yJ0_charAt_5068e ∈ uw := uw_in (i := 492) (by decide +kernel) (by decide +kernel)
theorem wn_J0_isLatin1_aae02 : Cond.instanceMethod yJ0_isLatin1_aae02 ∈ uw := uw_in (i := 496) (by decide +kernel) (by decide +kernel)
theorem wn_X3_isNumber : Cond.instanceMethod yX3_isNumber ∈ uw := uw_in (i := 539) (by decide +kernel) (by decide +kernel)
theorem wn_X3_valueOfToken : Cond.instanceMethod yX3_valueOfToken ∈ uw := uw_in (i := 543) (by decide +kernel) (by decide +kernel)
theorem wn_X3_perform : Cond.instanceMethod yX3_perform ∈ uw := uw_in (i := 548) (by decide +kernel) (by decide +kernel)
theorem wn_X6_count : Cond.instanceMethod yX6_count ∈ uw := uw_in (i := 560) (by decide +kernel) (by decide +kernel)
theorem wn_X4_snapshots : Cond.instanceMethod yX4_snapshots ∈ uw := uw_in (i := 565) (by decide +kernel) (by decide +kernel)
theorem wn_X6_household : Cond.instanceMethod yX6_household ∈ uw := uw_in (i := 569) (by decide +kernel) (by decide +kernel)
theorem wn_X2_householdProperty : Cond.instanceMethod yX2_householdProperty ∈ uw := uw_in (i := 573) (by decide +kernel) (by decide +kernel)
theorem wn_X2_rightsOf : Cond.instanceMethod yX2_rightsOf ∈ uw := uw_in (i := 577) (by decide +kernel) (by decide +kernel)
theorem wn_X2_stacksOf : Cond.instanceMethod yX2_stacksOf ∈ uw := uw_in (i := 581) (by decide +kernel) (by decide +kernel)
theorem wn_X2_turfsInStacksOf : Cond.instanceMethod yX2_turfsInStacksOf ∈ uw := uw_in (i := 585) (by decide +kernel) (by decide +kernel)
theorem wn_X6_bank : Cond.instanceMethod yX6_bank ∈ uw := uw_in (i := 589) (by decide +kernel) (by decide +kernel)
theorem wn_X2_bankProperty : Cond.instanceMethod yX2_bankProperty ∈ uw := uw_in (i := 593) (by decide +kernel) (by decide +kernel)
theorem wn_X0_holdersAsBits : Cond.instanceMethod yX0_holdersAsBits ∈ uw := uw_in (i := 597) (by decide +kernel) (by decide +kernel)
theorem wn_X2_turfsInStacksAt : Cond.instanceMethod yX2_turfsInStacksAt ∈ uw := uw_in (i := 601) (by decide +kernel) (by decide +kernel)
theorem wn_X6_right : Cond.instanceMethod yX6_right ∈ uw := uw_in (i := 605) (by decide +kernel) (by decide +kernel)
theorem wn_X2_rightPart : Cond.instanceMethod yX2_rightPart ∈ uw := uw_in (i := 609) (by decide +kernel) (by decide +kernel)
theorem wn_X2_stillToCut : Cond.instanceMethod yX2_stillToCut ∈ uw := uw_in (i := 613) (by decide +kernel) (by decide +kernel)
theorem wn_X6_stack : Cond.instanceMethod yX6_stack ∈ uw := uw_in (i := 618) (by decide +kernel) (by decide +kernel)
theorem wn_X2_stackProperty : Cond.instanceMethod yX2_stackProperty ∈ uw := uw_in (i := 622) (by decide +kernel) (by decide +kernel)
theorem wn_X6_dryIn : Cond.instanceMethod yX6_dryIn ∈ uw := uw_in (i := 627) (by decide +kernel) (by decide +kernel)
theorem wn_X2_daysUntilDry : Cond.instanceMethod yX2_daysUntilDry ∈ uw := uw_in (i := 631) (by decide +kernel) (by decide +kernel)
theorem wn_X6_cartLoad : Cond.instanceMethod yX6_cartLoad ∈ uw := uw_in (i := 635) (by decide +kernel) (by decide +kernel)
theorem wn_X2_greatestCartOf : Cond.instanceMethod yX2_greatestCartOf ∈ uw := uw_in (i := 639) (by decide +kernel) (by decide +kernel)
theorem wn_X5_greatestCart : Cond.instanceMethod yX5_greatestCart ∈ uw := uw_in (i := 643) (by decide +kernel) (by decide +kernel)
theorem wn_X6_carts : Cond.instanceMethod yX6_carts ∈ uw := uw_in (i := 647) (by decide +kernel) (by decide +kernel)
theorem wn_X2_cartsNeeded : Cond.instanceMethod yX2_cartsNeeded ∈ uw := uw_in (i := 651) (by decide +kernel) (by decide +kernel)
theorem wn_X6_worth : Cond.instanceMethod yX6_worth ∈ uw := uw_in (i := 655) (by decide +kernel) (by decide +kernel)
theorem wn_X2_worthOfShed : Cond.instanceMethod yX2_worthOfShed ∈ uw := uw_in (i := 659) (by decide +kernel) (by decide +kernel)
theorem wn_X6_nextToCut : Cond.instanceMethod yX6_nextToCut ∈ uw := uw_in (i := 665) (by decide +kernel) (by decide +kernel)
theorem wn_X2_mostToCut : Cond.instanceMethod yX2_mostToCut ∈ uw := uw_in (i := 669) (by decide +kernel) (by decide +kernel)
theorem wn_X7_init : Cond.instanceMethod yX7_init ∈ uw := uw_in (i := 675) (by decide +kernel) (by decide +kernel)
theorem wn_X7_come : Cond.instanceMethod yX7_come ∈ uw := uw_in (i := 716) (by decide +kernel) (by decide +kernel)
theorem wn_X7_acts : Cond.instanceMethod yX7_acts ∈ uw := uw_in (i := 724) (by decide +kernel) (by decide +kernel)
theorem wn_X7_setSpades : Cond.instanceMethod yX7_setSpades ∈ uw := uw_in (i := 727) (by decide +kernel) (by decide +kernel)
theorem wn_X7_isHouse : Cond.instanceMethod yX7_isHouse ∈ uw := uw_in (i := 732) (by decide +kernel) (by decide +kernel)
theorem wn_X7_inHouse : Cond.instanceMethod yX7_inHouse ∈ uw := uw_in (i := 736) (by decide +kernel) (by decide +kernel)
theorem wn_X7_addBank : Cond.instanceMethod yX7_addBank ∈ uw := uw_in (i := 739) (by decide +kernel) (by decide +kernel)
theorem wn_X7_setAllowance : Cond.instanceMethod yX7_setAllowance ∈ uw := uw_in (i := 743) (by decide +kernel) (by decide +kernel)
theorem wn_X7_isBank : Cond.instanceMethod yX7_isBank ∈ uw := uw_in (i := 748) (by decide +kernel) (by decide +kernel)
theorem wn_X7_inBank : Cond.instanceMethod yX7_inBank ∈ uw := uw_in (i := 752) (by decide +kernel) (by decide +kernel)
theorem wn_X7_grant : Cond.instanceMethod yX7_grant ∈ uw := uw_in (i := 755) (by decide +kernel) (by decide +kernel)
theorem wn_X7_cut : Cond.instanceMethod yX7_cut ∈ uw := uw_in (i := 762) (by decide +kernel) (by decide +kernel)
theorem wn_X7_mayCut : Cond.instanceMethod yX7_mayCut ∈ uw := uw_in (i := 767) (by decide +kernel) (by decide +kernel)
theorem wn_X7_shareOf : Cond.instanceMethod yX7_shareOf ∈ uw := uw_in (i := 771) (by decide +kernel) (by decide +kernel)
theorem wn_X7_spadesOf : Cond.instanceMethod yX7_spadesOf ∈ uw := uw_in (i := 775) (by decide +kernel) (by decide +kernel)
theorem wn_X7_hasRight : Cond.instanceMethod yX7_hasRight ∈ uw := uw_in (i := 779) (by decide +kernel) (by decide +kernel)
theorem wn_X7_turn : Cond.instanceMethod yX7_turn ∈ uw := uw_in (i := 783) (by decide +kernel) (by decide +kernel)
theorem wn_X7_isStack : Cond.instanceMethod yX7_isStack ∈ uw := uw_in (i := 788) (by decide +kernel) (by decide +kernel)
theorem wn_X7_inStack : Cond.instanceMethod yX7_inStack ∈ uw := uw_in (i := 792) (by decide +kernel) (by decide +kernel)
theorem wn_X7_join : Cond.instanceMethod yX7_join ∈ uw := uw_in (i := 795) (by decide +kernel) (by decide +kernel)
theorem wn_X7_goes : Cond.instanceMethod yX7_goes ∈ uw := uw_in (i := 800) (by decide +kernel) (by decide +kernel)
theorem wn_X7_cart : Cond.instanceMethod yX7_cart ∈ uw := uw_in (i := 803) (by decide +kernel) (by decide +kernel)
theorem wn_X7_load : Cond.instanceMethod yX7_load ∈ uw := uw_in (i := 808) (by decide +kernel) (by decide +kernel)
theorem wn_X7_weight : Cond.instanceMethod yX7_weight ∈ uw := uw_in (i := 812) (by decide +kernel) (by decide +kernel)
theorem wn_X7_bears : Cond.instanceMethod yX7_bears ∈ uw := uw_in (i := 816) (by decide +kernel) (by decide +kernel)
theorem wn_X7_isDry : Cond.instanceMethod yX7_isDry ∈ uw := uw_in (i := 820) (by decide +kernel) (by decide +kernel)
theorem wn_X7_repair : Cond.instanceMethod yX7_repair ∈ uw := uw_in (i := 823) (by decide +kernel) (by decide +kernel)
theorem wn_X7_day : Cond.instanceMethod yX7_day ∈ uw := uw_in (i := 827) (by decide +kernel) (by decide +kernel)
theorem wn_X7_dryStacks : Cond.instanceMethod yX7_dryStacks ∈ uw := uw_in (i := 835) (by decide +kernel) (by decide +kernel)
theorem wn_X7_endYear : Cond.instanceMethod yX7_endYear ∈ uw := uw_in (i := 838) (by decide +kernel) (by decide +kernel)
theorem wn_X7_take : Cond.instanceMethod yX7_take ∈ uw := uw_in (i := 842) (by decide +kernel) (by decide +kernel)
theorem wn_X7_restore : Cond.instanceMethod yX7_restore ∈ uw := uw_in (i := 846) (by decide +kernel) (by decide +kernel)
theorem wn_X7_undo : Cond.instanceMethod yX7_undo ∈ uw := uw_in (i := 850) (by decide +kernel) (by decide +kernel)
theorem wn_X7_append : Cond.instanceMethod yX7_append ∈ uw := uw_in (i := 854) (by decide +kernel) (by decide +kernel)
theorem wn_X7_clearText : Cond.instanceMethod yX7_clearText ∈ uw := uw_in (i := 858) (by decide +kernel) (by decide +kernel)
theorem wn_X7_run : Cond.instanceMethod yX7_run ∈ uw := uw_in (i := 862) (by decide +kernel) (by decide +kernel)
theorem wn_X7_readsAll : Cond.instanceMethod yX7_readsAll ∈ uw := uw_in (i := 867) (by decide +kernel) (by decide +kernel)
theorem wn_X7_token : Cond.instanceMethod yX7_token ∈ uw := uw_in (i := 871) (by decide +kernel) (by decide +kernel)
theorem wn_X7_readsOne : Cond.instanceMethod yX7_readsOne ∈ uw := uw_in (i := 878) (by decide +kernel) (by decide +kernel)
theorem wn_X7_command : Cond.instanceMethod yX7_command ∈ uw := uw_in (i := 882) (by decide +kernel) (by decide +kernel)
theorem wn_X7_isWord : Cond.instanceMethod yX7_isWord ∈ uw := uw_in (i := 886) (by decide +kernel) (by decide +kernel)
theorem wn_X7_isNumber : Cond.instanceMethod yX7_isNumber ∈ uw := uw_in (i := 890) (by decide +kernel) (by decide +kernel)
theorem wn_X7_does : Cond.instanceMethod yX7_does ∈ uw := uw_in (i := 894) (by decide +kernel) (by decide +kernel)
theorem wn_X7_count : Cond.instanceMethod yX7_count ∈ uw := uw_in (i := 904) (by decide +kernel) (by decide +kernel)
theorem wn_X7_household : Cond.instanceMethod yX7_household ∈ uw := uw_in (i := 908) (by decide +kernel) (by decide +kernel)
theorem wn_X7_banksOf : Cond.instanceMethod yX7_banksOf ∈ uw := uw_in (i := 913) (by decide +kernel) (by decide +kernel)
theorem wn_X7_stacksOf : Cond.instanceMethod yX7_stacksOf ∈ uw := uw_in (i := 917) (by decide +kernel) (by decide +kernel)
theorem wn_X7_bank : Cond.instanceMethod yX7_bank ∈ uw := uw_in (i := 920) (by decide +kernel) (by decide +kernel)
theorem wn_X7_turfsAt : Cond.instanceMethod yX7_turfsAt ∈ uw := uw_in (i := 925) (by decide +kernel) (by decide +kernel)
theorem wn_X7_right : Cond.instanceMethod yX7_right ∈ uw := uw_in (i := 928) (by decide +kernel) (by decide +kernel)
theorem wn_X7_stack : Cond.instanceMethod yX7_stack ∈ uw := uw_in (i := 932) (by decide +kernel) (by decide +kernel)
theorem wn_X7_dryIn : Cond.instanceMethod yX7_dryIn ∈ uw := uw_in (i := 936) (by decide +kernel) (by decide +kernel)
theorem wn_X7_cartLoad : Cond.instanceMethod yX7_cartLoad ∈ uw := uw_in (i := 940) (by decide +kernel) (by decide +kernel)
theorem wn_X7_most : Cond.instanceMethod yX7_most ∈ uw := uw_in (i := 945) (by decide +kernel) (by decide +kernel)
theorem wn_X7_carts : Cond.instanceMethod yX7_carts ∈ uw := uw_in (i := 948) (by decide +kernel) (by decide +kernel)
theorem wn_X7_worth : Cond.instanceMethod yX7_worth ∈ uw := uw_in (i := 952) (by decide +kernel) (by decide +kernel)
theorem wn_X7_nextToCut : Cond.instanceMethod yX7_nextToCut ∈ uw := uw_in (i := 958) (by decide +kernel) (by decide +kernel)
theorem wt_X6_isWithin : Cond.static yX6_isWithin ∈ uw := uw_in (i := 241) (by decide +kernel) (by decide +kernel)
theorem wt_min : Cond.static Lib.Math.min.name ∈ uw := uw_in (i := 337) (by decide +kernel) (by decide +kernel)
theorem wt_max : Cond.static Lib.Math.max.name ∈ uw := uw_in (i := 368) (by decide +kernel) (by decide +kernel)
theorem wt_X0_wearBy : Cond.static yX0_wearBy ∈ uw := uw_in (i := 375) (by decide +kernel) (by decide +kernel)
theorem wt_X3_kindOf : Cond.static yX3_kindOf ∈ uw := uw_in (i := 466) (by decide +kernel) (by decide +kernel)
theorem wt_J1_charAt_3b067 : Cond.static yJ1_charAt_3b067 ∈ uw := uw_in (i := 500) (by decide +kernel) (by decide +kernel)
theorem wt_J0_checkIndex_df160 : Cond.static yJ0_checkIndex_df160 ∈ uw := uw_in (i := 503) (by decide +kernel) (by decide +kernel)
theorem wt_J3_checkIndex_8e157 : Cond.static yJ3_checkIndex_8e157 ∈ uw := uw_in (i := 508) (by decide +kernel) (by decide +kernel)
theorem wt_J2_charAt_3b067 : Cond.static yJ2_charAt_3b067 ∈ uw := uw_in (i := 511) (by decide +kernel) (by decide +kernel)
theorem wt_J2_checkIndex_2214a : Cond.static yJ2_checkIndex_2214a ∈ uw := uw_in (i := 514) (by decide +kernel) (by decide +kernel)
theorem wt_J2_length_9d52b : Cond.static yJ2_length_9d52b ∈ uw := uw_in (i := 517) (by decide +kernel) (by decide +kernel)
theorem wt_J2_getChar_3b067 : Cond.static yJ2_getChar_3b067 ∈ uw := uw_in (i := 521) (by decide +kernel) (by decide +kernel)
theorem wt_X3_numbersOf : Cond.static yX3_numbersOf ∈ uw := uw_in (i := 536) (by decide +kernel) (by decide +kernel)
theorem wt_X7_in : Cond.static yX7_in ∈ uw := uw_in (i := 720) (by decide +kernel) (by decide +kernel)
theorem wt_X7_ones : Cond.static yX7_ones ∈ uw := uw_in (i := 759) (by decide +kernel) (by decide +kernel)
theorem wt_X7_dried : Cond.static yX7_dried ∈ uw := uw_in (i := 831) (by decide +kernel) (by decide +kernel)
theorem wt_X7_kindOf : Cond.static yX7_kindOf ∈ uw := uw_in (i := 874) (by decide +kernel) (by decide +kernel)
theorem ws_X6_come : Cond.selects yX6_come.cls yX6_come yX6_come ∈ uw := uw_in (i := 214) (by decide +kernel) (by decide +kernel)
theorem ws_X4_copyFrom : Cond.selects yX4_copyFrom.cls yX4_copyFrom yX4_copyFrom ∈ uw := uw_in (i := 218) (by decide +kernel) (by decide +kernel)
theorem ws_X2_copyFrom : Cond.selects yX2_copyFrom.cls yX2_copyFrom yX2_copyFrom ∈ uw := uw_in (i := 222) (by decide +kernel) (by decide +kernel)
theorem ws_X1_copyFrom : Cond.selects yX1_copyFrom.cls yX1_copyFrom yX1_copyFrom ∈ uw := uw_in (i := 226) (by decide +kernel) (by decide +kernel)
theorem ws_X0_copyFrom : Cond.selects yX0_copyFrom.cls yX0_copyFrom yX0_copyFrom ∈ uw := uw_in (i := 230) (by decide +kernel) (by decide +kernel)
theorem ws_X5_copyFrom : Cond.selects yX5_copyFrom.cls yX5_copyFrom yX5_copyFrom ∈ uw := uw_in (i := 234) (by decide +kernel) (by decide +kernel)
theorem ws_X2_addHousehold : Cond.selects yX2_addHousehold.cls yX2_addHousehold yX2_addHousehold ∈ uw := uw_in (i := 238) (by decide +kernel) (by decide +kernel)
theorem ws_X6_setSpades : Cond.selects yX6_setSpades.cls yX6_setSpades yX6_setSpades ∈ uw := uw_in (i := 253) (by decide +kernel) (by decide +kernel)
theorem ws_X2_changeSpades : Cond.selects yX2_changeSpades.cls yX2_changeSpades yX2_changeSpades ∈ uw := uw_in (i := 257) (by decide +kernel) (by decide +kernel)
theorem ws_X2_hasHousehold : Cond.selects yX2_hasHousehold.cls yX2_hasHousehold yX2_hasHousehold ∈ uw := uw_in (i := 261) (by decide +kernel) (by decide +kernel)
theorem ws_X6_addBank : Cond.selects yX6_addBank.cls yX6_addBank yX6_addBank ∈ uw := uw_in (i := 265) (by decide +kernel) (by decide +kernel)
theorem ws_X2_openBank : Cond.selects yX2_openBank.cls yX2_openBank yX2_openBank ∈ uw := uw_in (i := 269) (by decide +kernel) (by decide +kernel)
theorem ws_X6_setAllowance : Cond.selects yX6_setAllowance.cls yX6_setAllowance yX6_setAllowance ∈ uw := uw_in (i := 273) (by decide +kernel) (by decide +kernel)
theorem ws_X2_changeAllowance : Cond.selects yX2_changeAllowance.cls yX2_changeAllowance yX2_changeAllowance ∈ uw := uw_in (i := 277) (by decide +kernel) (by decide +kernel)
theorem ws_X2_hasBank : Cond.selects yX2_hasBank.cls yX2_hasBank yX2_hasBank ∈ uw := uw_in (i := 281) (by decide +kernel) (by decide +kernel)
theorem ws_X6_grant : Cond.selects yX6_grant.cls yX6_grant yX6_grant ∈ uw := uw_in (i := 285) (by decide +kernel) (by decide +kernel)
theorem ws_X2_changeRight : Cond.selects yX2_changeRight.cls yX2_changeRight yX2_changeRight ∈ uw := uw_in (i := 289) (by decide +kernel) (by decide +kernel)
theorem ws_X0_holders : Cond.selects yX0_holders.cls yX0_holders yX0_holders ∈ uw := uw_in (i := 293) (by decide +kernel) (by decide +kernel)
theorem ws_X6_cut : Cond.selects yX6_cut.cls yX6_cut yX6_cut ∈ uw := uw_in (i := 297) (by decide +kernel) (by decide +kernel)
theorem ws_X2_cutTurfs : Cond.selects yX2_cutTurfs.cls yX2_cutTurfs yX2_cutTurfs ∈ uw := uw_in (i := 301) (by decide +kernel) (by decide +kernel)
theorem ws_X2_shareOf : Cond.selects yX2_shareOf.cls yX2_shareOf yX2_shareOf ∈ uw := uw_in (i := 305) (by decide +kernel) (by decide +kernel)
theorem ws_X2_spadesAt : Cond.selects yX2_spadesAt.cls yX2_spadesAt yX2_spadesAt ∈ uw := uw_in (i := 309) (by decide +kernel) (by decide +kernel)
theorem ws_X6_turn : Cond.selects yX6_turn.cls yX6_turn yX6_turn ∈ uw := uw_in (i := 314) (by decide +kernel) (by decide +kernel)
theorem ws_X2_turnStack : Cond.selects yX2_turnStack.cls yX2_turnStack yX2_turnStack ∈ uw := uw_in (i := 318) (by decide +kernel) (by decide +kernel)
theorem ws_X2_hasStack : Cond.selects yX2_hasStack.cls yX2_hasStack yX2_hasStack ∈ uw := uw_in (i := 322) (by decide +kernel) (by decide +kernel)
theorem ws_X6_join : Cond.selects yX6_join.cls yX6_join yX6_join ∈ uw := uw_in (i := 326) (by decide +kernel) (by decide +kernel)
theorem ws_X2_joinStacks : Cond.selects yX2_joinStacks.cls yX2_joinStacks yX2_joinStacks ∈ uw := uw_in (i := 330) (by decide +kernel) (by decide +kernel)
theorem ws_X5_takeAllOf : Cond.selects yX5_takeAllOf.cls yX5_takeAllOf yX5_takeAllOf ∈ uw := uw_in (i := 334) (by decide +kernel) (by decide +kernel)
theorem ws_X2_removeStack : Cond.selects yX2_removeStack.cls yX2_removeStack yX2_removeStack ∈ uw := uw_in (i := 341) (by decide +kernel) (by decide +kernel)
theorem ws_X6_cart : Cond.selects yX6_cart.cls yX6_cart yX6_cart ∈ uw := uw_in (i := 345) (by decide +kernel) (by decide +kernel)
theorem ws_X2_cartTurfs : Cond.selects yX2_cartTurfs.cls yX2_cartTurfs yX2_cartTurfs ∈ uw := uw_in (i := 349) (by decide +kernel) (by decide +kernel)
theorem ws_X5_loadOf : Cond.selects yX5_loadOf.cls yX5_loadOf yX5_loadOf ∈ uw := uw_in (i := 353) (by decide +kernel) (by decide +kernel)
theorem ws_X5_turfWeight : Cond.selects yX5_turfWeight.cls yX5_turfWeight yX5_turfWeight ∈ uw := uw_in (i := 357) (by decide +kernel) (by decide +kernel)
theorem ws_X2_bearingToday : Cond.selects yX2_bearingToday.cls yX2_bearingToday yX2_bearingToday ∈ uw := uw_in (i := 361) (by decide +kernel) (by decide +kernel)
theorem ws_X0_bearing : Cond.selects yX0_bearing.cls yX0_bearing yX0_bearing ∈ uw := uw_in (i := 365) (by decide +kernel) (by decide +kernel)
theorem ws_X5_isDry : Cond.selects yX5_isDry.cls yX5_isDry yX5_isDry ∈ uw := uw_in (i := 372) (by decide +kernel) (by decide +kernel)
theorem ws_X6_repair : Cond.selects yX6_repair.cls yX6_repair yX6_repair ∈ uw := uw_in (i := 379) (by decide +kernel) (by decide +kernel)
theorem ws_X2_repairRoad : Cond.selects yX2_repairRoad.cls yX2_repairRoad yX2_repairRoad ∈ uw := uw_in (i := 383) (by decide +kernel) (by decide +kernel)
theorem ws_X6_day : Cond.selects yX6_day.cls yX6_day yX6_day ∈ uw := uw_in (i := 387) (by decide +kernel) (by decide +kernel)
theorem ws_X2_passDay : Cond.selects yX2_passDay.cls yX2_passDay yX2_passDay ∈ uw := uw_in (i := 391) (by decide +kernel) (by decide +kernel)
theorem ws_X5_wetnessAfterDay : Cond.selects yX5_wetnessAfterDay.cls yX5_wetnessAfterDay yX5_wetnessAfterDay ∈ uw := uw_in (i := 395) (by decide +kernel) (by decide +kernel)
theorem ws_X2_dryStacks : Cond.selects yX2_dryStacks.cls yX2_dryStacks yX2_dryStacks ∈ uw := uw_in (i := 401) (by decide +kernel) (by decide +kernel)
theorem ws_X6_endYear : Cond.selects yX6_endYear.cls yX6_endYear yX6_endYear ∈ uw := uw_in (i := 405) (by decide +kernel) (by decide +kernel)
theorem ws_X2_closeYear : Cond.selects yX2_closeYear.cls yX2_closeYear yX2_closeYear ∈ uw := uw_in (i := 409) (by decide +kernel) (by decide +kernel)
theorem ws_X0_forgetYear : Cond.selects yX0_forgetYear.cls yX0_forgetYear yX0_forgetYear ∈ uw := uw_in (i := 413) (by decide +kernel) (by decide +kernel)
theorem ws_X6_take : Cond.selects yX6_take.cls yX6_take yX6_take ∈ uw := uw_in (i := 417) (by decide +kernel) (by decide +kernel)
theorem ws_X4_takeSnapshot : Cond.selects yX4_takeSnapshot.cls yX4_takeSnapshot yX4_takeSnapshot ∈ uw := uw_in (i := 421) (by decide +kernel) (by decide +kernel)
theorem ws_X6_restore : Cond.selects yX6_restore.cls yX6_restore yX6_restore ∈ uw := uw_in (i := 426) (by decide +kernel) (by decide +kernel)
theorem ws_X4_restoreSnapshot : Cond.selects yX4_restoreSnapshot.cls yX4_restoreSnapshot yX4_restoreSnapshot ∈ uw := uw_in (i := 430) (by decide +kernel) (by decide +kernel)
theorem ws_X6_undo : Cond.selects yX6_undo.cls yX6_undo yX6_undo ∈ uw := uw_in (i := 434) (by decide +kernel) (by decide +kernel)
theorem ws_X6_append : Cond.selects yX6_append.cls yX6_append yX6_append ∈ uw := uw_in (i := 438) (by decide +kernel) (by decide +kernel)
theorem ws_X3_addCharacter : Cond.selects yX3_addCharacter.cls yX3_addCharacter yX3_addCharacter ∈ uw := uw_in (i := 442) (by decide +kernel) (by decide +kernel)
theorem ws_X6_clearText : Cond.selects yX6_clearText.cls yX6_clearText yX6_clearText ∈ uw := uw_in (i := 447) (by decide +kernel) (by decide +kernel)
theorem ws_X3_clearCharacters : Cond.selects yX3_clearCharacters.cls yX3_clearCharacters yX3_clearCharacters ∈ uw := uw_in (i := 451) (by decide +kernel) (by decide +kernel)
theorem ws_X6_run : Cond.selects yX6_run.cls yX6_run yX6_run ∈ uw := uw_in (i := 455) (by decide +kernel) (by decide +kernel)
theorem ws_X3_runOn : Cond.selects yX3_runOn.cls yX3_runOn yX3_runOn ∈ uw := uw_in (i := 459) (by decide +kernel) (by decide +kernel)
theorem ws_X3_readToken : Cond.selects yX3_readToken.cls yX3_readToken yX3_readToken ∈ uw := uw_in (i := 463) (by decide +kernel) (by decide +kernel)
theorem ws_X3_runCommand : Cond.selects yX3_runCommand.cls yX3_runCommand yX3_runCommand ∈ uw := uw_in (i := 470) (by decide +kernel) (by decide +kernel)
theorem ws_X3_commandOfToken : Cond.selects yX3_commandOfToken.cls yX3_commandOfToken yX3_commandOfToken ∈ uw := uw_in (i := 474) (by decide +kernel) (by decide +kernel)
theorem ws_X3_isToken : Cond.selects yX3_isToken.cls yX3_isToken yX3_isToken ∈ uw := uw_in (i := 479) (by decide +kernel) (by decide +kernel)
theorem ws_J0_length_8abf5 : Cond.selects yJ0_length_8abf5.cls yJ0_length_8abf5 yJ0_length_8abf5 ∈ uw := uw_in (i := 483) (by decide +kernel) (by decide +kernel)
theorem ws_J0_coder_7d493 : Cond.selects yJ0_coder_7d493.cls yJ0_coder_7d493 yJ0_coder_7d493 ∈ uw := uw_in (i := 487) (by decide +kernel) (by decide +kernel)
theorem ws_J0_charAt_5068e : Cond.selects yJ0_charAt_5068e.cls yJ0_charAt_5068e yJ0_charAt_5068e ∈ uw := uw_in (i := 493) (by decide +kernel) (by decide +kernel)
theorem ws_J0_isLatin1_aae02 : Cond.selects yJ0_isLatin1_aae02.cls yJ0_isLatin1_aae02 yJ0_isLatin1_aae02 ∈ uw := uw_in (i := 497) (by decide +kernel) (by decide +kernel)
theorem ws_X3_isNumber : Cond.selects yX3_isNumber.cls yX3_isNumber yX3_isNumber ∈ uw := uw_in (i := 540) (by decide +kernel) (by decide +kernel)
theorem ws_X3_valueOfToken : Cond.selects yX3_valueOfToken.cls yX3_valueOfToken yX3_valueOfToken ∈ uw := uw_in (i := 544) (by decide +kernel) (by decide +kernel)
theorem ws_X3_perform : Cond.selects yX3_perform.cls yX3_perform yX3_perform ∈ uw := uw_in (i := 549) (by decide +kernel) (by decide +kernel)
theorem ws_X6_count : Cond.selects yX6_count.cls yX6_count yX6_count ∈ uw := uw_in (i := 561) (by decide +kernel) (by decide +kernel)
theorem ws_X4_snapshots : Cond.selects yX4_snapshots.cls yX4_snapshots yX4_snapshots ∈ uw := uw_in (i := 566) (by decide +kernel) (by decide +kernel)
theorem ws_X6_household : Cond.selects yX6_household.cls yX6_household yX6_household ∈ uw := uw_in (i := 570) (by decide +kernel) (by decide +kernel)
theorem ws_X2_householdProperty : Cond.selects yX2_householdProperty.cls yX2_householdProperty yX2_householdProperty ∈ uw := uw_in (i := 574) (by decide +kernel) (by decide +kernel)
theorem ws_X2_rightsOf : Cond.selects yX2_rightsOf.cls yX2_rightsOf yX2_rightsOf ∈ uw := uw_in (i := 578) (by decide +kernel) (by decide +kernel)
theorem ws_X2_stacksOf : Cond.selects yX2_stacksOf.cls yX2_stacksOf yX2_stacksOf ∈ uw := uw_in (i := 582) (by decide +kernel) (by decide +kernel)
theorem ws_X2_turfsInStacksOf : Cond.selects yX2_turfsInStacksOf.cls yX2_turfsInStacksOf yX2_turfsInStacksOf ∈ uw := uw_in (i := 586) (by decide +kernel) (by decide +kernel)
theorem ws_X6_bank : Cond.selects yX6_bank.cls yX6_bank yX6_bank ∈ uw := uw_in (i := 590) (by decide +kernel) (by decide +kernel)
theorem ws_X2_bankProperty : Cond.selects yX2_bankProperty.cls yX2_bankProperty yX2_bankProperty ∈ uw := uw_in (i := 594) (by decide +kernel) (by decide +kernel)
theorem ws_X0_holdersAsBits : Cond.selects yX0_holdersAsBits.cls yX0_holdersAsBits yX0_holdersAsBits ∈ uw := uw_in (i := 598) (by decide +kernel) (by decide +kernel)
theorem ws_X2_turfsInStacksAt : Cond.selects yX2_turfsInStacksAt.cls yX2_turfsInStacksAt yX2_turfsInStacksAt ∈ uw := uw_in (i := 602) (by decide +kernel) (by decide +kernel)
theorem ws_X6_right : Cond.selects yX6_right.cls yX6_right yX6_right ∈ uw := uw_in (i := 606) (by decide +kernel) (by decide +kernel)
theorem ws_X2_rightPart : Cond.selects yX2_rightPart.cls yX2_rightPart yX2_rightPart ∈ uw := uw_in (i := 610) (by decide +kernel) (by decide +kernel)
theorem ws_X2_stillToCut : Cond.selects yX2_stillToCut.cls yX2_stillToCut yX2_stillToCut ∈ uw := uw_in (i := 614) (by decide +kernel) (by decide +kernel)
theorem ws_X6_stack : Cond.selects yX6_stack.cls yX6_stack yX6_stack ∈ uw := uw_in (i := 619) (by decide +kernel) (by decide +kernel)
theorem ws_X2_stackProperty : Cond.selects yX2_stackProperty.cls yX2_stackProperty yX2_stackProperty ∈ uw := uw_in (i := 623) (by decide +kernel) (by decide +kernel)
theorem ws_X6_dryIn : Cond.selects yX6_dryIn.cls yX6_dryIn yX6_dryIn ∈ uw := uw_in (i := 628) (by decide +kernel) (by decide +kernel)
theorem ws_X2_daysUntilDry : Cond.selects yX2_daysUntilDry.cls yX2_daysUntilDry yX2_daysUntilDry ∈ uw := uw_in (i := 632) (by decide +kernel) (by decide +kernel)
theorem ws_X6_cartLoad : Cond.selects yX6_cartLoad.cls yX6_cartLoad yX6_cartLoad ∈ uw := uw_in (i := 636) (by decide +kernel) (by decide +kernel)
theorem ws_X2_greatestCartOf : Cond.selects yX2_greatestCartOf.cls yX2_greatestCartOf yX2_greatestCartOf ∈ uw := uw_in (i := 640) (by decide +kernel) (by decide +kernel)
theorem ws_X5_greatestCart : Cond.selects yX5_greatestCart.cls yX5_greatestCart yX5_greatestCart ∈ uw := uw_in (i := 644) (by decide +kernel) (by decide +kernel)
theorem ws_X6_carts : Cond.selects yX6_carts.cls yX6_carts yX6_carts ∈ uw := uw_in (i := 648) (by decide +kernel) (by decide +kernel)
theorem ws_X2_cartsNeeded : Cond.selects yX2_cartsNeeded.cls yX2_cartsNeeded yX2_cartsNeeded ∈ uw := uw_in (i := 652) (by decide +kernel) (by decide +kernel)
theorem ws_X6_worth : Cond.selects yX6_worth.cls yX6_worth yX6_worth ∈ uw := uw_in (i := 656) (by decide +kernel) (by decide +kernel)
theorem ws_X2_worthOfShed : Cond.selects yX2_worthOfShed.cls yX2_worthOfShed yX2_worthOfShed ∈ uw := uw_in (i := 660) (by decide +kernel) (by decide +kernel)
theorem ws_X6_nextToCut : Cond.selects yX6_nextToCut.cls yX6_nextToCut yX6_nextToCut ∈ uw := uw_in (i := 666) (by decide +kernel) (by decide +kernel)
theorem ws_X2_mostToCut : Cond.selects yX2_mostToCut.cls yX2_mostToCut yX2_mostToCut ∈ uw := uw_in (i := 670) (by decide +kernel) (by decide +kernel)
theorem ws_X7_come : Cond.selects yX7_come.cls yX7_come yX7_come ∈ uw := uw_in (i := 717) (by decide +kernel) (by decide +kernel)
theorem ws_X7_setSpades : Cond.selects yX7_setSpades.cls yX7_setSpades yX7_setSpades ∈ uw := uw_in (i := 728) (by decide +kernel) (by decide +kernel)
theorem ws_X7_addBank : Cond.selects yX7_addBank.cls yX7_addBank yX7_addBank ∈ uw := uw_in (i := 740) (by decide +kernel) (by decide +kernel)
theorem ws_X7_setAllowance : Cond.selects yX7_setAllowance.cls yX7_setAllowance yX7_setAllowance ∈ uw := uw_in (i := 744) (by decide +kernel) (by decide +kernel)
theorem ws_X7_grant : Cond.selects yX7_grant.cls yX7_grant yX7_grant ∈ uw := uw_in (i := 756) (by decide +kernel) (by decide +kernel)
theorem ws_X7_cut : Cond.selects yX7_cut.cls yX7_cut yX7_cut ∈ uw := uw_in (i := 763) (by decide +kernel) (by decide +kernel)
theorem ws_X7_turn : Cond.selects yX7_turn.cls yX7_turn yX7_turn ∈ uw := uw_in (i := 784) (by decide +kernel) (by decide +kernel)
theorem ws_X7_join : Cond.selects yX7_join.cls yX7_join yX7_join ∈ uw := uw_in (i := 796) (by decide +kernel) (by decide +kernel)
theorem ws_X7_cart : Cond.selects yX7_cart.cls yX7_cart yX7_cart ∈ uw := uw_in (i := 804) (by decide +kernel) (by decide +kernel)
theorem ws_X7_repair : Cond.selects yX7_repair.cls yX7_repair yX7_repair ∈ uw := uw_in (i := 824) (by decide +kernel) (by decide +kernel)
theorem ws_X7_day : Cond.selects yX7_day.cls yX7_day yX7_day ∈ uw := uw_in (i := 828) (by decide +kernel) (by decide +kernel)
theorem ws_X7_endYear : Cond.selects yX7_endYear.cls yX7_endYear yX7_endYear ∈ uw := uw_in (i := 839) (by decide +kernel) (by decide +kernel)
theorem ws_X7_take : Cond.selects yX7_take.cls yX7_take yX7_take ∈ uw := uw_in (i := 843) (by decide +kernel) (by decide +kernel)
theorem ws_X7_restore : Cond.selects yX7_restore.cls yX7_restore yX7_restore ∈ uw := uw_in (i := 847) (by decide +kernel) (by decide +kernel)
theorem ws_X7_undo : Cond.selects yX7_undo.cls yX7_undo yX7_undo ∈ uw := uw_in (i := 851) (by decide +kernel) (by decide +kernel)
theorem ws_X7_append : Cond.selects yX7_append.cls yX7_append yX7_append ∈ uw := uw_in (i := 855) (by decide +kernel) (by decide +kernel)
theorem ws_X7_clearText : Cond.selects yX7_clearText.cls yX7_clearText yX7_clearText ∈ uw := uw_in (i := 859) (by decide +kernel) (by decide +kernel)
theorem ws_X7_run : Cond.selects yX7_run.cls yX7_run yX7_run ∈ uw := uw_in (i := 863) (by decide +kernel) (by decide +kernel)
theorem ws_X7_count : Cond.selects yX7_count.cls yX7_count yX7_count ∈ uw := uw_in (i := 905) (by decide +kernel) (by decide +kernel)
theorem ws_X7_household : Cond.selects yX7_household.cls yX7_household yX7_household ∈ uw := uw_in (i := 909) (by decide +kernel) (by decide +kernel)
theorem ws_X7_bank : Cond.selects yX7_bank.cls yX7_bank yX7_bank ∈ uw := uw_in (i := 921) (by decide +kernel) (by decide +kernel)
theorem ws_X7_right : Cond.selects yX7_right.cls yX7_right yX7_right ∈ uw := uw_in (i := 929) (by decide +kernel) (by decide +kernel)
theorem ws_X7_stack : Cond.selects yX7_stack.cls yX7_stack yX7_stack ∈ uw := uw_in (i := 933) (by decide +kernel) (by decide +kernel)
theorem ws_X7_dryIn : Cond.selects yX7_dryIn.cls yX7_dryIn yX7_dryIn ∈ uw := uw_in (i := 937) (by decide +kernel) (by decide +kernel)
theorem ws_X7_cartLoad : Cond.selects yX7_cartLoad.cls yX7_cartLoad yX7_cartLoad ∈ uw := uw_in (i := 941) (by decide +kernel) (by decide +kernel)
theorem ws_X7_carts : Cond.selects yX7_carts.cls yX7_carts yX7_carts ∈ uw := uw_in (i := 949) (by decide +kernel) (by decide +kernel)
theorem ws_X7_worth : Cond.selects yX7_worth.cls yX7_worth yX7_worth ∈ uw := uw_in (i := 953) (by decide +kernel) (by decide +kernel)
theorem ws_X7_nextToCut : Cond.selects yX7_nextToCut.cls yX7_nextToCut yX7_nextToCut ∈ uw := uw_in (i := 959) (by decide +kernel) (by decide +kernel)
theorem ws_X6_recorded : Cond.selects yX6_recorded.cls yX6_recorded yX6_recorded ∈ uw := uw_sel (i := 0) (by decide +kernel) (by decide +kernel)
theorem ws_X6_dropOldestState : Cond.selects yX6_dropOldestState.cls yX6_dropOldestState yX6_dropOldestState ∈ uw := uw_sel (i := 1) (by decide +kernel) (by decide +kernel)
theorem ws_X7_acts : Cond.selects yX7_acts.cls yX7_acts yX7_acts ∈ uw := uw_sel (i := 2) (by decide +kernel) (by decide +kernel)
theorem ws_X7_isHouse : Cond.selects yX7_isHouse.cls yX7_isHouse yX7_isHouse ∈ uw := uw_sel (i := 3) (by decide +kernel) (by decide +kernel)
theorem ws_X7_inHouse : Cond.selects yX7_inHouse.cls yX7_inHouse yX7_inHouse ∈ uw := uw_sel (i := 4) (by decide +kernel) (by decide +kernel)
theorem ws_X7_isBank : Cond.selects yX7_isBank.cls yX7_isBank yX7_isBank ∈ uw := uw_sel (i := 5) (by decide +kernel) (by decide +kernel)
theorem ws_X7_inBank : Cond.selects yX7_inBank.cls yX7_inBank yX7_inBank ∈ uw := uw_sel (i := 6) (by decide +kernel) (by decide +kernel)
theorem ws_X7_mayCut : Cond.selects yX7_mayCut.cls yX7_mayCut yX7_mayCut ∈ uw := uw_sel (i := 7) (by decide +kernel) (by decide +kernel)
theorem ws_X7_shareOf : Cond.selects yX7_shareOf.cls yX7_shareOf yX7_shareOf ∈ uw := uw_sel (i := 8) (by decide +kernel) (by decide +kernel)
theorem ws_X7_spadesOf : Cond.selects yX7_spadesOf.cls yX7_spadesOf yX7_spadesOf ∈ uw := uw_sel (i := 9) (by decide +kernel) (by decide +kernel)
theorem ws_X7_hasRight : Cond.selects yX7_hasRight.cls yX7_hasRight yX7_hasRight ∈ uw := uw_sel (i := 10) (by decide +kernel) (by decide +kernel)
theorem ws_X7_isStack : Cond.selects yX7_isStack.cls yX7_isStack yX7_isStack ∈ uw := uw_sel (i := 11) (by decide +kernel) (by decide +kernel)
theorem ws_X7_inStack : Cond.selects yX7_inStack.cls yX7_inStack yX7_inStack ∈ uw := uw_sel (i := 12) (by decide +kernel) (by decide +kernel)
theorem ws_X7_goes : Cond.selects yX7_goes.cls yX7_goes yX7_goes ∈ uw := uw_sel (i := 13) (by decide +kernel) (by decide +kernel)
theorem ws_X7_load : Cond.selects yX7_load.cls yX7_load yX7_load ∈ uw := uw_sel (i := 14) (by decide +kernel) (by decide +kernel)
theorem ws_X7_weight : Cond.selects yX7_weight.cls yX7_weight yX7_weight ∈ uw := uw_sel (i := 15) (by decide +kernel) (by decide +kernel)
theorem ws_X7_bears : Cond.selects yX7_bears.cls yX7_bears yX7_bears ∈ uw := uw_sel (i := 16) (by decide +kernel) (by decide +kernel)
theorem ws_X7_isDry : Cond.selects yX7_isDry.cls yX7_isDry yX7_isDry ∈ uw := uw_sel (i := 17) (by decide +kernel) (by decide +kernel)
theorem ws_X7_dryStacks : Cond.selects yX7_dryStacks.cls yX7_dryStacks yX7_dryStacks ∈ uw := uw_sel (i := 18) (by decide +kernel) (by decide +kernel)
theorem ws_X7_readsAll : Cond.selects yX7_readsAll.cls yX7_readsAll yX7_readsAll ∈ uw := uw_sel (i := 19) (by decide +kernel) (by decide +kernel)
theorem ws_X7_token : Cond.selects yX7_token.cls yX7_token yX7_token ∈ uw := uw_sel (i := 20) (by decide +kernel) (by decide +kernel)
theorem ws_X7_readsOne : Cond.selects yX7_readsOne.cls yX7_readsOne yX7_readsOne ∈ uw := uw_sel (i := 21) (by decide +kernel) (by decide +kernel)
theorem ws_X7_command : Cond.selects yX7_command.cls yX7_command yX7_command ∈ uw := uw_sel (i := 22) (by decide +kernel) (by decide +kernel)
theorem ws_X7_isWord : Cond.selects yX7_isWord.cls yX7_isWord yX7_isWord ∈ uw := uw_sel (i := 23) (by decide +kernel) (by decide +kernel)
theorem ws_X7_isNumber : Cond.selects yX7_isNumber.cls yX7_isNumber yX7_isNumber ∈ uw := uw_sel (i := 24) (by decide +kernel) (by decide +kernel)
theorem ws_X7_does : Cond.selects yX7_does.cls yX7_does yX7_does ∈ uw := uw_sel (i := 25) (by decide +kernel) (by decide +kernel)
theorem ws_X7_banksOf : Cond.selects yX7_banksOf.cls yX7_banksOf yX7_banksOf ∈ uw := uw_sel (i := 26) (by decide +kernel) (by decide +kernel)
theorem ws_X7_stacksOf : Cond.selects yX7_stacksOf.cls yX7_stacksOf yX7_stacksOf ∈ uw := uw_sel (i := 27) (by decide +kernel) (by decide +kernel)
theorem ws_X7_turfsAt : Cond.selects yX7_turfsAt.cls yX7_turfsAt yX7_turfsAt ∈ uw := uw_sel (i := 28) (by decide +kernel) (by decide +kernel)
theorem ws_X7_most : Cond.selects yX7_most.cls yX7_most yX7_most ∈ uw := uw_sel (i := 29) (by decide +kernel) (by decide +kernel)
theorem wv_L_9 : pWI RL 9 yX6_init cX6_init 2 0 := ⟨⟨uw_in (i := 16) (by decide +kernel) (by decide +kernel), wi_X6, wc_X6_init, by decide +kernel⟩, rfl, wn_X6_init⟩
theorem wm_X6_1 : Cond.methodLink RX6 1 objectInit ∈ uw := uw_in (i := 19) (by decide +kernel) (by decide +kernel)
theorem wv_X6_9 : pWI RX6 9 yX4_init cX4_init 2 0 := ⟨⟨uw_in (i := 24) (by decide +kernel) (by decide +kernel), wi_X4, wc_X4_init, by decide +kernel⟩, rfl, wn_X4_init⟩
theorem wm_X4_3 : Cond.methodLink RX4 3 objectInit ∈ uw := uw_in (i := 27) (by decide +kernel) (by decide +kernel)
theorem wv_X4_11 : pWI RX4 11 yX2_init cX2_init 2 0 := ⟨⟨uw_in (i := 30) (by decide +kernel) (by decide +kernel), wi_X2, wc_X2_init, by decide +kernel⟩, rfl, wn_X2_init⟩
theorem wm_X2_3 : Cond.methodLink RX2 3 objectInit ∈ uw := uw_in (i := 33) (by decide +kernel) (by decide +kernel)
theorem wm_X1_1 : Cond.methodLink RX1 1 objectInit ∈ uw := uw_in (i := 44) (by decide +kernel) (by decide +kernel)
theorem wm_X0_3 : Cond.methodLink RX0 3 objectInit ∈ uw := uw_in (i := 62) (by decide +kernel) (by decide +kernel)
theorem wm_X5_3 : Cond.methodLink RX5 3 objectInit ∈ uw := uw_in (i := 102) (by decide +kernel) (by decide +kernel)
theorem wm_X3_3 : Cond.methodLink RX3 3 objectInit ∈ uw := uw_in (i := 177) (by decide +kernel) (by decide +kernel)
theorem wv_L_13 : pWV RL 13 yX6_come cX6_come 2 (some .int) 1 := ⟨⟨uw_in (i := 212) (by decide +kernel) (by decide +kernel), wi_X6, wc_X6_come, by decide +kernel⟩, wn_X6_come, ws_X6_come⟩
theorem wv_X6_34 : pWV RX6 34 yX4_copyFrom cX4_copyFrom 3 none 1 := ⟨⟨uw_in (i := 216) (by decide +kernel) (by decide +kernel), wi_X4, wc_X4_copyFrom, by decide +kernel⟩, wn_X4_copyFrom, ws_X4_copyFrom⟩
theorem wv_X4_26 : pWV RX4 26 yX2_copyFrom cX2_copyFrom 3 none 1 := ⟨⟨uw_in (i := 220) (by decide +kernel) (by decide +kernel), wi_X2, wc_X2_copyFrom, by decide +kernel⟩, wn_X2_copyFrom, ws_X2_copyFrom⟩
theorem wv_X2_51 : pWV RX2 51 yX1_copyFrom cX1_copyFrom 2 none 1 := ⟨⟨uw_in (i := 224) (by decide +kernel) (by decide +kernel), wi_X1, wc_X1_copyFrom, by decide +kernel⟩, wn_X1_copyFrom, ws_X1_copyFrom⟩
theorem wv_X2_55 : pWV RX2 55 yX0_copyFrom cX0_copyFrom 3 none 1 := ⟨⟨uw_in (i := 228) (by decide +kernel) (by decide +kernel), wi_X0, wc_X0_copyFrom, by decide +kernel⟩, wn_X0_copyFrom, ws_X0_copyFrom⟩
theorem wv_X2_58 : pWV RX2 58 yX5_copyFrom cX5_copyFrom 2 none 1 := ⟨⟨uw_in (i := 232) (by decide +kernel) (by decide +kernel), wi_X5, wc_X5_copyFrom, by decide +kernel⟩, wn_X5_copyFrom, ws_X5_copyFrom⟩
theorem wv_X6_42 : pWV RX6 42 yX2_addHousehold cX2_addHousehold 2 (some .int) 1 := ⟨⟨uw_in (i := 236) (by decide +kernel) (by decide +kernel), wi_X2, wc_X2_addHousehold, by decide +kernel⟩, wn_X2_addHousehold, ws_X2_addHousehold⟩
theorem wv_X6_48 : pWV RX6 48 yX6_recorded cX6_recorded 3 (some .int) 1 := ⟨⟨uw_in (i := 243) (by decide +kernel) (by decide +kernel), wi_X6, wc_X6_recorded, by decide +kernel⟩, wn_X6_recorded, ws_X6_recorded⟩
theorem wv_X6_157 : pWV RX6 157 yX6_dropOldestState cX6_dropOldestState 3 none 0 := ⟨⟨uw_in (i := 247) (by decide +kernel) (by decide +kernel), wi_X6, wc_X6_dropOldestState, by decide +kernel⟩, wn_X6_dropOldestState, ws_X6_dropOldestState⟩
theorem wv_L_18 : pWV RL 18 yX6_setSpades cX6_setSpades 3 (some .int) 2 := ⟨⟨uw_in (i := 251) (by decide +kernel) (by decide +kernel), wi_X6, wc_X6_setSpades, by decide +kernel⟩, wn_X6_setSpades, ws_X6_setSpades⟩
theorem wv_X6_51 : pWV RX6 51 yX2_changeSpades cX2_changeSpades 4 (some .int) 2 := ⟨⟨uw_in (i := 255) (by decide +kernel) (by decide +kernel), wi_X2, wc_X2_changeSpades, by decide +kernel⟩, wn_X2_changeSpades, ws_X2_changeSpades⟩
theorem wv_X2_68 : pWV RX2 68 yX2_hasHousehold cX2_hasHousehold 2 (some .boolean) 1 := ⟨⟨uw_in (i := 259) (by decide +kernel) (by decide +kernel), wi_X2, wc_X2_hasHousehold, by decide +kernel⟩, wn_X2_hasHousehold, ws_X2_hasHousehold⟩
theorem wv_L_23 : pWV RL 23 yX6_addBank cX6_addBank 3 (some .int) 2 := ⟨⟨uw_in (i := 263) (by decide +kernel) (by decide +kernel), wi_X6, wc_X6_addBank, by decide +kernel⟩, wn_X6_addBank, ws_X6_addBank⟩
theorem wv_X6_55 : pWV RX6 55 yX2_openBank cX2_openBank 3 (some .int) 2 := ⟨⟨uw_in (i := 267) (by decide +kernel) (by decide +kernel), wi_X2, wc_X2_openBank, by decide +kernel⟩, wn_X2_openBank, ws_X2_openBank⟩
theorem wv_L_27 : pWV RL 27 yX6_setAllowance cX6_setAllowance 3 (some .int) 2 := ⟨⟨uw_in (i := 271) (by decide +kernel) (by decide +kernel), wi_X6, wc_X6_setAllowance, by decide +kernel⟩, wn_X6_setAllowance, ws_X6_setAllowance⟩
theorem wv_X6_58 : pWV RX6 58 yX2_changeAllowance cX2_changeAllowance 4 (some .int) 2 := ⟨⟨uw_in (i := 275) (by decide +kernel) (by decide +kernel), wi_X2, wc_X2_changeAllowance, by decide +kernel⟩, wn_X2_changeAllowance, ws_X2_changeAllowance⟩
theorem wv_X2_78 : pWV RX2 78 yX2_hasBank cX2_hasBank 2 (some .boolean) 1 := ⟨⟨uw_in (i := 279) (by decide +kernel) (by decide +kernel), wi_X2, wc_X2_hasBank, by decide +kernel⟩, wn_X2_hasBank, ws_X2_hasBank⟩
theorem wv_L_31 : pWV RL 31 yX6_grant cX6_grant 4 (some .int) 3 := ⟨⟨uw_in (i := 283) (by decide +kernel) (by decide +kernel), wi_X6, wc_X6_grant, by decide +kernel⟩, wn_X6_grant, ws_X6_grant⟩
theorem wv_X6_61 : pWV RX6 61 yX2_changeRight cX2_changeRight 4 (some .int) 3 := ⟨⟨uw_in (i := 287) (by decide +kernel) (by decide +kernel), wi_X2, wc_X2_changeRight, by decide +kernel⟩, wn_X2_changeRight, ws_X2_changeRight⟩
theorem wv_X2_85 : pWV RX2 85 yX0_holders cX0_holders 3 (some .int) 0 := ⟨⟨uw_in (i := 291) (by decide +kernel) (by decide +kernel), wi_X0, wc_X0_holders, by decide +kernel⟩, wn_X0_holders, ws_X0_holders⟩
theorem wv_L_36 : pWV RL 36 yX6_cut cX6_cut 4 (some .int) 3 := ⟨⟨uw_in (i := 295) (by decide +kernel) (by decide +kernel), wi_X6, wc_X6_cut, by decide +kernel⟩, wn_X6_cut, ws_X6_cut⟩
theorem wv_X6_65 : pWV RX6 65 yX2_cutTurfs cX2_cutTurfs 6 (some .int) 3 := ⟨⟨uw_in (i := 299) (by decide +kernel) (by decide +kernel), wi_X2, wc_X2_cutTurfs, by decide +kernel⟩, wn_X2_cutTurfs, ws_X2_cutTurfs⟩
theorem wv_X2_93 : pWV RX2 93 yX2_shareOf cX2_shareOf 7 (some .int) 2 := ⟨⟨uw_in (i := 303) (by decide +kernel) (by decide +kernel), wi_X2, wc_X2_shareOf, by decide +kernel⟩, wn_X2_shareOf, ws_X2_shareOf⟩
theorem wv_X2_89 : pWV RX2 89 yX2_spadesAt cX2_spadesAt 4 (some .int) 1 := ⟨⟨uw_in (i := 307) (by decide +kernel) (by decide +kernel), wi_X2, wc_X2_spadesAt, by decide +kernel⟩, wn_X2_spadesAt, ws_X2_spadesAt⟩
theorem wv_L_40 : pWV RL 40 yX6_turn cX6_turn 2 (some .int) 1 := ⟨⟨uw_in (i := 312) (by decide +kernel) (by decide +kernel), wi_X6, wc_X6_turn, by decide +kernel⟩, wn_X6_turn, ws_X6_turn⟩
theorem wv_X6_68 : pWV RX6 68 yX2_turnStack cX2_turnStack 3 (some .int) 1 := ⟨⟨uw_in (i := 316) (by decide +kernel) (by decide +kernel), wi_X2, wc_X2_turnStack, by decide +kernel⟩, wn_X2_turnStack, ws_X2_turnStack⟩
theorem wv_X2_129 : pWV RX2 129 yX2_hasStack cX2_hasStack 2 (some .boolean) 1 := ⟨⟨uw_in (i := 320) (by decide +kernel) (by decide +kernel), wi_X2, wc_X2_hasStack, by decide +kernel⟩, wn_X2_hasStack, ws_X2_hasStack⟩
theorem wv_L_44 : pWV RL 44 yX6_join cX6_join 3 (some .int) 2 := ⟨⟨uw_in (i := 324) (by decide +kernel) (by decide +kernel), wi_X6, wc_X6_join, by decide +kernel⟩, wn_X6_join, ws_X6_join⟩
theorem wv_X6_71 : pWV RX6 71 yX2_joinStacks cX2_joinStacks 5 (some .int) 2 := ⟨⟨uw_in (i := 328) (by decide +kernel) (by decide +kernel), wi_X2, wc_X2_joinStacks, by decide +kernel⟩, wn_X2_joinStacks, ws_X2_joinStacks⟩
theorem wv_X2_132 : pWV RX2 132 yX5_takeAllOf cX5_takeAllOf 5 none 1 := ⟨⟨uw_in (i := 332) (by decide +kernel) (by decide +kernel), wi_X5, wc_X5_takeAllOf, by decide +kernel⟩, wn_X5_takeAllOf, ws_X5_takeAllOf⟩
theorem wm_X5_31 : Cond.methodLink RX5 31 Lib.Math.min.name ∈ uw := uw_in (i := 336) (by decide +kernel) (by decide +kernel)
theorem wv_X2_135 : pWV RX2 135 yX2_removeStack cX2_removeStack 4 none 1 := ⟨⟨uw_in (i := 339) (by decide +kernel) (by decide +kernel), wi_X2, wc_X2_removeStack, by decide +kernel⟩, wn_X2_removeStack, ws_X2_removeStack⟩
theorem wv_L_48 : pWV RL 48 yX6_cart cX6_cart 3 (some .int) 2 := ⟨⟨uw_in (i := 343) (by decide +kernel) (by decide +kernel), wi_X6, wc_X6_cart, by decide +kernel⟩, wn_X6_cart, ws_X6_cart⟩
theorem wv_X6_74 : pWV RX6 74 yX2_cartTurfs cX2_cartTurfs 7 (some .int) 2 := ⟨⟨uw_in (i := 347) (by decide +kernel) (by decide +kernel), wi_X2, wc_X2_cartTurfs, by decide +kernel⟩, wn_X2_cartTurfs, ws_X2_cartTurfs⟩
theorem wv_X2_165 : pWV RX2 165 yX5_loadOf cX5_loadOf 2 (some .int) 1 := ⟨⟨uw_in (i := 351) (by decide +kernel) (by decide +kernel), wi_X5, wc_X5_loadOf, by decide +kernel⟩, wn_X5_loadOf, ws_X5_loadOf⟩
theorem wv_X5_27 : pWV RX5 27 yX5_turfWeight cX5_turfWeight 1 (some .int) 0 := ⟨⟨uw_in (i := 355) (by decide +kernel) (by decide +kernel), wi_X5, wc_X5_turfWeight, by decide +kernel⟩, wn_X5_turfWeight, ws_X5_turfWeight⟩
theorem wv_X2_169 : pWV RX2 169 yX2_bearingToday cX2_bearingToday 2 (some .int) 1 := ⟨⟨uw_in (i := 359) (by decide +kernel) (by decide +kernel), wi_X2, wc_X2_bearingToday, by decide +kernel⟩, wn_X2_bearingToday, ws_X2_bearingToday⟩
theorem wv_X2_162 : pWV RX2 162 yX0_bearing cX0_bearing 3 (some .int) 2 := ⟨⟨uw_in (i := 363) (by decide +kernel) (by decide +kernel), wi_X0, wc_X0_bearing, by decide +kernel⟩, wn_X0_bearing, ws_X0_bearing⟩
theorem wm_X0_38 : Cond.methodLink RX0 38 Lib.Math.max.name ∈ uw := uw_in (i := 367) (by decide +kernel) (by decide +kernel)
theorem wv_X2_139 : pWV RX2 139 yX5_isDry cX5_isDry 1 (some .boolean) 0 := ⟨⟨uw_in (i := 370) (by decide +kernel) (by decide +kernel), wi_X5, wc_X5_isDry, by decide +kernel⟩, wn_X5_isDry, ws_X5_isDry⟩
theorem wv_X2_181 : pWS RX2 181 yX0_wearBy cX0_wearBy 1 (some .int) 1 := ⟨⟨uw_in (i := 374) (by decide +kernel) (by decide +kernel), wi_X0, wc_X0_wearBy, by decide +kernel⟩, wt_X0_wearBy⟩
theorem wv_L_52 : pWV RL 52 yX6_repair cX6_repair 2 (some .int) 1 := ⟨⟨uw_in (i := 377) (by decide +kernel) (by decide +kernel), wi_X6, wc_X6_repair, by decide +kernel⟩, wn_X6_repair, ws_X6_repair⟩
theorem wv_X6_77 : pWV RX6 77 yX2_repairRoad cX2_repairRoad 3 (some .int) 1 := ⟨⟨uw_in (i := 381) (by decide +kernel) (by decide +kernel), wi_X2, wc_X2_repairRoad, by decide +kernel⟩, wn_X2_repairRoad, ws_X2_repairRoad⟩
theorem wv_L_56 : pWV RL 56 yX6_day cX6_day 3 (some .int) 2 := ⟨⟨uw_in (i := 385) (by decide +kernel) (by decide +kernel), wi_X6, wc_X6_day, by decide +kernel⟩, wn_X6_day, ws_X6_day⟩
theorem wv_X6_80 : pWV RX6 80 yX2_passDay cX2_passDay 5 (some .int) 2 := ⟨⟨uw_in (i := 389) (by decide +kernel) (by decide +kernel), wi_X2, wc_X2_passDay, by decide +kernel⟩, wn_X2_passDay, ws_X2_passDay⟩
theorem wv_X2_146 : pWV RX2 146 yX5_wetnessAfterDay cX5_wetnessAfterDay 6 (some .int) 3 := ⟨⟨uw_in (i := 393) (by decide +kernel) (by decide +kernel), wi_X5, wc_X5_wetnessAfterDay, by decide +kernel⟩, wn_X5_wetnessAfterDay, ws_X5_wetnessAfterDay⟩
theorem wv_X2_150 : pWV RX2 150 yX2_dryStacks cX2_dryStacks 3 (some .int) 0 := ⟨⟨uw_in (i := 399) (by decide +kernel) (by decide +kernel), wi_X2, wc_X2_dryStacks, by decide +kernel⟩, wn_X2_dryStacks, ws_X2_dryStacks⟩
theorem wv_L_60 : pWV RL 60 yX6_endYear cX6_endYear 1 (some .int) 0 := ⟨⟨uw_in (i := 403) (by decide +kernel) (by decide +kernel), wi_X6, wc_X6_endYear, by decide +kernel⟩, wn_X6_endYear, ws_X6_endYear⟩
theorem wv_X6_83 : pWV RX6 83 yX2_closeYear cX2_closeYear 3 (some .int) 0 := ⟨⟨uw_in (i := 407) (by decide +kernel) (by decide +kernel), wi_X2, wc_X2_closeYear, by decide +kernel⟩, wn_X2_closeYear, ws_X2_closeYear⟩
theorem wv_X2_156 : pWV RX2 156 yX0_forgetYear cX0_forgetYear 2 none 0 := ⟨⟨uw_in (i := 411) (by decide +kernel) (by decide +kernel), wi_X0, wc_X0_forgetYear, by decide +kernel⟩, wn_X0_forgetYear, ws_X0_forgetYear⟩
theorem wv_L_65 : pWV RL 65 yX6_take cX6_take 2 (some .int) 1 := ⟨⟨uw_in (i := 415) (by decide +kernel) (by decide +kernel), wi_X6, wc_X6_take, by decide +kernel⟩, wn_X6_take, ws_X6_take⟩
theorem wv_X6_87 : pWV RX6 87 yX4_takeSnapshot cX4_takeSnapshot 2 (some .int) 1 := ⟨⟨uw_in (i := 419) (by decide +kernel) (by decide +kernel), wi_X4, wc_X4_takeSnapshot, by decide +kernel⟩, wn_X4_takeSnapshot, ws_X4_takeSnapshot⟩
theorem wv_L_69 : pWV RL 69 yX6_restore cX6_restore 2 (some .int) 1 := ⟨⟨uw_in (i := 424) (by decide +kernel) (by decide +kernel), wi_X6, wc_X6_restore, by decide +kernel⟩, wn_X6_restore, ws_X6_restore⟩
theorem wv_X6_90 : pWV RX6 90 yX4_restoreSnapshot cX4_restoreSnapshot 2 (some .int) 1 := ⟨⟨uw_in (i := 428) (by decide +kernel) (by decide +kernel), wi_X4, wc_X4_restoreSnapshot, by decide +kernel⟩, wn_X4_restoreSnapshot, ws_X4_restoreSnapshot⟩
theorem wv_L_73 : pWV RL 73 yX6_undo cX6_undo 2 (some .int) 0 := ⟨⟨uw_in (i := 432) (by decide +kernel) (by decide +kernel), wi_X6, wc_X6_undo, by decide +kernel⟩, wn_X6_undo, ws_X6_undo⟩
theorem wv_L_77 : pWV RL 77 yX6_append cX6_append 2 (some .int) 1 := ⟨⟨uw_in (i := 436) (by decide +kernel) (by decide +kernel), wi_X6, wc_X6_append, by decide +kernel⟩, wn_X6_append, ws_X6_append⟩
theorem wv_X6_93 : pWV RX6 93 yX3_addCharacter cX3_addCharacter 2 (some .int) 1 := ⟨⟨uw_in (i := 440) (by decide +kernel) (by decide +kernel), wi_X3, wc_X3_addCharacter, by decide +kernel⟩, wn_X3_addCharacter, ws_X3_addCharacter⟩
theorem wv_L_81 : pWV RL 81 yX6_clearText cX6_clearText 1 (some .int) 0 := ⟨⟨uw_in (i := 445) (by decide +kernel) (by decide +kernel), wi_X6, wc_X6_clearText, by decide +kernel⟩, wn_X6_clearText, ws_X6_clearText⟩
theorem wv_X6_96 : pWV RX6 96 yX3_clearCharacters cX3_clearCharacters 2 (some .int) 0 := ⟨⟨uw_in (i := 449) (by decide +kernel) (by decide +kernel), wi_X3, wc_X3_clearCharacters, by decide +kernel⟩, wn_X3_clearCharacters, ws_X3_clearCharacters⟩
theorem wv_L_85 : pWV RL 85 yX6_run cX6_run 2 (some .int) 0 := ⟨⟨uw_in (i := 453) (by decide +kernel) (by decide +kernel), wi_X6, wc_X6_run, by decide +kernel⟩, wn_X6_run, ws_X6_run⟩
theorem wv_X6_99 : pWV RX6 99 yX3_runOn cX3_runOn 4 (some .int) 1 := ⟨⟨uw_in (i := 457) (by decide +kernel) (by decide +kernel), wi_X3, wc_X3_runOn, by decide +kernel⟩, wn_X3_runOn, ws_X3_runOn⟩
theorem wv_X3_33 : pWV RX3 33 yX3_readToken cX3_readToken 2 none 0 := ⟨⟨uw_in (i := 461) (by decide +kernel) (by decide +kernel), wi_X3, wc_X3_readToken, by decide +kernel⟩, wn_X3_readToken, ws_X3_readToken⟩
theorem wv_X3_65 : pWS RX3 65 yX3_kindOf cX3_kindOf 1 (some .int) 1 := ⟨⟨uw_in (i := 465) (by decide +kernel) (by decide +kernel), wi_X3, wc_X3_kindOf, by decide +kernel⟩, wt_X3_kindOf⟩
theorem wv_X3_36 : pWV RX3 36 yX3_runCommand cX3_runCommand 6 (some .int) 1 := ⟨⟨uw_in (i := 468) (by decide +kernel) (by decide +kernel), wi_X3, wc_X3_runCommand, by decide +kernel⟩, wn_X3_runCommand, ws_X3_runCommand⟩
theorem wv_X3_40 : pWV RX3 40 yX3_commandOfToken cX3_commandOfToken 1 (some .int) 0 := ⟨⟨uw_in (i := 472) (by decide +kernel) (by decide +kernel), wi_X3, wc_X3_commandOfToken, by decide +kernel⟩, wn_X3_commandOfToken, ws_X3_commandOfToken⟩
theorem wv_X3_57 : pWV RX3 57 yX3_isToken cX3_isToken 3 (some .boolean) 1 := ⟨⟨uw_in (i := 477) (by decide +kernel) (by decide +kernel), wi_X3, wc_X3_isToken, by decide +kernel⟩, wn_X3_isToken, ws_X3_isToken⟩
theorem wv_X3_69 : pWV RX3 69 yJ0_length_8abf5 cJ0_length_8abf5 1 (some .int) 0 := ⟨⟨uw_in (i := 481) (by decide +kernel) (by decide +kernel), wi_J0, wc_J0_length_8abf5, by decide +kernel⟩, wn_J0_length_8abf5, ws_J0_length_8abf5⟩
theorem wv_J0_335 : pWV RJ0 335 yJ0_coder_7d493 cJ0_coder_7d493 1 (some .byte) 0 := ⟨⟨uw_in (i := 485) (by decide +kernel) (by decide +kernel), wi_J0, wc_J0_coder_7d493, by decide +kernel⟩, wn_J0_coder_7d493, ws_J0_coder_7d493⟩
theorem wv_X3_73 : pWV RX3 73 yJ0_charAt_5068e cJ0_charAt_5068e 2 (some .char) 1 := ⟨⟨uw_in (i := 491) (by decide +kernel) (by decide +kernel), wi_J0, wc_J0_charAt_5068e, by decide +kernel⟩, wn_J0_charAt_5068e, ws_J0_charAt_5068e⟩
theorem wv_J0_492 : pWV RJ0 492 yJ0_isLatin1_aae02 cJ0_isLatin1_aae02 1 (some .boolean) 0 := ⟨⟨uw_in (i := 495) (by decide +kernel) (by decide +kernel), wi_J0, wc_J0_isLatin1_aae02, by decide +kernel⟩, wn_J0_isLatin1_aae02, ws_J0_isLatin1_aae02⟩
theorem wv_J0_495 : pWS RJ0 495 yJ1_charAt_3b067 cJ1_charAt_3b067 2 (some .char) 2 := ⟨⟨uw_in (i := 499) (by decide +kernel) (by decide +kernel), wi_J1, wc_J1_charAt_3b067, by decide +kernel⟩, wt_J1_charAt_3b067⟩
theorem wv_J1_9 : pWS RJ1 9 yJ0_checkIndex_df160 cJ0_checkIndex_df160 2 none 2 := ⟨⟨uw_in (i := 502) (by decide +kernel) (by decide +kernel), wi_J0, wc_J0_checkIndex_df160, by decide +kernel⟩, wt_J0_checkIndex_df160⟩
theorem wv_J0_1059 : pWS RJ0 1059 yJ3_checkIndex_8e157 cJ3_checkIndex_8e157 3 (some .int) 3 := ⟨⟨uw_in (i := 507) (by decide +kernel) (by decide +kernel), wi_J3, wc_J3_checkIndex_8e157, by decide +kernel⟩, wt_J3_checkIndex_8e157⟩
theorem wv_J0_498 : pWS RJ0 498 yJ2_charAt_3b067 cJ2_charAt_3b067 2 (some .char) 2 := ⟨⟨uw_in (i := 510) (by decide +kernel) (by decide +kernel), wi_J2, wc_J2_charAt_3b067, by decide +kernel⟩, wt_J2_charAt_3b067⟩
theorem wv_J2_67 : pWS RJ2 67 yJ2_checkIndex_2214a cJ2_checkIndex_2214a 2 none 2 := ⟨⟨uw_in (i := 513) (by decide +kernel) (by decide +kernel), wi_J2, wc_J2_checkIndex_2214a, by decide +kernel⟩, wt_J2_checkIndex_2214a⟩
theorem wv_J2_48 : pWS RJ2 48 yJ2_length_9d52b cJ2_length_9d52b 1 (some .int) 1 := ⟨⟨uw_in (i := 516) (by decide +kernel) (by decide +kernel), wi_J2, wc_J2_length_9d52b, by decide +kernel⟩, wt_J2_length_9d52b⟩
theorem wv_J2_414 : pWS RJ2 414 yJ0_checkIndex_df160 cJ0_checkIndex_df160 2 none 2 := ⟨⟨uw_in (i := 519) (by decide +kernel) (by decide +kernel), wi_J0, wc_J0_checkIndex_df160, by decide +kernel⟩, wt_J0_checkIndex_df160⟩
theorem wv_J2_71 : pWS RJ2 71 yJ2_getChar_3b067 cJ2_getChar_3b067 2 (some .char) 2 := ⟨⟨uw_in (i := 520) (by decide +kernel) (by decide +kernel), wi_J2, wc_J2_getChar_3b067, by decide +kernel⟩, wt_J2_getChar_3b067⟩
theorem wv_X3_44 : pWS RX3 44 yX3_numbersOf cX3_numbersOf 1 (some .int) 1 := ⟨⟨uw_in (i := 535) (by decide +kernel) (by decide +kernel), wi_X3, wc_X3_numbersOf, by decide +kernel⟩, wt_X3_numbersOf⟩
theorem wv_X3_48 : pWV RX3 48 yX3_isNumber cX3_isNumber 2 (some .boolean) 0 := ⟨⟨uw_in (i := 538) (by decide +kernel) (by decide +kernel), wi_X3, wc_X3_isNumber, by decide +kernel⟩, wn_X3_isNumber, ws_X3_isNumber⟩
theorem wv_X3_52 : pWV RX3 52 yX3_valueOfToken cX3_valueOfToken 3 (some .int) 0 := ⟨⟨uw_in (i := 542) (by decide +kernel) (by decide +kernel), wi_X3, wc_X3_valueOfToken, by decide +kernel⟩, wn_X3_valueOfToken, ws_X3_valueOfToken⟩
theorem wv_X3_61 : pWV RX3 61 yX3_perform cX3_perform 3 (some .int) 2 := ⟨⟨uw_in (i := 547) (by decide +kernel) (by decide +kernel), wi_X3, wc_X3_perform, by decide +kernel⟩, wn_X3_perform, ws_X3_perform⟩
theorem wv_X3_91 : pWV RX3 91 yX2_addHousehold cX2_addHousehold 2 (some .int) 1 := ⟨⟨uw_in (i := 551) (by decide +kernel) (by decide +kernel), wi_X2, wc_X2_addHousehold, by decide +kernel⟩, wn_X2_addHousehold, ws_X2_addHousehold⟩
theorem wv_X3_96 : pWV RX3 96 yX2_openBank cX2_openBank 3 (some .int) 2 := ⟨⟨uw_in (i := 552) (by decide +kernel) (by decide +kernel), wi_X2, wc_X2_openBank, by decide +kernel⟩, wn_X2_openBank, ws_X2_openBank⟩
theorem wv_X3_100 : pWV RX3 100 yX2_changeRight cX2_changeRight 4 (some .int) 3 := ⟨⟨uw_in (i := 553) (by decide +kernel) (by decide +kernel), wi_X2, wc_X2_changeRight, by decide +kernel⟩, wn_X2_changeRight, ws_X2_changeRight⟩
theorem wv_X3_104 : pWV RX3 104 yX2_cutTurfs cX2_cutTurfs 6 (some .int) 3 := ⟨⟨uw_in (i := 554) (by decide +kernel) (by decide +kernel), wi_X2, wc_X2_cutTurfs, by decide +kernel⟩, wn_X2_cutTurfs, ws_X2_cutTurfs⟩
theorem wv_X3_107 : pWV RX3 107 yX2_turnStack cX2_turnStack 3 (some .int) 1 := ⟨⟨uw_in (i := 555) (by decide +kernel) (by decide +kernel), wi_X2, wc_X2_turnStack, by decide +kernel⟩, wn_X2_turnStack, ws_X2_turnStack⟩
theorem wv_X3_110 : pWV RX3 110 yX2_cartTurfs cX2_cartTurfs 7 (some .int) 2 := ⟨⟨uw_in (i := 556) (by decide +kernel) (by decide +kernel), wi_X2, wc_X2_cartTurfs, by decide +kernel⟩, wn_X2_cartTurfs, ws_X2_cartTurfs⟩
theorem wv_X3_113 : pWV RX3 113 yX2_passDay cX2_passDay 5 (some .int) 2 := ⟨⟨uw_in (i := 557) (by decide +kernel) (by decide +kernel), wi_X2, wc_X2_passDay, by decide +kernel⟩, wn_X2_passDay, ws_X2_passDay⟩
theorem wv_L_89 : pWV RL 89 yX6_count cX6_count 2 (some .int) 1 := ⟨⟨uw_in (i := 559) (by decide +kernel) (by decide +kernel), wi_X6, wc_X6_count, by decide +kernel⟩, wn_X6_count, ws_X6_count⟩
theorem wv_X6_115 : pWV RX6 115 yX2_dryStacks cX2_dryStacks 3 (some .int) 0 := ⟨⟨uw_in (i := 563) (by decide +kernel) (by decide +kernel), wi_X2, wc_X2_dryStacks, by decide +kernel⟩, wn_X2_dryStacks, ws_X2_dryStacks⟩
theorem wv_X6_124 : pWV RX6 124 yX4_snapshots cX4_snapshots 3 (some .int) 0 := ⟨⟨uw_in (i := 564) (by decide +kernel) (by decide +kernel), wi_X4, wc_X4_snapshots, by decide +kernel⟩, wn_X4_snapshots, ws_X4_snapshots⟩
theorem wv_L_93 : pWV RL 93 yX6_household cX6_household 3 (some .int) 2 := ⟨⟨uw_in (i := 568) (by decide +kernel) (by decide +kernel), wi_X6, wc_X6_household, by decide +kernel⟩, wn_X6_household, ws_X6_household⟩
theorem wv_X6_130 : pWV RX6 130 yX2_householdProperty cX2_householdProperty 3 (some .int) 2 := ⟨⟨uw_in (i := 572) (by decide +kernel) (by decide +kernel), wi_X2, wc_X2_householdProperty, by decide +kernel⟩, wn_X2_householdProperty, ws_X2_householdProperty⟩
theorem wv_X2_187 : pWV RX2 187 yX2_rightsOf cX2_rightsOf 4 (some .int) 1 := ⟨⟨uw_in (i := 576) (by decide +kernel) (by decide +kernel), wi_X2, wc_X2_rightsOf, by decide +kernel⟩, wn_X2_rightsOf, ws_X2_rightsOf⟩
theorem wv_X2_190 : pWV RX2 190 yX2_stacksOf cX2_stacksOf 4 (some .int) 1 := ⟨⟨uw_in (i := 580) (by decide +kernel) (by decide +kernel), wi_X2, wc_X2_stacksOf, by decide +kernel⟩, wn_X2_stacksOf, ws_X2_stacksOf⟩
theorem wv_X2_193 : pWV RX2 193 yX2_turfsInStacksOf cX2_turfsInStacksOf 4 (some .int) 1 := ⟨⟨uw_in (i := 584) (by decide +kernel) (by decide +kernel), wi_X2, wc_X2_turfsInStacksOf, by decide +kernel⟩, wn_X2_turfsInStacksOf, ws_X2_turfsInStacksOf⟩
theorem wv_L_97 : pWV RL 97 yX6_bank cX6_bank 3 (some .int) 2 := ⟨⟨uw_in (i := 588) (by decide +kernel) (by decide +kernel), wi_X6, wc_X6_bank, by decide +kernel⟩, wn_X6_bank, ws_X6_bank⟩
theorem wv_X6_133 : pWV RX6 133 yX2_bankProperty cX2_bankProperty 4 (some .int) 2 := ⟨⟨uw_in (i := 592) (by decide +kernel) (by decide +kernel), wi_X2, wc_X2_bankProperty, by decide +kernel⟩, wn_X2_bankProperty, ws_X2_bankProperty⟩
theorem wv_X2_196 : pWV RX2 196 yX0_holdersAsBits cX0_holdersAsBits 3 (some .int) 0 := ⟨⟨uw_in (i := 596) (by decide +kernel) (by decide +kernel), wi_X0, wc_X0_holdersAsBits, by decide +kernel⟩, wn_X0_holdersAsBits, ws_X0_holdersAsBits⟩
theorem wv_X2_199 : pWV RX2 199 yX2_turfsInStacksAt cX2_turfsInStacksAt 4 (some .int) 1 := ⟨⟨uw_in (i := 600) (by decide +kernel) (by decide +kernel), wi_X2, wc_X2_turfsInStacksAt, by decide +kernel⟩, wn_X2_turfsInStacksAt, ws_X2_turfsInStacksAt⟩
theorem wv_L_101 : pWV RL 101 yX6_right cX6_right 4 (some .int) 3 := ⟨⟨uw_in (i := 604) (by decide +kernel) (by decide +kernel), wi_X6, wc_X6_right, by decide +kernel⟩, wn_X6_right, ws_X6_right⟩
theorem wv_X6_136 : pWV RX6 136 yX2_rightPart cX2_rightPart 4 (some .int) 3 := ⟨⟨uw_in (i := 608) (by decide +kernel) (by decide +kernel), wi_X2, wc_X2_rightPart, by decide +kernel⟩, wn_X2_rightPart, ws_X2_rightPart⟩
theorem wv_X2_107 : pWV RX2 107 yX2_stillToCut cX2_stillToCut 3 (some .int) 2 := ⟨⟨uw_in (i := 612) (by decide +kernel) (by decide +kernel), wi_X2, wc_X2_stillToCut, by decide +kernel⟩, wn_X2_stillToCut, ws_X2_stillToCut⟩
theorem wm_X2_101 : Cond.methodLink RX2 101 Lib.Math.max.name ∈ uw := uw_in (i := 616) (by decide +kernel) (by decide +kernel)
theorem wv_L_105 : pWV RL 105 yX6_stack cX6_stack 3 (some .int) 2 := ⟨⟨uw_in (i := 617) (by decide +kernel) (by decide +kernel), wi_X6, wc_X6_stack, by decide +kernel⟩, wn_X6_stack, ws_X6_stack⟩
theorem wv_X6_139 : pWV RX6 139 yX2_stackProperty cX2_stackProperty 4 (some .int) 2 := ⟨⟨uw_in (i := 621) (by decide +kernel) (by decide +kernel), wi_X2, wc_X2_stackProperty, by decide +kernel⟩, wn_X2_stackProperty, ws_X2_stackProperty⟩
theorem wv_X2_143 : pWV RX2 143 yX5_turfWeight cX5_turfWeight 1 (some .int) 0 := ⟨⟨uw_in (i := 625) (by decide +kernel) (by decide +kernel), wi_X5, wc_X5_turfWeight, by decide +kernel⟩, wn_X5_turfWeight, ws_X5_turfWeight⟩
theorem wv_L_109 : pWV RL 109 yX6_dryIn cX6_dryIn 4 (some .int) 3 := ⟨⟨uw_in (i := 626) (by decide +kernel) (by decide +kernel), wi_X6, wc_X6_dryIn, by decide +kernel⟩, wn_X6_dryIn, ws_X6_dryIn⟩
theorem wv_X6_142 : pWV RX6 142 yX2_daysUntilDry cX2_daysUntilDry 7 (some .int) 3 := ⟨⟨uw_in (i := 630) (by decide +kernel) (by decide +kernel), wi_X2, wc_X2_daysUntilDry, by decide +kernel⟩, wn_X2_daysUntilDry, ws_X2_daysUntilDry⟩
theorem wv_L_113 : pWV RL 113 yX6_cartLoad cX6_cartLoad 2 (some .int) 1 := ⟨⟨uw_in (i := 634) (by decide +kernel) (by decide +kernel), wi_X6, wc_X6_cartLoad, by decide +kernel⟩, wn_X6_cartLoad, ws_X6_cartLoad⟩
theorem wv_X6_145 : pWV RX6 145 yX2_greatestCartOf cX2_greatestCartOf 4 (some .int) 1 := ⟨⟨uw_in (i := 638) (by decide +kernel) (by decide +kernel), wi_X2, wc_X2_greatestCartOf, by decide +kernel⟩, wn_X2_greatestCartOf, ws_X2_greatestCartOf⟩
theorem wv_X2_184 : pWV RX2 184 yX5_greatestCart cX5_greatestCart 5 (some .int) 2 := ⟨⟨uw_in (i := 642) (by decide +kernel) (by decide +kernel), wi_X5, wc_X5_greatestCart, by decide +kernel⟩, wn_X5_greatestCart, ws_X5_greatestCart⟩
theorem wv_L_117 : pWV RL 117 yX6_carts cX6_carts 2 (some .int) 1 := ⟨⟨uw_in (i := 646) (by decide +kernel) (by decide +kernel), wi_X6, wc_X6_carts, by decide +kernel⟩, wn_X6_carts, ws_X6_carts⟩
theorem wv_X6_148 : pWV RX6 148 yX2_cartsNeeded cX2_cartsNeeded 8 (some .int) 1 := ⟨⟨uw_in (i := 650) (by decide +kernel) (by decide +kernel), wi_X2, wc_X2_cartsNeeded, by decide +kernel⟩, wn_X2_cartsNeeded, ws_X2_cartsNeeded⟩
theorem wv_L_121 : pWV RL 121 yX6_worth cX6_worth 3 (some .int) 2 := ⟨⟨uw_in (i := 654) (by decide +kernel) (by decide +kernel), wi_X6, wc_X6_worth, by decide +kernel⟩, wn_X6_worth, ws_X6_worth⟩
theorem wv_X6_151 : pWV RX6 151 yX2_worthOfShed cX2_worthOfShed 5 (some .int) 2 := ⟨⟨uw_in (i := 658) (by decide +kernel) (by decide +kernel), wi_X2, wc_X2_worthOfShed, by decide +kernel⟩, wn_X2_worthOfShed, ws_X2_worthOfShed⟩
theorem wv_L_125 : pWV RL 125 yX6_nextToCut cX6_nextToCut 2 (some .int) 1 := ⟨⟨uw_in (i := 664) (by decide +kernel) (by decide +kernel), wi_X6, wc_X6_nextToCut, by decide +kernel⟩, wn_X6_nextToCut, ws_X6_nextToCut⟩
theorem wv_X6_154 : pWV RX6 154 yX2_mostToCut cX2_mostToCut 6 (some .int) 1 := ⟨⟨uw_in (i := 668) (by decide +kernel) (by decide +kernel), wi_X2, wc_X2_mostToCut, by decide +kernel⟩, wn_X2_mostToCut, ws_X2_mostToCut⟩
theorem wv_L_12 : pWI RL 12 yX7_init cX7_init 1 0 := ⟨⟨uw_in (i := 674) (by decide +kernel) (by decide +kernel), wi_X7, wc_X7_init, by decide +kernel⟩, rfl, wn_X7_init⟩
theorem wm_X7_1 : Cond.methodLink RX7 1 objectInit ∈ uw := uw_in (i := 677) (by decide +kernel) (by decide +kernel)
theorem wv_L_17 : pWV RL 17 yX7_come cX7_come 4 (some .int) 1 := ⟨⟨uw_in (i := 715) (by decide +kernel) (by decide +kernel), wi_X7, wc_X7_come, by decide +kernel⟩, wn_X7_come, ws_X7_come⟩
theorem wv_X7_33 : pWS RX7 33 yX7_in cX7_in 3 (some .boolean) 3 := ⟨⟨uw_in (i := 719) (by decide +kernel) (by decide +kernel), wi_X7, wc_X7_in, by decide +kernel⟩, wt_X7_in⟩
theorem wv_X7_37 : pWV RX7 37 yX7_acts cX7_acts 2 none 0 := ⟨⟨uw_in (i := 722) (by decide +kernel) (by decide +kernel), wi_X7, wc_X7_acts, by decide +kernel⟩, wn_X7_acts, ws_X7_acts⟩
theorem wv_L_22 : pWV RL 22 yX7_setSpades cX7_setSpades 4 (some .int) 2 := ⟨⟨uw_in (i := 726) (by decide +kernel) (by decide +kernel), wi_X7, wc_X7_setSpades, by decide +kernel⟩, wn_X7_setSpades, ws_X7_setSpades⟩
theorem wv_X7_40 : pWV RX7 40 yX7_isHouse cX7_isHouse 2 (some .boolean) 1 := ⟨⟨uw_in (i := 730) (by decide +kernel) (by decide +kernel), wi_X7, wc_X7_isHouse, by decide +kernel⟩, wn_X7_isHouse, ws_X7_isHouse⟩
theorem wv_X7_44 : pWV RX7 44 yX7_inHouse cX7_inHouse 3 (some .int) 2 := ⟨⟨uw_in (i := 734) (by decide +kernel) (by decide +kernel), wi_X7, wc_X7_inHouse, by decide +kernel⟩, wn_X7_inHouse, ws_X7_inHouse⟩
theorem wv_L_26 : pWV RL 26 yX7_addBank cX7_addBank 5 (some .int) 2 := ⟨⟨uw_in (i := 738) (by decide +kernel) (by decide +kernel), wi_X7, wc_X7_addBank, by decide +kernel⟩, wn_X7_addBank, ws_X7_addBank⟩
theorem wv_L_30 : pWV RL 30 yX7_setAllowance cX7_setAllowance 4 (some .int) 2 := ⟨⟨uw_in (i := 742) (by decide +kernel) (by decide +kernel), wi_X7, wc_X7_setAllowance, by decide +kernel⟩, wn_X7_setAllowance, ws_X7_setAllowance⟩
theorem wv_X7_48 : pWV RX7 48 yX7_isBank cX7_isBank 2 (some .boolean) 1 := ⟨⟨uw_in (i := 746) (by decide +kernel) (by decide +kernel), wi_X7, wc_X7_isBank, by decide +kernel⟩, wn_X7_isBank, ws_X7_isBank⟩
theorem wv_X7_51 : pWV RX7 51 yX7_inBank cX7_inBank 3 (some .int) 2 := ⟨⟨uw_in (i := 750) (by decide +kernel) (by decide +kernel), wi_X7, wc_X7_inBank, by decide +kernel⟩, wn_X7_inBank, ws_X7_inBank⟩
theorem wv_L_35 : pWV RL 35 yX7_grant cX7_grant 5 (some .int) 3 := ⟨⟨uw_in (i := 754) (by decide +kernel) (by decide +kernel), wi_X7, wc_X7_grant, by decide +kernel⟩, wn_X7_grant, ws_X7_grant⟩
theorem wv_X7_54 : pWS RX7 54 yX7_ones cX7_ones 3 (some .int) 1 := ⟨⟨uw_in (i := 758) (by decide +kernel) (by decide +kernel), wi_X7, wc_X7_ones, by decide +kernel⟩, wt_X7_ones⟩
theorem wv_L_39 : pWV RL 39 yX7_cut cX7_cut 5 (some .int) 3 := ⟨⟨uw_in (i := 761) (by decide +kernel) (by decide +kernel), wi_X7, wc_X7_cut, by decide +kernel⟩, wn_X7_cut, ws_X7_cut⟩
theorem wv_X7_68 : pWV RX7 68 yX7_mayCut cX7_mayCut 4 (some .int) 2 := ⟨⟨uw_in (i := 765) (by decide +kernel) (by decide +kernel), wi_X7, wc_X7_mayCut, by decide +kernel⟩, wn_X7_mayCut, ws_X7_mayCut⟩
theorem wv_X7_65 : pWV RX7 65 yX7_shareOf cX7_shareOf 7 (some .int) 2 := ⟨⟨uw_in (i := 769) (by decide +kernel) (by decide +kernel), wi_X7, wc_X7_shareOf, by decide +kernel⟩, wn_X7_shareOf, ws_X7_shareOf⟩
theorem wv_X7_62 : pWV RX7 62 yX7_spadesOf cX7_spadesOf 4 (some .int) 1 := ⟨⟨uw_in (i := 773) (by decide +kernel) (by decide +kernel), wi_X7, wc_X7_spadesOf, by decide +kernel⟩, wn_X7_spadesOf, ws_X7_spadesOf⟩
theorem wv_X7_58 : pWV RX7 58 yX7_hasRight cX7_hasRight 3 (some .boolean) 2 := ⟨⟨uw_in (i := 777) (by decide +kernel) (by decide +kernel), wi_X7, wc_X7_hasRight, by decide +kernel⟩, wn_X7_hasRight, ws_X7_hasRight⟩
theorem wv_L_43 : pWV RL 43 yX7_turn cX7_turn 2 (some .int) 1 := ⟨⟨uw_in (i := 782) (by decide +kernel) (by decide +kernel), wi_X7, wc_X7_turn, by decide +kernel⟩, wn_X7_turn, ws_X7_turn⟩
theorem wv_X7_72 : pWV RX7 72 yX7_isStack cX7_isStack 2 (some .boolean) 1 := ⟨⟨uw_in (i := 786) (by decide +kernel) (by decide +kernel), wi_X7, wc_X7_isStack, by decide +kernel⟩, wn_X7_isStack, ws_X7_isStack⟩
theorem wv_X7_75 : pWV RX7 75 yX7_inStack cX7_inStack 3 (some .int) 2 := ⟨⟨uw_in (i := 790) (by decide +kernel) (by decide +kernel), wi_X7, wc_X7_inStack, by decide +kernel⟩, wn_X7_inStack, ws_X7_inStack⟩
theorem wv_L_47 : pWV RL 47 yX7_join cX7_join 7 (some .int) 2 := ⟨⟨uw_in (i := 794) (by decide +kernel) (by decide +kernel), wi_X7, wc_X7_join, by decide +kernel⟩, wn_X7_join, ws_X7_join⟩
theorem wv_X7_78 : pWV RX7 78 yX7_goes cX7_goes 3 none 1 := ⟨⟨uw_in (i := 798) (by decide +kernel) (by decide +kernel), wi_X7, wc_X7_goes, by decide +kernel⟩, wn_X7_goes, ws_X7_goes⟩
theorem wv_L_51 : pWV RL 51 yX7_cart cX7_cart 5 (some .int) 2 := ⟨⟨uw_in (i := 802) (by decide +kernel) (by decide +kernel), wi_X7, wc_X7_cart, by decide +kernel⟩, wn_X7_cart, ws_X7_cart⟩
theorem wv_X7_85 : pWV RX7 85 yX7_load cX7_load 3 (some .int) 2 := ⟨⟨uw_in (i := 806) (by decide +kernel) (by decide +kernel), wi_X7, wc_X7_load, by decide +kernel⟩, wn_X7_load, ws_X7_load⟩
theorem wv_X7_82 : pWV RX7 82 yX7_weight cX7_weight 2 (some .int) 1 := ⟨⟨uw_in (i := 810) (by decide +kernel) (by decide +kernel), wi_X7, wc_X7_weight, by decide +kernel⟩, wn_X7_weight, ws_X7_weight⟩
theorem wv_X7_88 : pWV RX7 88 yX7_bears cX7_bears 3 (some .int) 1 := ⟨⟨uw_in (i := 814) (by decide +kernel) (by decide +kernel), wi_X7, wc_X7_bears, by decide +kernel⟩, wn_X7_bears, ws_X7_bears⟩
theorem wv_X7_91 : pWV RX7 91 yX7_isDry cX7_isDry 2 (some .boolean) 1 := ⟨⟨uw_in (i := 818) (by decide +kernel) (by decide +kernel), wi_X7, wc_X7_isDry, by decide +kernel⟩, wn_X7_isDry, ws_X7_isDry⟩
theorem wv_L_55 : pWV RL 55 yX7_repair cX7_repair 3 (some .int) 1 := ⟨⟨uw_in (i := 822) (by decide +kernel) (by decide +kernel), wi_X7, wc_X7_repair, by decide +kernel⟩, wn_X7_repair, ws_X7_repair⟩
theorem wv_L_59 : pWV RL 59 yX7_day cX7_day 4 (some .int) 2 := ⟨⟨uw_in (i := 826) (by decide +kernel) (by decide +kernel), wi_X7, wc_X7_day, by decide +kernel⟩, wn_X7_day, ws_X7_day⟩
theorem wv_X7_94 : pWS RX7 94 yX7_dried cX7_dried 5 (some .int) 4 := ⟨⟨uw_in (i := 830) (by decide +kernel) (by decide +kernel), wi_X7, wc_X7_dried, by decide +kernel⟩, wt_X7_dried⟩
theorem wv_X7_98 : pWV RX7 98 yX7_dryStacks cX7_dryStacks 3 (some .int) 0 := ⟨⟨uw_in (i := 833) (by decide +kernel) (by decide +kernel), wi_X7, wc_X7_dryStacks, by decide +kernel⟩, wn_X7_dryStacks, ws_X7_dryStacks⟩
theorem wv_L_64 : pWV RL 64 yX7_endYear cX7_endYear 3 (some .int) 0 := ⟨⟨uw_in (i := 837) (by decide +kernel) (by decide +kernel), wi_X7, wc_X7_endYear, by decide +kernel⟩, wn_X7_endYear, ws_X7_endYear⟩
theorem wv_L_68 : pWV RL 68 yX7_take cX7_take 3 (some .int) 1 := ⟨⟨uw_in (i := 841) (by decide +kernel) (by decide +kernel), wi_X7, wc_X7_take, by decide +kernel⟩, wn_X7_take, ws_X7_take⟩
theorem wv_L_72 : pWV RL 72 yX7_restore cX7_restore 3 (some .int) 1 := ⟨⟨uw_in (i := 845) (by decide +kernel) (by decide +kernel), wi_X7, wc_X7_restore, by decide +kernel⟩, wn_X7_restore, ws_X7_restore⟩
theorem wv_L_76 : pWV RL 76 yX7_undo cX7_undo 2 (some .int) 0 := ⟨⟨uw_in (i := 849) (by decide +kernel) (by decide +kernel), wi_X7, wc_X7_undo, by decide +kernel⟩, wn_X7_undo, ws_X7_undo⟩
theorem wv_L_80 : pWV RL 80 yX7_append cX7_append 2 (some .int) 1 := ⟨⟨uw_in (i := 853) (by decide +kernel) (by decide +kernel), wi_X7, wc_X7_append, by decide +kernel⟩, wn_X7_append, ws_X7_append⟩
theorem wv_L_84 : pWV RL 84 yX7_clearText cX7_clearText 2 (some .int) 0 := ⟨⟨uw_in (i := 857) (by decide +kernel) (by decide +kernel), wi_X7, wc_X7_clearText, by decide +kernel⟩, wn_X7_clearText, ws_X7_clearText⟩
theorem wv_L_88 : pWV RL 88 yX7_run cX7_run 4 (some .int) 0 := ⟨⟨uw_in (i := 861) (by decide +kernel) (by decide +kernel), wi_X7, wc_X7_run, by decide +kernel⟩, wn_X7_run, ws_X7_run⟩
theorem wv_X7_161 : pWV RX7 161 yX7_readsAll cX7_readsAll 2 (some .int) 0 := ⟨⟨uw_in (i := 865) (by decide +kernel) (by decide +kernel), wi_X7, wc_X7_readsAll, by decide +kernel⟩, wn_X7_readsAll, ws_X7_readsAll⟩
theorem wv_X7_121 : pWV RX7 121 yX7_token cX7_token 2 none 0 := ⟨⟨uw_in (i := 869) (by decide +kernel) (by decide +kernel), wi_X7, wc_X7_token, by decide +kernel⟩, wn_X7_token, ws_X7_token⟩
theorem wv_X7_111 : pWS RX7 111 yX7_kindOf cX7_kindOf 1 (some .int) 1 := ⟨⟨uw_in (i := 873) (by decide +kernel) (by decide +kernel), wi_X7, wc_X7_kindOf, by decide +kernel⟩, wt_X7_kindOf⟩
theorem wv_X7_158 : pWV RX7 158 yX7_readsOne cX7_readsOne 5 (some .int) 0 := ⟨⟨uw_in (i := 876) (by decide +kernel) (by decide +kernel), wi_X7, wc_X7_readsOne, by decide +kernel⟩, wn_X7_readsOne, ws_X7_readsOne⟩
theorem wv_X7_146 : pWV RX7 146 yX7_command cX7_command 1 (some .int) 0 := ⟨⟨uw_in (i := 880) (by decide +kernel) (by decide +kernel), wi_X7, wc_X7_command, by decide +kernel⟩, wn_X7_command, ws_X7_command⟩
theorem wv_X7_117 : pWV RX7 117 yX7_isWord cX7_isWord 9 (some .boolean) 5 := ⟨⟨uw_in (i := 884) (by decide +kernel) (by decide +kernel), wi_X7, wc_X7_isWord, by decide +kernel⟩, wn_X7_isWord, ws_X7_isWord⟩
theorem wv_X7_149 : pWV RX7 149 yX7_isNumber cX7_isNumber 4 (some .boolean) 1 := ⟨⟨uw_in (i := 888) (by decide +kernel) (by decide +kernel), wi_X7, wc_X7_isNumber, by decide +kernel⟩, wn_X7_isNumber, ws_X7_isNumber⟩
theorem wv_X7_152 : pWV RX7 152 yX7_does cX7_does 2 (some .int) 1 := ⟨⟨uw_in (i := 892) (by decide +kernel) (by decide +kernel), wi_X7, wc_X7_does, by decide +kernel⟩, wn_X7_does, ws_X7_does⟩
theorem wv_X7_124 : pWV RX7 124 yX7_come cX7_come 4 (some .int) 1 := ⟨⟨uw_in (i := 896) (by decide +kernel) (by decide +kernel), wi_X7, wc_X7_come, by decide +kernel⟩, wn_X7_come, ws_X7_come⟩
theorem wv_X7_127 : pWV RX7 127 yX7_addBank cX7_addBank 5 (some .int) 2 := ⟨⟨uw_in (i := 897) (by decide +kernel) (by decide +kernel), wi_X7, wc_X7_addBank, by decide +kernel⟩, wn_X7_addBank, ws_X7_addBank⟩
theorem wv_X7_130 : pWV RX7 130 yX7_grant cX7_grant 5 (some .int) 3 := ⟨⟨uw_in (i := 898) (by decide +kernel) (by decide +kernel), wi_X7, wc_X7_grant, by decide +kernel⟩, wn_X7_grant, ws_X7_grant⟩
theorem wv_X7_134 : pWV RX7 134 yX7_cut cX7_cut 5 (some .int) 3 := ⟨⟨uw_in (i := 899) (by decide +kernel) (by decide +kernel), wi_X7, wc_X7_cut, by decide +kernel⟩, wn_X7_cut, ws_X7_cut⟩
theorem wv_X7_137 : pWV RX7 137 yX7_turn cX7_turn 2 (some .int) 1 := ⟨⟨uw_in (i := 900) (by decide +kernel) (by decide +kernel), wi_X7, wc_X7_turn, by decide +kernel⟩, wn_X7_turn, ws_X7_turn⟩
theorem wv_X7_140 : pWV RX7 140 yX7_cart cX7_cart 5 (some .int) 2 := ⟨⟨uw_in (i := 901) (by decide +kernel) (by decide +kernel), wi_X7, wc_X7_cart, by decide +kernel⟩, wn_X7_cart, ws_X7_cart⟩
theorem wv_X7_143 : pWV RX7 143 yX7_day cX7_day 4 (some .int) 2 := ⟨⟨uw_in (i := 902) (by decide +kernel) (by decide +kernel), wi_X7, wc_X7_day, by decide +kernel⟩, wn_X7_day, ws_X7_day⟩
theorem wv_L_92 : pWV RL 92 yX7_count cX7_count 2 (some .int) 1 := ⟨⟨uw_in (i := 903) (by decide +kernel) (by decide +kernel), wi_X7, wc_X7_count, by decide +kernel⟩, wn_X7_count, ws_X7_count⟩
theorem wv_L_96 : pWV RL 96 yX7_household cX7_household 3 (some .int) 2 := ⟨⟨uw_in (i := 907) (by decide +kernel) (by decide +kernel), wi_X7, wc_X7_household, by decide +kernel⟩, wn_X7_household, ws_X7_household⟩
theorem wv_X7_164 : pWV RX7 164 yX7_banksOf cX7_banksOf 4 (some .int) 1 := ⟨⟨uw_in (i := 911) (by decide +kernel) (by decide +kernel), wi_X7, wc_X7_banksOf, by decide +kernel⟩, wn_X7_banksOf, ws_X7_banksOf⟩
theorem wv_X7_167 : pWV RX7 167 yX7_stacksOf cX7_stacksOf 5 (some .int) 2 := ⟨⟨uw_in (i := 915) (by decide +kernel) (by decide +kernel), wi_X7, wc_X7_stacksOf, by decide +kernel⟩, wn_X7_stacksOf, ws_X7_stacksOf⟩
theorem wv_L_100 : pWV RL 100 yX7_bank cX7_bank 3 (some .int) 2 := ⟨⟨uw_in (i := 919) (by decide +kernel) (by decide +kernel), wi_X7, wc_X7_bank, by decide +kernel⟩, wn_X7_bank, ws_X7_bank⟩
theorem wv_X7_171 : pWV RX7 171 yX7_turfsAt cX7_turfsAt 4 (some .int) 1 := ⟨⟨uw_in (i := 923) (by decide +kernel) (by decide +kernel), wi_X7, wc_X7_turfsAt, by decide +kernel⟩, wn_X7_turfsAt, ws_X7_turfsAt⟩
theorem wv_L_104 : pWV RL 104 yX7_right cX7_right 4 (some .int) 3 := ⟨⟨uw_in (i := 927) (by decide +kernel) (by decide +kernel), wi_X7, wc_X7_right, by decide +kernel⟩, wn_X7_right, ws_X7_right⟩
theorem wv_L_108 : pWV RL 108 yX7_stack cX7_stack 3 (some .int) 2 := ⟨⟨uw_in (i := 931) (by decide +kernel) (by decide +kernel), wi_X7, wc_X7_stack, by decide +kernel⟩, wn_X7_stack, ws_X7_stack⟩
theorem wv_L_112 : pWV RL 112 yX7_dryIn cX7_dryIn 6 (some .int) 3 := ⟨⟨uw_in (i := 935) (by decide +kernel) (by decide +kernel), wi_X7, wc_X7_dryIn, by decide +kernel⟩, wn_X7_dryIn, ws_X7_dryIn⟩
theorem wv_L_116 : pWV RL 116 yX7_cartLoad cX7_cartLoad 3 (some .int) 1 := ⟨⟨uw_in (i := 939) (by decide +kernel) (by decide +kernel), wi_X7, wc_X7_cartLoad, by decide +kernel⟩, wn_X7_cartLoad, ws_X7_cartLoad⟩
theorem wv_X7_174 : pWV RX7 174 yX7_most cX7_most 5 (some .int) 3 := ⟨⟨uw_in (i := 943) (by decide +kernel) (by decide +kernel), wi_X7, wc_X7_most, by decide +kernel⟩, wn_X7_most, ws_X7_most⟩
theorem wv_L_120 : pWV RL 120 yX7_carts cX7_carts 7 (some .int) 1 := ⟨⟨uw_in (i := 947) (by decide +kernel) (by decide +kernel), wi_X7, wc_X7_carts, by decide +kernel⟩, wn_X7_carts, ws_X7_carts⟩
theorem wv_L_124 : pWV RL 124 yX7_worth cX7_worth 5 (some .int) 2 := ⟨⟨uw_in (i := 951) (by decide +kernel) (by decide +kernel), wi_X7, wc_X7_worth, by decide +kernel⟩, wn_X7_worth, ws_X7_worth⟩
theorem wv_L_128 : pWV RL 128 yX7_nextToCut cX7_nextToCut 6 (some .int) 1 := ⟨⟨uw_in (i := 957) (by decide +kernel) (by decide +kernel), wi_X7, wc_X7_nextToCut, by decide +kernel⟩, wn_X7_nextToCut, ws_X7_nextToCut⟩
theorem wv_X2_48 : pWN RX2 48 yX1_init RX6 cX1_init 1 none 0 ∧ yX1_init.name = "<init>" ∧ Cond.instanceMethod yX1_init ∈ uw := ⟨⟨by simp [pNest], wi_X1, wc_X1_init, by decide +kernel⟩, rfl, wn_X1_init⟩
theorem wv_X2_49 : pWN RX2 49 yX0_init RX6 cX0_init 1 none 0 ∧ yX0_init.name = "<init>" ∧ Cond.instanceMethod yX0_init ∈ uw := ⟨⟨by simp [pNest], wi_X0, wc_X0_init, by decide +kernel⟩, rfl, wn_X0_init⟩
theorem wv_X2_50 : pWN RX2 50 yX5_init RX6 cX5_init 1 none 0 ∧ yX5_init.name = "<init>" ∧ Cond.instanceMethod yX5_init ∈ uw := ⟨⟨by simp [pNest], wi_X5, wc_X5_init, by decide +kernel⟩, rfl, wn_X5_init⟩
theorem wv_X6_29 : pWN RX6 29 yX3_init RX6 cX3_init 1 none 0 ∧ yX3_init.name = "<init>" ∧ Cond.instanceMethod yX3_init ∈ uw := ⟨⟨by simp [pNest], wi_X3, wc_X3_init, by decide +kernel⟩, rfl, wn_X3_init⟩
theorem wv_X2_61 : pWN RX2 61 yX6_isWithin RX6 cX6_isWithin 3 (some .boolean) 3 ∧ Cond.static yX6_isWithin ∈ uw := ⟨⟨by simp [pNest], wi_X6, wc_X6_isWithin, by decide +kernel⟩, wt_X6_isWithin⟩
theorem wv_X4_30 : pWN RX4 30 yX6_isWithin RX6 cX6_isWithin 3 (some .boolean) 3 ∧ Cond.static yX6_isWithin ∈ uw := ⟨⟨by simp [pNest], wi_X6, wc_X6_isWithin, by decide +kernel⟩, wt_X6_isWithin⟩
theorem wv_X3_29 : pWN RX3 29 yX6_isWithin RX6 cX6_isWithin 3 (some .boolean) 3 ∧ Cond.static yX6_isWithin ∈ uw := ⟨⟨by simp [pNest], wi_X6, wc_X6_isWithin, by decide +kernel⟩, wt_X6_isWithin⟩
theorem wk_L_7 : Cond.classLink RL 7 RX6 ∈ uw := uw_in (i := 14) (by decide +kernel) (by decide +kernel)
theorem wk_X6_7 : Cond.classLink RX6 7 RX4 ∈ uw := uw_in (i := 22) (by decide +kernel) (by decide +kernel)
theorem wk_X4_9 : Cond.classLink RX4 9 RX2 ∈ uw := uw_in (i := 28) (by decide +kernel) (by decide +kernel)
theorem wk_X2_30 : Cond.classLink RX2 30 RX1 ∈ uw := uw_in (i := 34) (by decide +kernel) (by decide +kernel)
theorem wk_X2_36 : Cond.classLink RX2 36 RX0 ∈ uw := uw_in (i := 36) (by decide +kernel) (by decide +kernel)
theorem wk_X2_42 : Cond.classLink RX2 42 RX5 ∈ uw := uw_in (i := 38) (by decide +kernel) (by decide +kernel)
theorem wk_X6_27 : Cond.classLink RX6 27 RX3 ∈ uw := uw_in (i := 172) (by decide +kernel) (by decide +kernel)
theorem wk_L_10 : Cond.classLink RL 10 RX7 ∈ uw := uw_in (i := 672) (by decide +kernel) (by decide +kernel)
theorem wx_X6 : Cond.instantiable RX6 5 ∈ uw := uw_in (i := 15) (by decide +kernel) (by decide +kernel)
theorem wx_X4 : Cond.instantiable RX4 3 ∈ uw := uw_in (i := 23) (by decide +kernel) (by decide +kernel)
theorem wx_X2 : Cond.instantiable RX2 9 ∈ uw := uw_in (i := 29) (by decide +kernel) (by decide +kernel)
theorem wx_X1 : Cond.instantiable RX1 3 ∈ uw := uw_in (i := 40) (by decide +kernel) (by decide +kernel)
theorem wx_X0 : Cond.instantiable RX0 8 ∈ uw := uw_in (i := 58) (by decide +kernel) (by decide +kernel)
theorem wx_X5 : Cond.instantiable RX5 5 ∈ uw := uw_in (i := 98) (by decide +kernel) (by decide +kernel)
theorem wx_X3 : Cond.instantiable RX3 5 ∈ uw := uw_in (i := 173) (by decide +kernel) (by decide +kernel)
theorem wx_X7 : Cond.instantiable RX7 12 ∈ uw := uw_in (i := 673) (by decide +kernel) (by decide +kernel)
theorem wq_X2_122 : Cond.constant RX2 122 100000 ∈ uw := uw_in (i := 311) (by decide +kernel) (by decide +kernel)
theorem wq_X5_37 : Cond.constantDouble RX5 37 4634204016564240384 ∈ uw := uw_in (i := 397) (by decide +kernel) (by decide +kernel)
theorem wq_X5_39 : Cond.constant RX5 39 100000 ∈ uw := uw_in (i := 398) (by decide +kernel) (by decide +kernel)
theorem wq_X2_202 : Cond.constant RX2 202 2000000000 ∈ uw := uw_in (i := 662) (by decide +kernel) (by decide +kernel)
theorem wq_X2_203 : Cond.constantLong RX2 203 2147483647 ∈ uw := uw_in (i := 663) (by decide +kernel) (by decide +kernel)
theorem wq_X7_71 : Cond.constant RX7 71 100000 ∈ uw := uw_in (i := 781) (by decide +kernel) (by decide +kernel)
theorem wq_X7_177 : Cond.constant RX7 177 2000000000 ∈ uw := uw_in (i := 955) (by decide +kernel) (by decide +kernel)
theorem wq_X7_178 : Cond.constantLong RX7 178 2147483647 ∈ uw := uw_in (i := 956) (by decide +kernel) (by decide +kernel)
theorem wa_boolean : Cond.arrayClass .boolean ∈ uw := uw_in (i := 96) (by decide +kernel) (by decide +kernel)
theorem wa_int : Cond.arrayClass .int ∈ uw := uw_in (i := 97) (by decide +kernel) (by decide +kernel)
theorem wa_char : Cond.arrayClass .char ∈ uw := uw_in (i := 195) (by decide +kernel) (by decide +kernel)
theorem wa_byte : Cond.arrayClass .byte ∈ uw := uw_in (i := 558) (by decide +kernel) (by decide +kernel)
theorem inU0 : ∀ w ∈ u_ws RX0 TX0 8, w ∈ uw := by
  intro w hw
  obtain ⟨k, hk, rfl⟩ := List.mem_map.mp hw
  have hk := List.mem_range.mp hk
  match k, hk with
  | 0, _ => exact uw_in (i := 79) (by decide +kernel) (by decide +kernel)
  | 1, _ => exact uw_in (i := 81) (by decide +kernel) (by decide +kernel)
  | 2, _ => exact uw_in (i := 83) (by decide +kernel) (by decide +kernel)
  | 3, _ => exact uw_in (i := 85) (by decide +kernel) (by decide +kernel)
  | 4, _ => exact uw_in (i := 87) (by decide +kernel) (by decide +kernel)
  | 5, _ => exact uw_in (i := 89) (by decide +kernel) (by decide +kernel)
  | 6, _ => exact uw_in (i := 91) (by decide +kernel) (by decide +kernel)
  | 7, _ => exact uw_in (i := 93) (by decide +kernel) (by decide +kernel)
theorem inU1 : ∀ w ∈ u_ws RX1 TX1 3, w ∈ uw := by
  intro w hw
  obtain ⟨k, hk, rfl⟩ := List.mem_map.mp hw
  have hk := List.mem_range.mp hk
  match k, hk with
  | 0, _ => exact uw_in (i := 51) (by decide +kernel) (by decide +kernel)
  | 1, _ => exact uw_in (i := 53) (by decide +kernel) (by decide +kernel)
  | 2, _ => exact uw_in (i := 55) (by decide +kernel) (by decide +kernel)
theorem inU2 : ∀ w ∈ u_ws RX2 TX2 9, w ∈ uw := by
  intro w hw
  obtain ⟨k, hk, rfl⟩ := List.mem_map.mp hw
  have hk := List.mem_range.mp hk
  match k, hk with
  | 0, _ => exact uw_in (i := 140) (by decide +kernel) (by decide +kernel)
  | 1, _ => exact uw_in (i := 142) (by decide +kernel) (by decide +kernel)
  | 2, _ => exact uw_in (i := 144) (by decide +kernel) (by decide +kernel)
  | 3, _ => exact uw_in (i := 146) (by decide +kernel) (by decide +kernel)
  | 4, _ => exact uw_in (i := 148) (by decide +kernel) (by decide +kernel)
  | 5, _ => exact uw_in (i := 150) (by decide +kernel) (by decide +kernel)
  | 6, _ => exact uw_in (i := 152) (by decide +kernel) (by decide +kernel)
  | 7, _ => exact uw_in (i := 154) (by decide +kernel) (by decide +kernel)
  | 8, _ => exact uw_in (i := 156) (by decide +kernel) (by decide +kernel)
theorem inU3 : ∀ w ∈ u_ws RX3 TX3 5, w ∈ uw := by
  intro w hw
  obtain ⟨k, hk, rfl⟩ := List.mem_map.mp hw
  have hk := List.mem_range.mp hk
  match k, hk with
  | 0, _ => exact uw_in (i := 184) (by decide +kernel) (by decide +kernel)
  | 1, _ => exact uw_in (i := 186) (by decide +kernel) (by decide +kernel)
  | 2, _ => exact uw_in (i := 188) (by decide +kernel) (by decide +kernel)
  | 3, _ => exact uw_in (i := 190) (by decide +kernel) (by decide +kernel)
  | 4, _ => exact uw_in (i := 192) (by decide +kernel) (by decide +kernel)
theorem inU4 : ∀ w ∈ u_ws RX4 TX4 3, w ∈ uw := by
  intro w hw
  obtain ⟨k, hk, rfl⟩ := List.mem_map.mp hw
  have hk := List.mem_range.mp hk
  match k, hk with
  | 0, _ => exact uw_in (i := 164) (by decide +kernel) (by decide +kernel)
  | 1, _ => exact uw_in (i := 166) (by decide +kernel) (by decide +kernel)
  | 2, _ => exact uw_in (i := 168) (by decide +kernel) (by decide +kernel)
theorem inU5 : ∀ w ∈ u_ws RX5 TX5 5, w ∈ uw := by
  intro w hw
  obtain ⟨k, hk, rfl⟩ := List.mem_map.mp hw
  have hk := List.mem_range.mp hk
  match k, hk with
  | 0, _ => exact uw_in (i := 113) (by decide +kernel) (by decide +kernel)
  | 1, _ => exact uw_in (i := 115) (by decide +kernel) (by decide +kernel)
  | 2, _ => exact uw_in (i := 117) (by decide +kernel) (by decide +kernel)
  | 3, _ => exact uw_in (i := 119) (by decide +kernel) (by decide +kernel)
  | 4, _ => exact uw_in (i := 121) (by decide +kernel) (by decide +kernel)
theorem inU6 : ∀ w ∈ u_ws RX6 TX6 5, w ∈ uw := by
  intro w hw
  obtain ⟨k, hk, rfl⟩ := List.mem_map.mp hw
  have hk := List.mem_range.mp hk
  match k, hk with
  | 0, _ => exact uw_in (i := 201) (by decide +kernel) (by decide +kernel)
  | 1, _ => exact uw_in (i := 203) (by decide +kernel) (by decide +kernel)
  | 2, _ => exact uw_in (i := 205) (by decide +kernel) (by decide +kernel)
  | 3, _ => exact uw_in (i := 207) (by decide +kernel) (by decide +kernel)
  | 4, _ => exact uw_in (i := 209) (by decide +kernel) (by decide +kernel)
theorem inU7 : ∀ w ∈ u_ws RX7 TX7 12, w ∈ uw := by
  intro w hw
  obtain ⟨k, hk, rfl⟩ := List.mem_map.mp hw
  have hk := List.mem_range.mp hk
  match k, hk with
  | 0, _ => exact uw_in (i := 690) (by decide +kernel) (by decide +kernel)
  | 1, _ => exact uw_in (i := 692) (by decide +kernel) (by decide +kernel)
  | 2, _ => exact uw_in (i := 694) (by decide +kernel) (by decide +kernel)
  | 3, _ => exact uw_in (i := 696) (by decide +kernel) (by decide +kernel)
  | 4, _ => exact uw_in (i := 698) (by decide +kernel) (by decide +kernel)
  | 5, _ => exact uw_in (i := 700) (by decide +kernel) (by decide +kernel)
  | 6, _ => exact uw_in (i := 702) (by decide +kernel) (by decide +kernel)
  | 7, _ => exact uw_in (i := 704) (by decide +kernel) (by decide +kernel)
  | 8, _ => exact uw_in (i := 706) (by decide +kernel) (by decide +kernel)
  | 9, _ => exact uw_in (i := 708) (by decide +kernel) (by decide +kernel)
  | 10, _ => exact uw_in (i := 710) (by decide +kernel) (by decide +kernel)
  | 11, _ => exact uw_in (i := 712) (by decide +kernel) (by decide +kernel)
section PVF
variable {p : Program} {l : Launch} {e : Env} {R : Room} {s : State} {m : MethodId} {args : Array Value} {below : List Frame} {meth : Method} {c : Code} {cc : ByteArray} {nL : Nat} {E : pE} {A : Nat → Prop} {Q : State → Prop} {z : Nat} {h : pH} {k n : Nat} {pc : Nat} {L : List (Option Value)} {st : List Value}
theorem wf_X1_7 : Cond.fieldLink RX1 7 (TX1 0).1 (TX1 0).2.1 (TX1 0).2.2.1 ∈ uw := uw_in (i := 45) (by decide +kernel) (by decide +kernel)
theorem g_X1_7 (X : pCx p s m args c cc nL RX1 E A) {a0 : Nat} {fs : List Value} {v : Value} (hd : decode cc pc = .ok (.getfield 7, 3)) (hh : h a0 = some (ob 1 fs)) (kk : pV p l e R s m args below meth c nL E A Q z h k n (pc + 3) L (v :: st)) (hv : fs[0]? = some v := by rfl) : pV p l e R s m args below meth c nL E A Q z h k n pc L (.ref a0 :: st) := v_get (T := TX1) (ci := 1) (kf := 0) X hd inU1 rfl (by decide) wf_X1_7 hh hv kk
theorem p_X1_7 (X : pCx p s m args c cc nL RX1 E A) {a0 : Nat} {fs fs1 : List Value} {x : Int32} (hd : decode cc pc = .ok (.putfield 7, 3)) (hh : h a0 = some (ob 1 fs)) (kk : pV p l e R s m args below meth c nL E A Q z (pset h a0 (ob 1 fs1)) k n (pc + 3) L st) (hl : 0 < fs.length := by exact Nat.le_of_ble_eq_true rfl) (hfs : fs.set 0 (.int x) = fs1 := by rfl) : pV p l e R s m args below meth c nL E A Q z h k n pc L (.int x :: .ref a0 :: st) := by
  subst hfs
  exact v_put (T := TX1) (ci := 1) (kf := 0) X hd inU1 tyX1 tyX1_ok nmX1 rfl (by decide) wf_X1_7 rfl (ty := .int) (by decide +kernel) rfl rfl hh hl kk
theorem wf_X2_65 : Cond.fieldLink RX2 65 (TX1 0).1 (TX1 0).2.1 (TX1 0).2.2.1 ∈ uw := uw_in (i := 46) (by decide +kernel) (by decide +kernel)
theorem g_X2_65 (X : pCx p s m args c cc nL RX2 E A) {a0 : Nat} {fs : List Value} {v : Value} (hd : decode cc pc = .ok (.getfield 65, 3)) (hh : h a0 = some (ob 1 fs)) (kk : pV p l e R s m args below meth c nL E A Q z h k n (pc + 3) L (v :: st)) (hv : fs[0]? = some v := by rfl) : pV p l e R s m args below meth c nL E A Q z h k n pc L (.ref a0 :: st) := v_get (T := TX1) (ci := 1) (kf := 0) X hd inU1 rfl (by decide) wf_X2_65 hh hv kk
theorem p_X2_65 (X : pCx p s m args c cc nL RX2 E A) {a0 : Nat} {fs fs1 : List Value} {x : Int32} (hd : decode cc pc = .ok (.putfield 65, 3)) (hh : h a0 = some (ob 1 fs)) (kk : pV p l e R s m args below meth c nL E A Q z (pset h a0 (ob 1 fs1)) k n (pc + 3) L st) (hl : 0 < fs.length := by exact Nat.le_of_ble_eq_true rfl) (hfs : fs.set 0 (.int x) = fs1 := by rfl) : pV p l e R s m args below meth c nL E A Q z h k n pc L (.int x :: .ref a0 :: st) := by
  subst hfs
  exact v_put (T := TX1) (ci := 1) (kf := 0) X hd inU1 tyX1 tyX1_ok nmX1 rfl (by decide) wf_X2_65 rfl (ty := .int) (by decide +kernel) rfl rfl hh hl kk
theorem wf_X1_13 : Cond.fieldLink RX1 13 (TX1 1).1 (TX1 1).2.1 (TX1 1).2.2.1 ∈ uw := uw_in (i := 47) (by decide +kernel) (by decide +kernel)
theorem g_X1_13 (X : pCx p s m args c cc nL RX1 E A) {a0 : Nat} {fs : List Value} {v : Value} (hd : decode cc pc = .ok (.getfield 13, 3)) (hh : h a0 = some (ob 1 fs)) (kk : pV p l e R s m args below meth c nL E A Q z h k n (pc + 3) L (v :: st)) (hv : fs[1]? = some v := by rfl) : pV p l e R s m args below meth c nL E A Q z h k n pc L (.ref a0 :: st) := v_get (T := TX1) (ci := 1) (kf := 1) X hd inU1 rfl (by decide) wf_X1_13 hh hv kk
theorem p_X1_13 (X : pCx p s m args c cc nL RX1 E A) {a0 : Nat} {fs fs1 : List Value} {x : Int32} (hd : decode cc pc = .ok (.putfield 13, 3)) (hh : h a0 = some (ob 1 fs)) (kk : pV p l e R s m args below meth c nL E A Q z (pset h a0 (ob 1 fs1)) k n (pc + 3) L st) (hl : 1 < fs.length := by exact Nat.le_of_ble_eq_true rfl) (hfs : fs.set 1 (.int x) = fs1 := by rfl) : pV p l e R s m args below meth c nL E A Q z h k n pc L (.int x :: .ref a0 :: st) := by
  subst hfs
  exact v_put (T := TX1) (ci := 1) (kf := 1) X hd inU1 tyX1 tyX1_ok nmX1 rfl (by decide) wf_X1_13 rfl (ty := .int) (by decide +kernel) rfl rfl hh hl kk
theorem wf_X2_172 : Cond.fieldLink RX2 172 (TX1 1).1 (TX1 1).2.1 (TX1 1).2.2.1 ∈ uw := uw_in (i := 48) (by decide +kernel) (by decide +kernel)
theorem g_X2_172 (X : pCx p s m args c cc nL RX2 E A) {a0 : Nat} {fs : List Value} {v : Value} (hd : decode cc pc = .ok (.getfield 172, 3)) (hh : h a0 = some (ob 1 fs)) (kk : pV p l e R s m args below meth c nL E A Q z h k n (pc + 3) L (v :: st)) (hv : fs[1]? = some v := by rfl) : pV p l e R s m args below meth c nL E A Q z h k n pc L (.ref a0 :: st) := v_get (T := TX1) (ci := 1) (kf := 1) X hd inU1 rfl (by decide) wf_X2_172 hh hv kk
theorem p_X2_172 (X : pCx p s m args c cc nL RX2 E A) {a0 : Nat} {fs fs1 : List Value} {x : Int32} (hd : decode cc pc = .ok (.putfield 172, 3)) (hh : h a0 = some (ob 1 fs)) (kk : pV p l e R s m args below meth c nL E A Q z (pset h a0 (ob 1 fs1)) k n (pc + 3) L st) (hl : 1 < fs.length := by exact Nat.le_of_ble_eq_true rfl) (hfs : fs.set 1 (.int x) = fs1 := by rfl) : pV p l e R s m args below meth c nL E A Q z h k n pc L (.int x :: .ref a0 :: st) := by
  subst hfs
  exact v_put (T := TX1) (ci := 1) (kf := 1) X hd inU1 tyX1 tyX1_ok nmX1 rfl (by decide) wf_X2_172 rfl (ty := .int) (by decide +kernel) rfl rfl hh hl kk
theorem wf_X1_16 : Cond.fieldLink RX1 16 (TX1 2).1 (TX1 2).2.1 (TX1 2).2.2.1 ∈ uw := uw_in (i := 49) (by decide +kernel) (by decide +kernel)
theorem g_X1_16 (X : pCx p s m args c cc nL RX1 E A) {a0 : Nat} {fs : List Value} {v : Value} (hd : decode cc pc = .ok (.getfield 16, 3)) (hh : h a0 = some (ob 1 fs)) (kk : pV p l e R s m args below meth c nL E A Q z h k n (pc + 3) L (v :: st)) (hv : fs[2]? = some v := by rfl) : pV p l e R s m args below meth c nL E A Q z h k n pc L (.ref a0 :: st) := v_get (T := TX1) (ci := 1) (kf := 2) X hd inU1 rfl (by decide) wf_X1_16 hh hv kk
theorem p_X1_16 (X : pCx p s m args c cc nL RX1 E A) {a0 : Nat} {fs fs1 : List Value} {x : Int32} (hd : decode cc pc = .ok (.putfield 16, 3)) (hh : h a0 = some (ob 1 fs)) (kk : pV p l e R s m args below meth c nL E A Q z (pset h a0 (ob 1 fs1)) k n (pc + 3) L st) (hl : 2 < fs.length := by exact Nat.le_of_ble_eq_true rfl) (hfs : fs.set 2 (.int x) = fs1 := by rfl) : pV p l e R s m args below meth c nL E A Q z h k n pc L (.int x :: .ref a0 :: st) := by
  subst hfs
  exact v_put (T := TX1) (ci := 1) (kf := 2) X hd inU1 tyX1 tyX1_ok nmX1 rfl (by decide) wf_X1_16 rfl (ty := .int) (by decide +kernel) rfl rfl hh hl kk
theorem wf_X2_175 : Cond.fieldLink RX2 175 (TX1 2).1 (TX1 2).2.1 (TX1 2).2.2.1 ∈ uw := uw_in (i := 50) (by decide +kernel) (by decide +kernel)
theorem g_X2_175 (X : pCx p s m args c cc nL RX2 E A) {a0 : Nat} {fs : List Value} {v : Value} (hd : decode cc pc = .ok (.getfield 175, 3)) (hh : h a0 = some (ob 1 fs)) (kk : pV p l e R s m args below meth c nL E A Q z h k n (pc + 3) L (v :: st)) (hv : fs[2]? = some v := by rfl) : pV p l e R s m args below meth c nL E A Q z h k n pc L (.ref a0 :: st) := v_get (T := TX1) (ci := 1) (kf := 2) X hd inU1 rfl (by decide) wf_X2_175 hh hv kk
theorem p_X2_175 (X : pCx p s m args c cc nL RX2 E A) {a0 : Nat} {fs fs1 : List Value} {x : Int32} (hd : decode cc pc = .ok (.putfield 175, 3)) (hh : h a0 = some (ob 1 fs)) (kk : pV p l e R s m args below meth c nL E A Q z (pset h a0 (ob 1 fs1)) k n (pc + 3) L st) (hl : 2 < fs.length := by exact Nat.le_of_ble_eq_true rfl) (hfs : fs.set 2 (.int x) = fs1 := by rfl) : pV p l e R s m args below meth c nL E A Q z h k n pc L (.int x :: .ref a0 :: st) := by
  subst hfs
  exact v_put (T := TX1) (ci := 1) (kf := 2) X hd inU1 tyX1 tyX1_ok nmX1 rfl (by decide) wf_X2_175 rfl (ty := .int) (by decide +kernel) rfl rfl hh hl kk
theorem wf_X0_9 : Cond.fieldLink RX0 9 (TX0 0).1 (TX0 0).2.1 (TX0 0).2.2.1 ∈ uw := uw_in (i := 63) (by decide +kernel) (by decide +kernel)
theorem g_X0_9 (X : pCx p s m args c cc nL RX0 E A) {a0 : Nat} {fs : List Value} {v : Value} (hd : decode cc pc = .ok (.getfield 9, 3)) (hh : h a0 = some (ob 0 fs)) (kk : pV p l e R s m args below meth c nL E A Q z h k n (pc + 3) L (v :: st)) (hv : fs[0]? = some v := by rfl) : pV p l e R s m args below meth c nL E A Q z h k n pc L (.ref a0 :: st) := v_get (T := TX0) (ci := 0) (kf := 0) X hd inU0 rfl (by decide) wf_X0_9 hh hv kk
theorem p_X0_9 (X : pCx p s m args c cc nL RX0 E A) {a0 : Nat} {fs fs1 : List Value} {x : Int32} (hd : decode cc pc = .ok (.putfield 9, 3)) (hh : h a0 = some (ob 0 fs)) (kk : pV p l e R s m args below meth c nL E A Q z (pset h a0 (ob 0 fs1)) k n (pc + 3) L st) (hl : 0 < fs.length := by exact Nat.le_of_ble_eq_true rfl) (hfs : fs.set 0 (.int x) = fs1 := by rfl) : pV p l e R s m args below meth c nL E A Q z h k n pc L (.int x :: .ref a0 :: st) := by
  subst hfs
  exact v_put (T := TX0) (ci := 0) (kf := 0) X hd inU0 tyX0 tyX0_ok nmX0 rfl (by decide) wf_X0_9 rfl (ty := .int) (by decide +kernel) rfl rfl hh hl kk
theorem wf_X2_72 : Cond.fieldLink RX2 72 (TX0 0).1 (TX0 0).2.1 (TX0 0).2.2.1 ∈ uw := uw_in (i := 64) (by decide +kernel) (by decide +kernel)
theorem g_X2_72 (X : pCx p s m args c cc nL RX2 E A) {a0 : Nat} {fs : List Value} {v : Value} (hd : decode cc pc = .ok (.getfield 72, 3)) (hh : h a0 = some (ob 0 fs)) (kk : pV p l e R s m args below meth c nL E A Q z h k n (pc + 3) L (v :: st)) (hv : fs[0]? = some v := by rfl) : pV p l e R s m args below meth c nL E A Q z h k n pc L (.ref a0 :: st) := v_get (T := TX0) (ci := 0) (kf := 0) X hd inU0 rfl (by decide) wf_X2_72 hh hv kk
theorem p_X2_72 (X : pCx p s m args c cc nL RX2 E A) {a0 : Nat} {fs fs1 : List Value} {x : Int32} (hd : decode cc pc = .ok (.putfield 72, 3)) (hh : h a0 = some (ob 0 fs)) (kk : pV p l e R s m args below meth c nL E A Q z (pset h a0 (ob 0 fs1)) k n (pc + 3) L st) (hl : 0 < fs.length := by exact Nat.le_of_ble_eq_true rfl) (hfs : fs.set 0 (.int x) = fs1 := by rfl) : pV p l e R s m args below meth c nL E A Q z h k n pc L (.int x :: .ref a0 :: st) := by
  subst hfs
  exact v_put (T := TX0) (ci := 0) (kf := 0) X hd inU0 tyX0 tyX0_ok nmX0 rfl (by decide) wf_X2_72 rfl (ty := .int) (by decide +kernel) rfl rfl hh hl kk
theorem wf_X0_15 : Cond.fieldLink RX0 15 (TX0 1).1 (TX0 1).2.1 (TX0 1).2.2.1 ∈ uw := uw_in (i := 65) (by decide +kernel) (by decide +kernel)
theorem g_X0_15 (X : pCx p s m args c cc nL RX0 E A) {a0 : Nat} {fs : List Value} {v : Value} (hd : decode cc pc = .ok (.getfield 15, 3)) (hh : h a0 = some (ob 0 fs)) (kk : pV p l e R s m args below meth c nL E A Q z h k n (pc + 3) L (v :: st)) (hv : fs[1]? = some v := by rfl) : pV p l e R s m args below meth c nL E A Q z h k n pc L (.ref a0 :: st) := v_get (T := TX0) (ci := 0) (kf := 1) X hd inU0 rfl (by decide) wf_X0_15 hh hv kk
theorem p_X0_15 (X : pCx p s m args c cc nL RX0 E A) {a0 : Nat} {fs fs1 : List Value} {x : Int32} (hd : decode cc pc = .ok (.putfield 15, 3)) (hh : h a0 = some (ob 0 fs)) (kk : pV p l e R s m args below meth c nL E A Q z (pset h a0 (ob 0 fs1)) k n (pc + 3) L st) (hl : 1 < fs.length := by exact Nat.le_of_ble_eq_true rfl) (hfs : fs.set 1 (.int x) = fs1 := by rfl) : pV p l e R s m args below meth c nL E A Q z h k n pc L (.int x :: .ref a0 :: st) := by
  subst hfs
  exact v_put (T := TX0) (ci := 0) (kf := 1) X hd inU0 tyX0 tyX0_ok nmX0 rfl (by decide) wf_X0_15 rfl (ty := .int) (by decide +kernel) rfl rfl hh hl kk
theorem wf_X2_75 : Cond.fieldLink RX2 75 (TX0 1).1 (TX0 1).2.1 (TX0 1).2.2.1 ∈ uw := uw_in (i := 66) (by decide +kernel) (by decide +kernel)
theorem g_X2_75 (X : pCx p s m args c cc nL RX2 E A) {a0 : Nat} {fs : List Value} {v : Value} (hd : decode cc pc = .ok (.getfield 75, 3)) (hh : h a0 = some (ob 0 fs)) (kk : pV p l e R s m args below meth c nL E A Q z h k n (pc + 3) L (v :: st)) (hv : fs[1]? = some v := by rfl) : pV p l e R s m args below meth c nL E A Q z h k n pc L (.ref a0 :: st) := v_get (T := TX0) (ci := 0) (kf := 1) X hd inU0 rfl (by decide) wf_X2_75 hh hv kk
theorem p_X2_75 (X : pCx p s m args c cc nL RX2 E A) {a0 : Nat} {fs fs1 : List Value} {x : Int32} (hd : decode cc pc = .ok (.putfield 75, 3)) (hh : h a0 = some (ob 0 fs)) (kk : pV p l e R s m args below meth c nL E A Q z (pset h a0 (ob 0 fs1)) k n (pc + 3) L st) (hl : 1 < fs.length := by exact Nat.le_of_ble_eq_true rfl) (hfs : fs.set 1 (.int x) = fs1 := by rfl) : pV p l e R s m args below meth c nL E A Q z h k n pc L (.int x :: .ref a0 :: st) := by
  subst hfs
  exact v_put (T := TX0) (ci := 0) (kf := 1) X hd inU0 tyX0 tyX0_ok nmX0 rfl (by decide) wf_X2_75 rfl (ty := .int) (by decide +kernel) rfl rfl hh hl kk
theorem wf_X0_18 : Cond.fieldLink RX0 18 (TX0 2).1 (TX0 2).2.1 (TX0 2).2.2.1 ∈ uw := uw_in (i := 67) (by decide +kernel) (by decide +kernel)
theorem g_X0_18 (X : pCx p s m args c cc nL RX0 E A) {a0 : Nat} {fs : List Value} {v : Value} (hd : decode cc pc = .ok (.getfield 18, 3)) (hh : h a0 = some (ob 0 fs)) (kk : pV p l e R s m args below meth c nL E A Q z h k n (pc + 3) L (v :: st)) (hv : fs[2]? = some v := by rfl) : pV p l e R s m args below meth c nL E A Q z h k n pc L (.ref a0 :: st) := v_get (T := TX0) (ci := 0) (kf := 2) X hd inU0 rfl (by decide) wf_X0_18 hh hv kk
theorem p_X0_18 (X : pCx p s m args c cc nL RX0 E A) {a0 : Nat} {fs fs1 : List Value} {x : Int32} (hd : decode cc pc = .ok (.putfield 18, 3)) (hh : h a0 = some (ob 0 fs)) (kk : pV p l e R s m args below meth c nL E A Q z (pset h a0 (ob 0 fs1)) k n (pc + 3) L st) (hl : 2 < fs.length := by exact Nat.le_of_ble_eq_true rfl) (hfs : fs.set 2 (.int x) = fs1 := by rfl) : pV p l e R s m args below meth c nL E A Q z h k n pc L (.int x :: .ref a0 :: st) := by
  subst hfs
  exact v_put (T := TX0) (ci := 0) (kf := 2) X hd inU0 tyX0 tyX0_ok nmX0 rfl (by decide) wf_X0_18 rfl (ty := .int) (by decide +kernel) rfl rfl hh hl kk
theorem wf_X2_159 : Cond.fieldLink RX2 159 (TX0 2).1 (TX0 2).2.1 (TX0 2).2.2.1 ∈ uw := uw_in (i := 68) (by decide +kernel) (by decide +kernel)
theorem g_X2_159 (X : pCx p s m args c cc nL RX2 E A) {a0 : Nat} {fs : List Value} {v : Value} (hd : decode cc pc = .ok (.getfield 159, 3)) (hh : h a0 = some (ob 0 fs)) (kk : pV p l e R s m args below meth c nL E A Q z h k n (pc + 3) L (v :: st)) (hv : fs[2]? = some v := by rfl) : pV p l e R s m args below meth c nL E A Q z h k n pc L (.ref a0 :: st) := v_get (T := TX0) (ci := 0) (kf := 2) X hd inU0 rfl (by decide) wf_X2_159 hh hv kk
theorem p_X2_159 (X : pCx p s m args c cc nL RX2 E A) {a0 : Nat} {fs fs1 : List Value} {x : Int32} (hd : decode cc pc = .ok (.putfield 159, 3)) (hh : h a0 = some (ob 0 fs)) (kk : pV p l e R s m args below meth c nL E A Q z (pset h a0 (ob 0 fs1)) k n (pc + 3) L st) (hl : 2 < fs.length := by exact Nat.le_of_ble_eq_true rfl) (hfs : fs.set 2 (.int x) = fs1 := by rfl) : pV p l e R s m args below meth c nL E A Q z h k n pc L (.int x :: .ref a0 :: st) := by
  subst hfs
  exact v_put (T := TX0) (ci := 0) (kf := 2) X hd inU0 tyX0 tyX0_ok nmX0 rfl (by decide) wf_X2_159 rfl (ty := .int) (by decide +kernel) rfl rfl hh hl kk
theorem wf_X0_21 : Cond.fieldLink RX0 21 (TX0 3).1 (TX0 3).2.1 (TX0 3).2.2.1 ∈ uw := uw_in (i := 69) (by decide +kernel) (by decide +kernel)
theorem g_X0_21 (X : pCx p s m args c cc nL RX0 E A) {a0 : Nat} {fs : List Value} {v : Value} (hd : decode cc pc = .ok (.getfield 21, 3)) (hh : h a0 = some (ob 0 fs)) (kk : pV p l e R s m args below meth c nL E A Q z h k n (pc + 3) L (v :: st)) (hv : fs[3]? = some v := by rfl) : pV p l e R s m args below meth c nL E A Q z h k n pc L (.ref a0 :: st) := v_get (T := TX0) (ci := 0) (kf := 3) X hd inU0 rfl (by decide) wf_X0_21 hh hv kk
theorem p_X0_21 (X : pCx p s m args c cc nL RX0 E A) {a0 : Nat} {fs fs1 : List Value} {x : Int32} (hd : decode cc pc = .ok (.putfield 21, 3)) (hh : h a0 = some (ob 0 fs)) (kk : pV p l e R s m args below meth c nL E A Q z (pset h a0 (ob 0 fs1)) k n (pc + 3) L st) (hl : 3 < fs.length := by exact Nat.le_of_ble_eq_true rfl) (hfs : fs.set 3 (.int x) = fs1 := by rfl) : pV p l e R s m args below meth c nL E A Q z h k n pc L (.int x :: .ref a0 :: st) := by
  subst hfs
  exact v_put (T := TX0) (ci := 0) (kf := 3) X hd inU0 tyX0 tyX0_ok nmX0 rfl (by decide) wf_X0_21 rfl (ty := .int) (by decide +kernel) rfl rfl hh hl kk
theorem wf_X2_110 : Cond.fieldLink RX2 110 (TX0 3).1 (TX0 3).2.1 (TX0 3).2.2.1 ∈ uw := uw_in (i := 70) (by decide +kernel) (by decide +kernel)
theorem g_X2_110 (X : pCx p s m args c cc nL RX2 E A) {a0 : Nat} {fs : List Value} {v : Value} (hd : decode cc pc = .ok (.getfield 110, 3)) (hh : h a0 = some (ob 0 fs)) (kk : pV p l e R s m args below meth c nL E A Q z h k n (pc + 3) L (v :: st)) (hv : fs[3]? = some v := by rfl) : pV p l e R s m args below meth c nL E A Q z h k n pc L (.ref a0 :: st) := v_get (T := TX0) (ci := 0) (kf := 3) X hd inU0 rfl (by decide) wf_X2_110 hh hv kk
theorem p_X2_110 (X : pCx p s m args c cc nL RX2 E A) {a0 : Nat} {fs fs1 : List Value} {x : Int32} (hd : decode cc pc = .ok (.putfield 110, 3)) (hh : h a0 = some (ob 0 fs)) (kk : pV p l e R s m args below meth c nL E A Q z (pset h a0 (ob 0 fs1)) k n (pc + 3) L st) (hl : 3 < fs.length := by exact Nat.le_of_ble_eq_true rfl) (hfs : fs.set 3 (.int x) = fs1 := by rfl) : pV p l e R s m args below meth c nL E A Q z h k n pc L (.int x :: .ref a0 :: st) := by
  subst hfs
  exact v_put (T := TX0) (ci := 0) (kf := 3) X hd inU0 tyX0 tyX0_ok nmX0 rfl (by decide) wf_X2_110 rfl (ty := .int) (by decide +kernel) rfl rfl hh hl kk
theorem wf_X0_24 : Cond.fieldLink RX0 24 (TX0 4).1 (TX0 4).2.1 (TX0 4).2.2.1 ∈ uw := uw_in (i := 71) (by decide +kernel) (by decide +kernel)
theorem g_X0_24 (X : pCx p s m args c cc nL RX0 E A) {a0 : Nat} {fs : List Value} {v : Value} (hd : decode cc pc = .ok (.getfield 24, 3)) (hh : h a0 = some (ob 0 fs)) (kk : pV p l e R s m args below meth c nL E A Q z h k n (pc + 3) L (v :: st)) (hv : fs[4]? = some v := by rfl) : pV p l e R s m args below meth c nL E A Q z h k n pc L (.ref a0 :: st) := v_get (T := TX0) (ci := 0) (kf := 4) X hd inU0 rfl (by decide) wf_X0_24 hh hv kk
theorem p_X0_24 (X : pCx p s m args c cc nL RX0 E A) {a0 : Nat} {fs fs1 : List Value} {x : Int32} (hd : decode cc pc = .ok (.putfield 24, 3)) (hh : h a0 = some (ob 0 fs)) (kk : pV p l e R s m args below meth c nL E A Q z (pset h a0 (ob 0 fs1)) k n (pc + 3) L st) (hl : 4 < fs.length := by exact Nat.le_of_ble_eq_true rfl) (hfs : fs.set 4 (.int x) = fs1 := by rfl) : pV p l e R s m args below meth c nL E A Q z h k n pc L (.int x :: .ref a0 :: st) := by
  subst hfs
  exact v_put (T := TX0) (ci := 0) (kf := 4) X hd inU0 tyX0 tyX0_ok nmX0 rfl (by decide) wf_X0_24 rfl (ty := .int) (by decide +kernel) rfl rfl hh hl kk
theorem wf_X2_178 : Cond.fieldLink RX2 178 (TX0 4).1 (TX0 4).2.1 (TX0 4).2.2.1 ∈ uw := uw_in (i := 72) (by decide +kernel) (by decide +kernel)
theorem g_X2_178 (X : pCx p s m args c cc nL RX2 E A) {a0 : Nat} {fs : List Value} {v : Value} (hd : decode cc pc = .ok (.getfield 178, 3)) (hh : h a0 = some (ob 0 fs)) (kk : pV p l e R s m args below meth c nL E A Q z h k n (pc + 3) L (v :: st)) (hv : fs[4]? = some v := by rfl) : pV p l e R s m args below meth c nL E A Q z h k n pc L (.ref a0 :: st) := v_get (T := TX0) (ci := 0) (kf := 4) X hd inU0 rfl (by decide) wf_X2_178 hh hv kk
theorem p_X2_178 (X : pCx p s m args c cc nL RX2 E A) {a0 : Nat} {fs fs1 : List Value} {x : Int32} (hd : decode cc pc = .ok (.putfield 178, 3)) (hh : h a0 = some (ob 0 fs)) (kk : pV p l e R s m args below meth c nL E A Q z (pset h a0 (ob 0 fs1)) k n (pc + 3) L st) (hl : 4 < fs.length := by exact Nat.le_of_ble_eq_true rfl) (hfs : fs.set 4 (.int x) = fs1 := by rfl) : pV p l e R s m args below meth c nL E A Q z h k n pc L (.int x :: .ref a0 :: st) := by
  subst hfs
  exact v_put (T := TX0) (ci := 0) (kf := 4) X hd inU0 tyX0 tyX0_ok nmX0 rfl (by decide) wf_X2_178 rfl (ty := .int) (by decide +kernel) rfl rfl hh hl kk
theorem wf_X0_27 : Cond.fieldLink RX0 27 (TX0 5).1 (TX0 5).2.1 (TX0 5).2.2.1 ∈ uw := uw_in (i := 73) (by decide +kernel) (by decide +kernel)
theorem g_X0_27 (X : pCx p s m args c cc nL RX0 E A) {a0 : Nat} {fs : List Value} {v : Value} (hd : decode cc pc = .ok (.getfield 27, 3)) (hh : h a0 = some (ob 0 fs)) (kk : pV p l e R s m args below meth c nL E A Q z h k n (pc + 3) L (v :: st)) (hv : fs[5]? = some v := by rfl) : pV p l e R s m args below meth c nL E A Q z h k n pc L (.ref a0 :: st) := v_get (T := TX0) (ci := 0) (kf := 5) X hd inU0 rfl (by decide) wf_X0_27 hh hv kk
theorem p_X0_27 (X : pCx p s m args c cc nL RX0 E A) {a0 : Nat} {fs fs1 : List Value} {x : Int32} (hd : decode cc pc = .ok (.putfield 27, 3)) (hh : h a0 = some (ob 0 fs)) (kk : pV p l e R s m args below meth c nL E A Q z (pset h a0 (ob 0 fs1)) k n (pc + 3) L st) (hl : 5 < fs.length := by exact Nat.le_of_ble_eq_true rfl) (hfs : fs.set 5 (.int x) = fs1 := by rfl) : pV p l e R s m args below meth c nL E A Q z h k n pc L (.int x :: .ref a0 :: st) := by
  subst hfs
  exact v_put (T := TX0) (ci := 0) (kf := 5) X hd inU0 tyX0 tyX0_ok nmX0 rfl (by decide) wf_X0_27 rfl (ty := .int) (by decide +kernel) rfl rfl hh hl kk
theorem wf_X2_153 : Cond.fieldLink RX2 153 (TX0 5).1 (TX0 5).2.1 (TX0 5).2.2.1 ∈ uw := uw_in (i := 74) (by decide +kernel) (by decide +kernel)
theorem g_X2_153 (X : pCx p s m args c cc nL RX2 E A) {a0 : Nat} {fs : List Value} {v : Value} (hd : decode cc pc = .ok (.getfield 153, 3)) (hh : h a0 = some (ob 0 fs)) (kk : pV p l e R s m args below meth c nL E A Q z h k n (pc + 3) L (v :: st)) (hv : fs[5]? = some v := by rfl) : pV p l e R s m args below meth c nL E A Q z h k n pc L (.ref a0 :: st) := v_get (T := TX0) (ci := 0) (kf := 5) X hd inU0 rfl (by decide) wf_X2_153 hh hv kk
theorem p_X2_153 (X : pCx p s m args c cc nL RX2 E A) {a0 : Nat} {fs fs1 : List Value} {x : Int32} (hd : decode cc pc = .ok (.putfield 153, 3)) (hh : h a0 = some (ob 0 fs)) (kk : pV p l e R s m args below meth c nL E A Q z (pset h a0 (ob 0 fs1)) k n (pc + 3) L st) (hl : 5 < fs.length := by exact Nat.le_of_ble_eq_true rfl) (hfs : fs.set 5 (.int x) = fs1 := by rfl) : pV p l e R s m args below meth c nL E A Q z h k n pc L (.int x :: .ref a0 :: st) := by
  subst hfs
  exact v_put (T := TX0) (ci := 0) (kf := 5) X hd inU0 tyX0 tyX0_ok nmX0 rfl (by decide) wf_X2_153 rfl (ty := .int) (by decide +kernel) rfl rfl hh hl kk
theorem wf_X0_30 : Cond.fieldLink RX0 30 (TX0 6).1 (TX0 6).2.1 (TX0 6).2.2.1 ∈ uw := uw_in (i := 75) (by decide +kernel) (by decide +kernel)
theorem g_X0_30 (X : pCx p s m args c cc nL RX0 E A) {a0 : Nat} {fs : List Value} {v : Value} (hd : decode cc pc = .ok (.getfield 30, 3)) (hh : h a0 = some (ob 0 fs)) (kk : pV p l e R s m args below meth c nL E A Q z h k n (pc + 3) L (v :: st)) (hv : fs[6]? = some v := by rfl) : pV p l e R s m args below meth c nL E A Q z h k n pc L (.ref a0 :: st) := v_get (T := TX0) (ci := 0) (kf := 6) X hd inU0 rfl (by decide) wf_X0_30 hh hv kk
theorem p_X0_30 (X : pCx p s m args c cc nL RX0 E A) {a0 x : Nat} {fs fs1 : List Value} (hd : decode cc pc = .ok (.putfield 30, 3)) (hh : h a0 = some (ob 0 fs)) (hin2 : meth.name = "<init>") (kk : pV p l e R s m args below meth c nL E A Q z (pset h a0 (ob 0 fs1)) k n (pc + 3) L st) (hl : 6 < fs.length := by exact Nat.le_of_ble_eq_true rfl) (hfs : fs.set 6 (.ref x) = fs1 := by rfl) : pV p l e R s m args below meth c nL E A Q z h k n pc L (.ref x :: .ref a0 :: st) := by
  subst hfs
  exact v_putF (T := TX0) (ci := 0) (kf := 6) X hd inU0 tyX0 tyX0_ok nmX0 rfl (by decide) wf_X0_30 rfl hin2 rfl (ty := .array (.boolean)) (by decide +kernel) rfl rfl hh hl kk
theorem wf_X2_81 : Cond.fieldLink RX2 81 (TX0 6).1 (TX0 6).2.1 (TX0 6).2.2.1 ∈ uw := uw_in (i := 76) (by decide +kernel) (by decide +kernel)
theorem g_X2_81 (X : pCx p s m args c cc nL RX2 E A) {a0 : Nat} {fs : List Value} {v : Value} (hd : decode cc pc = .ok (.getfield 81, 3)) (hh : h a0 = some (ob 0 fs)) (kk : pV p l e R s m args below meth c nL E A Q z h k n (pc + 3) L (v :: st)) (hv : fs[6]? = some v := by rfl) : pV p l e R s m args below meth c nL E A Q z h k n pc L (.ref a0 :: st) := v_get (T := TX0) (ci := 0) (kf := 6) X hd inU0 rfl (by decide) wf_X2_81 hh hv kk
theorem wf_X0_34 : Cond.fieldLink RX0 34 (TX0 7).1 (TX0 7).2.1 (TX0 7).2.2.1 ∈ uw := uw_in (i := 77) (by decide +kernel) (by decide +kernel)
theorem g_X0_34 (X : pCx p s m args c cc nL RX0 E A) {a0 : Nat} {fs : List Value} {v : Value} (hd : decode cc pc = .ok (.getfield 34, 3)) (hh : h a0 = some (ob 0 fs)) (kk : pV p l e R s m args below meth c nL E A Q z h k n (pc + 3) L (v :: st)) (hv : fs[7]? = some v := by rfl) : pV p l e R s m args below meth c nL E A Q z h k n pc L (.ref a0 :: st) := v_get (T := TX0) (ci := 0) (kf := 7) X hd inU0 rfl (by decide) wf_X0_34 hh hv kk
theorem p_X0_34 (X : pCx p s m args c cc nL RX0 E A) {a0 x : Nat} {fs fs1 : List Value} (hd : decode cc pc = .ok (.putfield 34, 3)) (hh : h a0 = some (ob 0 fs)) (hin2 : meth.name = "<init>") (kk : pV p l e R s m args below meth c nL E A Q z (pset h a0 (ob 0 fs1)) k n (pc + 3) L st) (hl : 7 < fs.length := by exact Nat.le_of_ble_eq_true rfl) (hfs : fs.set 7 (.ref x) = fs1 := by rfl) : pV p l e R s m args below meth c nL E A Q z h k n pc L (.ref x :: .ref a0 :: st) := by
  subst hfs
  exact v_putF (T := TX0) (ci := 0) (kf := 7) X hd inU0 tyX0 tyX0_ok nmX0 rfl (by decide) wf_X0_34 rfl hin2 rfl (ty := .array (.int)) (by decide +kernel) rfl rfl hh hl kk
theorem wf_X2_97 : Cond.fieldLink RX2 97 (TX0 7).1 (TX0 7).2.1 (TX0 7).2.2.1 ∈ uw := uw_in (i := 78) (by decide +kernel) (by decide +kernel)
theorem g_X2_97 (X : pCx p s m args c cc nL RX2 E A) {a0 : Nat} {fs : List Value} {v : Value} (hd : decode cc pc = .ok (.getfield 97, 3)) (hh : h a0 = some (ob 0 fs)) (kk : pV p l e R s m args below meth c nL E A Q z h k n (pc + 3) L (v :: st)) (hv : fs[7]? = some v := by rfl) : pV p l e R s m args below meth c nL E A Q z h k n pc L (.ref a0 :: st) := v_get (T := TX0) (ci := 0) (kf := 7) X hd inU0 rfl (by decide) wf_X2_97 hh hv kk
theorem wf_X5_9 : Cond.fieldLink RX5 9 (TX5 0).1 (TX5 0).2.1 (TX5 0).2.2.1 ∈ uw := uw_in (i := 103) (by decide +kernel) (by decide +kernel)
theorem g_X5_9 (X : pCx p s m args c cc nL RX5 E A) {a0 : Nat} {fs : List Value} {v : Value} (hd : decode cc pc = .ok (.getfield 9, 3)) (hh : h a0 = some (ob 5 fs)) (kk : pV p l e R s m args below meth c nL E A Q z h k n (pc + 3) L (v :: st)) (hv : fs[0]? = some v := by rfl) : pV p l e R s m args below meth c nL E A Q z h k n pc L (.ref a0 :: st) := v_get (T := TX5) (ci := 5) (kf := 0) X hd inU5 rfl (by decide) wf_X5_9 hh hv kk
theorem p_X5_9 (X : pCx p s m args c cc nL RX5 E A) {a0 : Nat} {fs fs1 : List Value} {x : Int32} (hd : decode cc pc = .ok (.putfield 9, 3)) (hh : h a0 = some (ob 5 fs)) (kk : pV p l e R s m args below meth c nL E A Q z (pset h a0 (ob 5 fs1)) k n (pc + 3) L st) (hl : 0 < fs.length := by exact Nat.le_of_ble_eq_true rfl) (hfs : fs.set 0 (.int x) = fs1 := by rfl) : pV p l e R s m args below meth c nL E A Q z h k n pc L (.int x :: .ref a0 :: st) := by
  subst hfs
  exact v_put (T := TX5) (ci := 5) (kf := 0) X hd inU5 tyX5 tyX5_ok nmX5 rfl (by decide) wf_X5_9 rfl (ty := .int) (by decide +kernel) rfl rfl hh hl kk
theorem wf_X2_113 : Cond.fieldLink RX2 113 (TX5 0).1 (TX5 0).2.1 (TX5 0).2.2.1 ∈ uw := uw_in (i := 104) (by decide +kernel) (by decide +kernel)
theorem g_X2_113 (X : pCx p s m args c cc nL RX2 E A) {a0 : Nat} {fs : List Value} {v : Value} (hd : decode cc pc = .ok (.getfield 113, 3)) (hh : h a0 = some (ob 5 fs)) (kk : pV p l e R s m args below meth c nL E A Q z h k n (pc + 3) L (v :: st)) (hv : fs[0]? = some v := by rfl) : pV p l e R s m args below meth c nL E A Q z h k n pc L (.ref a0 :: st) := v_get (T := TX5) (ci := 5) (kf := 0) X hd inU5 rfl (by decide) wf_X2_113 hh hv kk
theorem p_X2_113 (X : pCx p s m args c cc nL RX2 E A) {a0 : Nat} {fs fs1 : List Value} {x : Int32} (hd : decode cc pc = .ok (.putfield 113, 3)) (hh : h a0 = some (ob 5 fs)) (kk : pV p l e R s m args below meth c nL E A Q z (pset h a0 (ob 5 fs1)) k n (pc + 3) L st) (hl : 0 < fs.length := by exact Nat.le_of_ble_eq_true rfl) (hfs : fs.set 0 (.int x) = fs1 := by rfl) : pV p l e R s m args below meth c nL E A Q z h k n pc L (.int x :: .ref a0 :: st) := by
  subst hfs
  exact v_put (T := TX5) (ci := 5) (kf := 0) X hd inU5 tyX5 tyX5_ok nmX5 rfl (by decide) wf_X2_113 rfl (ty := .int) (by decide +kernel) rfl rfl hh hl kk
theorem wf_X5_15 : Cond.fieldLink RX5 15 (TX5 1).1 (TX5 1).2.1 (TX5 1).2.2.1 ∈ uw := uw_in (i := 105) (by decide +kernel) (by decide +kernel)
theorem g_X5_15 (X : pCx p s m args c cc nL RX5 E A) {a0 : Nat} {fs : List Value} {v : Value} (hd : decode cc pc = .ok (.getfield 15, 3)) (hh : h a0 = some (ob 5 fs)) (kk : pV p l e R s m args below meth c nL E A Q z h k n (pc + 3) L (v :: st)) (hv : fs[1]? = some v := by rfl) : pV p l e R s m args below meth c nL E A Q z h k n pc L (.ref a0 :: st) := v_get (T := TX5) (ci := 5) (kf := 1) X hd inU5 rfl (by decide) wf_X5_15 hh hv kk
theorem p_X5_15 (X : pCx p s m args c cc nL RX5 E A) {a0 : Nat} {fs fs1 : List Value} {x : Int32} (hd : decode cc pc = .ok (.putfield 15, 3)) (hh : h a0 = some (ob 5 fs)) (kk : pV p l e R s m args below meth c nL E A Q z (pset h a0 (ob 5 fs1)) k n (pc + 3) L st) (hl : 1 < fs.length := by exact Nat.le_of_ble_eq_true rfl) (hfs : fs.set 1 (.int x) = fs1 := by rfl) : pV p l e R s m args below meth c nL E A Q z h k n pc L (.int x :: .ref a0 :: st) := by
  subst hfs
  exact v_put (T := TX5) (ci := 5) (kf := 1) X hd inU5 tyX5 tyX5_ok nmX5 rfl (by decide) wf_X5_15 rfl (ty := .int) (by decide +kernel) rfl rfl hh hl kk
theorem wf_X2_116 : Cond.fieldLink RX2 116 (TX5 1).1 (TX5 1).2.1 (TX5 1).2.2.1 ∈ uw := uw_in (i := 106) (by decide +kernel) (by decide +kernel)
theorem g_X2_116 (X : pCx p s m args c cc nL RX2 E A) {a0 : Nat} {fs : List Value} {v : Value} (hd : decode cc pc = .ok (.getfield 116, 3)) (hh : h a0 = some (ob 5 fs)) (kk : pV p l e R s m args below meth c nL E A Q z h k n (pc + 3) L (v :: st)) (hv : fs[1]? = some v := by rfl) : pV p l e R s m args below meth c nL E A Q z h k n pc L (.ref a0 :: st) := v_get (T := TX5) (ci := 5) (kf := 1) X hd inU5 rfl (by decide) wf_X2_116 hh hv kk
theorem p_X2_116 (X : pCx p s m args c cc nL RX2 E A) {a0 : Nat} {fs fs1 : List Value} {x : Int32} (hd : decode cc pc = .ok (.putfield 116, 3)) (hh : h a0 = some (ob 5 fs)) (kk : pV p l e R s m args below meth c nL E A Q z (pset h a0 (ob 5 fs1)) k n (pc + 3) L st) (hl : 1 < fs.length := by exact Nat.le_of_ble_eq_true rfl) (hfs : fs.set 1 (.int x) = fs1 := by rfl) : pV p l e R s m args below meth c nL E A Q z h k n pc L (.int x :: .ref a0 :: st) := by
  subst hfs
  exact v_put (T := TX5) (ci := 5) (kf := 1) X hd inU5 tyX5 tyX5_ok nmX5 rfl (by decide) wf_X2_116 rfl (ty := .int) (by decide +kernel) rfl rfl hh hl kk
theorem wf_X5_18 : Cond.fieldLink RX5 18 (TX5 2).1 (TX5 2).2.1 (TX5 2).2.2.1 ∈ uw := uw_in (i := 107) (by decide +kernel) (by decide +kernel)
theorem g_X5_18 (X : pCx p s m args c cc nL RX5 E A) {a0 : Nat} {fs : List Value} {v : Value} (hd : decode cc pc = .ok (.getfield 18, 3)) (hh : h a0 = some (ob 5 fs)) (kk : pV p l e R s m args below meth c nL E A Q z h k n (pc + 3) L (v :: st)) (hv : fs[2]? = some v := by rfl) : pV p l e R s m args below meth c nL E A Q z h k n pc L (.ref a0 :: st) := v_get (T := TX5) (ci := 5) (kf := 2) X hd inU5 rfl (by decide) wf_X5_18 hh hv kk
theorem p_X5_18 (X : pCx p s m args c cc nL RX5 E A) {a0 : Nat} {fs fs1 : List Value} {x : Int32} (hd : decode cc pc = .ok (.putfield 18, 3)) (hh : h a0 = some (ob 5 fs)) (kk : pV p l e R s m args below meth c nL E A Q z (pset h a0 (ob 5 fs1)) k n (pc + 3) L st) (hl : 2 < fs.length := by exact Nat.le_of_ble_eq_true rfl) (hfs : fs.set 2 (.int x) = fs1 := by rfl) : pV p l e R s m args below meth c nL E A Q z h k n pc L (.int x :: .ref a0 :: st) := by
  subst hfs
  exact v_put (T := TX5) (ci := 5) (kf := 2) X hd inU5 tyX5 tyX5_ok nmX5 rfl (by decide) wf_X5_18 rfl (ty := .int) (by decide +kernel) rfl rfl hh hl kk
theorem wf_X2_119 : Cond.fieldLink RX2 119 (TX5 2).1 (TX5 2).2.1 (TX5 2).2.2.1 ∈ uw := uw_in (i := 108) (by decide +kernel) (by decide +kernel)
theorem g_X2_119 (X : pCx p s m args c cc nL RX2 E A) {a0 : Nat} {fs : List Value} {v : Value} (hd : decode cc pc = .ok (.getfield 119, 3)) (hh : h a0 = some (ob 5 fs)) (kk : pV p l e R s m args below meth c nL E A Q z h k n (pc + 3) L (v :: st)) (hv : fs[2]? = some v := by rfl) : pV p l e R s m args below meth c nL E A Q z h k n pc L (.ref a0 :: st) := v_get (T := TX5) (ci := 5) (kf := 2) X hd inU5 rfl (by decide) wf_X2_119 hh hv kk
theorem p_X2_119 (X : pCx p s m args c cc nL RX2 E A) {a0 : Nat} {fs fs1 : List Value} {x : Int32} (hd : decode cc pc = .ok (.putfield 119, 3)) (hh : h a0 = some (ob 5 fs)) (kk : pV p l e R s m args below meth c nL E A Q z (pset h a0 (ob 5 fs1)) k n (pc + 3) L st) (hl : 2 < fs.length := by exact Nat.le_of_ble_eq_true rfl) (hfs : fs.set 2 (.int x) = fs1 := by rfl) : pV p l e R s m args below meth c nL E A Q z h k n pc L (.int x :: .ref a0 :: st) := by
  subst hfs
  exact v_put (T := TX5) (ci := 5) (kf := 2) X hd inU5 tyX5 tyX5_ok nmX5 rfl (by decide) wf_X2_119 rfl (ty := .int) (by decide +kernel) rfl rfl hh hl kk
theorem wf_X5_21 : Cond.fieldLink RX5 21 (TX5 3).1 (TX5 3).2.1 (TX5 3).2.2.1 ∈ uw := uw_in (i := 109) (by decide +kernel) (by decide +kernel)
theorem g_X5_21 (X : pCx p s m args c cc nL RX5 E A) {a0 : Nat} {fs : List Value} {v : Value} (hd : decode cc pc = .ok (.getfield 21, 3)) (hh : h a0 = some (ob 5 fs)) (kk : pV p l e R s m args below meth c nL E A Q z h k n (pc + 3) L (v :: st)) (hv : fs[3]? = some v := by rfl) : pV p l e R s m args below meth c nL E A Q z h k n pc L (.ref a0 :: st) := v_get (T := TX5) (ci := 5) (kf := 3) X hd inU5 rfl (by decide) wf_X5_21 hh hv kk
theorem p_X5_21 (X : pCx p s m args c cc nL RX5 E A) {a0 : Nat} {fs fs1 : List Value} {x : Int32} (hd : decode cc pc = .ok (.putfield 21, 3)) (hh : h a0 = some (ob 5 fs)) (kk : pV p l e R s m args below meth c nL E A Q z (pset h a0 (ob 5 fs1)) k n (pc + 3) L st) (hl : 3 < fs.length := by exact Nat.le_of_ble_eq_true rfl) (hfs : fs.set 3 (.int x) = fs1 := by rfl) : pV p l e R s m args below meth c nL E A Q z h k n pc L (.int x :: .ref a0 :: st) := by
  subst hfs
  exact v_put (T := TX5) (ci := 5) (kf := 3) X hd inU5 tyX5 tyX5_ok nmX5 rfl (by decide) wf_X5_21 rfl (ty := .int) (by decide +kernel) rfl rfl hh hl kk
theorem wf_X2_123 : Cond.fieldLink RX2 123 (TX5 3).1 (TX5 3).2.1 (TX5 3).2.2.1 ∈ uw := uw_in (i := 110) (by decide +kernel) (by decide +kernel)
theorem g_X2_123 (X : pCx p s m args c cc nL RX2 E A) {a0 : Nat} {fs : List Value} {v : Value} (hd : decode cc pc = .ok (.getfield 123, 3)) (hh : h a0 = some (ob 5 fs)) (kk : pV p l e R s m args below meth c nL E A Q z h k n (pc + 3) L (v :: st)) (hv : fs[3]? = some v := by rfl) : pV p l e R s m args below meth c nL E A Q z h k n pc L (.ref a0 :: st) := v_get (T := TX5) (ci := 5) (kf := 3) X hd inU5 rfl (by decide) wf_X2_123 hh hv kk
theorem p_X2_123 (X : pCx p s m args c cc nL RX2 E A) {a0 : Nat} {fs fs1 : List Value} {x : Int32} (hd : decode cc pc = .ok (.putfield 123, 3)) (hh : h a0 = some (ob 5 fs)) (kk : pV p l e R s m args below meth c nL E A Q z (pset h a0 (ob 5 fs1)) k n (pc + 3) L st) (hl : 3 < fs.length := by exact Nat.le_of_ble_eq_true rfl) (hfs : fs.set 3 (.int x) = fs1 := by rfl) : pV p l e R s m args below meth c nL E A Q z h k n pc L (.int x :: .ref a0 :: st) := by
  subst hfs
  exact v_put (T := TX5) (ci := 5) (kf := 3) X hd inU5 tyX5 tyX5_ok nmX5 rfl (by decide) wf_X2_123 rfl (ty := .int) (by decide +kernel) rfl rfl hh hl kk
theorem wf_X5_24 : Cond.fieldLink RX5 24 (TX5 4).1 (TX5 4).2.1 (TX5 4).2.2.1 ∈ uw := uw_in (i := 111) (by decide +kernel) (by decide +kernel)
theorem g_X5_24 (X : pCx p s m args c cc nL RX5 E A) {a0 : Nat} {fs : List Value} {v : Value} (hd : decode cc pc = .ok (.getfield 24, 3)) (hh : h a0 = some (ob 5 fs)) (kk : pV p l e R s m args below meth c nL E A Q z h k n (pc + 3) L (v :: st)) (hv : fs[4]? = some v := by rfl) : pV p l e R s m args below meth c nL E A Q z h k n pc L (.ref a0 :: st) := v_get (T := TX5) (ci := 5) (kf := 4) X hd inU5 rfl (by decide) wf_X5_24 hh hv kk
theorem p_X5_24 (X : pCx p s m args c cc nL RX5 E A) {a0 : Nat} {fs fs1 : List Value} {x : Int32} (hd : decode cc pc = .ok (.putfield 24, 3)) (hh : h a0 = some (ob 5 fs)) (kk : pV p l e R s m args below meth c nL E A Q z (pset h a0 (ob 5 fs1)) k n (pc + 3) L st) (hl : 4 < fs.length := by exact Nat.le_of_ble_eq_true rfl) (hfs : fs.set 4 (.int x) = fs1 := by rfl) : pV p l e R s m args below meth c nL E A Q z h k n pc L (.int x :: .ref a0 :: st) := by
  subst hfs
  exact v_put (T := TX5) (ci := 5) (kf := 4) X hd inU5 tyX5 tyX5_ok nmX5 rfl (by decide) wf_X5_24 rfl (ty := .int) (by decide +kernel) rfl rfl hh hl kk
theorem wf_X2_126 : Cond.fieldLink RX2 126 (TX5 4).1 (TX5 4).2.1 (TX5 4).2.2.1 ∈ uw := uw_in (i := 112) (by decide +kernel) (by decide +kernel)
theorem g_X2_126 (X : pCx p s m args c cc nL RX2 E A) {a0 : Nat} {fs : List Value} {v : Value} (hd : decode cc pc = .ok (.getfield 126, 3)) (hh : h a0 = some (ob 5 fs)) (kk : pV p l e R s m args below meth c nL E A Q z h k n (pc + 3) L (v :: st)) (hv : fs[4]? = some v := by rfl) : pV p l e R s m args below meth c nL E A Q z h k n pc L (.ref a0 :: st) := v_get (T := TX5) (ci := 5) (kf := 4) X hd inU5 rfl (by decide) wf_X2_126 hh hv kk
theorem p_X2_126 (X : pCx p s m args c cc nL RX2 E A) {a0 : Nat} {fs fs1 : List Value} {x : Int32} (hd : decode cc pc = .ok (.putfield 126, 3)) (hh : h a0 = some (ob 5 fs)) (kk : pV p l e R s m args below meth c nL E A Q z (pset h a0 (ob 5 fs1)) k n (pc + 3) L st) (hl : 4 < fs.length := by exact Nat.le_of_ble_eq_true rfl) (hfs : fs.set 4 (.int x) = fs1 := by rfl) : pV p l e R s m args below meth c nL E A Q z h k n pc L (.int x :: .ref a0 :: st) := by
  subst hfs
  exact v_put (T := TX5) (ci := 5) (kf := 4) X hd inU5 tyX5 tyX5_ok nmX5 rfl (by decide) wf_X2_126 rfl (ty := .int) (by decide +kernel) rfl rfl hh hl kk
theorem wf_X2_9 : Cond.fieldLink RX2 9 (TX2 0).1 (TX2 0).2.1 (TX2 0).2.2.1 ∈ uw := uw_in (i := 124) (by decide +kernel) (by decide +kernel)
theorem g_X2_9 (X : pCx p s m args c cc nL RX2 E A) {a0 : Nat} {fs : List Value} {v : Value} (hd : decode cc pc = .ok (.getfield 9, 3)) (hh : h a0 = some (ob 2 fs)) (kk : pV p l e R s m args below meth c nL E A Q z h k n (pc + 3) L (v :: st)) (hv : fs[0]? = some v := by rfl) : pV p l e R s m args below meth c nL E A Q z h k n pc L (.ref a0 :: st) := v_get (T := TX2) (ci := 2) (kf := 0) X hd inU2 rfl (by decide) wf_X2_9 hh hv kk
theorem p_X2_9 (X : pCx p s m args c cc nL RX2 E A) {a0 : Nat} {fs fs1 : List Value} {x : Int32} (hd : decode cc pc = .ok (.putfield 9, 3)) (hh : h a0 = some (ob 2 fs)) (kk : pV p l e R s m args below meth c nL E A Q z (pset h a0 (ob 2 fs1)) k n (pc + 3) L st) (hl : 0 < fs.length := by exact Nat.le_of_ble_eq_true rfl) (hfs : fs.set 0 (.int x) = fs1 := by rfl) : pV p l e R s m args below meth c nL E A Q z h k n pc L (.int x :: .ref a0 :: st) := by
  subst hfs
  exact v_put (T := TX2) (ci := 2) (kf := 0) X hd inU2 tyX2 tyX2_ok nmX2 rfl (by decide) wf_X2_9 rfl (ty := .int) (by decide +kernel) rfl rfl hh hl kk
theorem wf_X4_34 : Cond.fieldLink RX4 34 (TX2 0).1 (TX2 0).2.1 (TX2 0).2.2.1 ∈ uw := uw_in (i := 125) (by decide +kernel) (by decide +kernel)
theorem g_X4_34 (X : pCx p s m args c cc nL RX4 E A) {a0 : Nat} {fs : List Value} {v : Value} (hd : decode cc pc = .ok (.getfield 34, 3)) (hh : h a0 = some (ob 2 fs)) (kk : pV p l e R s m args below meth c nL E A Q z h k n (pc + 3) L (v :: st)) (hv : fs[0]? = some v := by rfl) : pV p l e R s m args below meth c nL E A Q z h k n pc L (.ref a0 :: st) := v_get (T := TX2) (ci := 2) (kf := 0) X hd inU2 rfl (by decide) wf_X4_34 hh hv kk
theorem p_X4_34 (X : pCx p s m args c cc nL RX4 E A) {a0 : Nat} {fs fs1 : List Value} {x : Int32} (hd : decode cc pc = .ok (.putfield 34, 3)) (hh : h a0 = some (ob 2 fs)) (kk : pV p l e R s m args below meth c nL E A Q z (pset h a0 (ob 2 fs1)) k n (pc + 3) L st) (hl : 0 < fs.length := by exact Nat.le_of_ble_eq_true rfl) (hfs : fs.set 0 (.int x) = fs1 := by rfl) : pV p l e R s m args below meth c nL E A Q z h k n pc L (.int x :: .ref a0 :: st) := by
  subst hfs
  exact v_put (T := TX2) (ci := 2) (kf := 0) X hd inU2 tyX2 tyX2_ok nmX2 rfl (by decide) wf_X4_34 rfl (ty := .int) (by decide +kernel) rfl rfl hh hl kk
theorem wf_X6_103 : Cond.fieldLink RX6 103 (TX2 0).1 (TX2 0).2.1 (TX2 0).2.2.1 ∈ uw := uw_in (i := 126) (by decide +kernel) (by decide +kernel)
theorem g_X6_103 (X : pCx p s m args c cc nL RX6 E A) {a0 : Nat} {fs : List Value} {v : Value} (hd : decode cc pc = .ok (.getfield 103, 3)) (hh : h a0 = some (ob 2 fs)) (kk : pV p l e R s m args below meth c nL E A Q z h k n (pc + 3) L (v :: st)) (hv : fs[0]? = some v := by rfl) : pV p l e R s m args below meth c nL E A Q z h k n pc L (.ref a0 :: st) := v_get (T := TX2) (ci := 2) (kf := 0) X hd inU2 rfl (by decide) wf_X6_103 hh hv kk
theorem p_X6_103 (X : pCx p s m args c cc nL RX6 E A) {a0 : Nat} {fs fs1 : List Value} {x : Int32} (hd : decode cc pc = .ok (.putfield 103, 3)) (hh : h a0 = some (ob 2 fs)) (kk : pV p l e R s m args below meth c nL E A Q z (pset h a0 (ob 2 fs1)) k n (pc + 3) L st) (hl : 0 < fs.length := by exact Nat.le_of_ble_eq_true rfl) (hfs : fs.set 0 (.int x) = fs1 := by rfl) : pV p l e R s m args below meth c nL E A Q z h k n pc L (.int x :: .ref a0 :: st) := by
  subst hfs
  exact v_put (T := TX2) (ci := 2) (kf := 0) X hd inU2 tyX2 tyX2_ok nmX2 rfl (by decide) wf_X6_103 rfl (ty := .int) (by decide +kernel) rfl rfl hh hl kk
theorem wf_X2_15 : Cond.fieldLink RX2 15 (TX2 1).1 (TX2 1).2.1 (TX2 1).2.2.1 ∈ uw := uw_in (i := 127) (by decide +kernel) (by decide +kernel)
theorem g_X2_15 (X : pCx p s m args c cc nL RX2 E A) {a0 : Nat} {fs : List Value} {v : Value} (hd : decode cc pc = .ok (.getfield 15, 3)) (hh : h a0 = some (ob 2 fs)) (kk : pV p l e R s m args below meth c nL E A Q z h k n (pc + 3) L (v :: st)) (hv : fs[1]? = some v := by rfl) : pV p l e R s m args below meth c nL E A Q z h k n pc L (.ref a0 :: st) := v_get (T := TX2) (ci := 2) (kf := 1) X hd inU2 rfl (by decide) wf_X2_15 hh hv kk
theorem p_X2_15 (X : pCx p s m args c cc nL RX2 E A) {a0 : Nat} {fs fs1 : List Value} {x : Int32} (hd : decode cc pc = .ok (.putfield 15, 3)) (hh : h a0 = some (ob 2 fs)) (kk : pV p l e R s m args below meth c nL E A Q z (pset h a0 (ob 2 fs1)) k n (pc + 3) L st) (hl : 1 < fs.length := by exact Nat.le_of_ble_eq_true rfl) (hfs : fs.set 1 (.int x) = fs1 := by rfl) : pV p l e R s m args below meth c nL E A Q z h k n pc L (.int x :: .ref a0 :: st) := by
  subst hfs
  exact v_put (T := TX2) (ci := 2) (kf := 1) X hd inU2 tyX2 tyX2_ok nmX2 rfl (by decide) wf_X2_15 rfl (ty := .int) (by decide +kernel) rfl rfl hh hl kk
theorem wf_X6_121 : Cond.fieldLink RX6 121 (TX2 1).1 (TX2 1).2.1 (TX2 1).2.2.1 ∈ uw := uw_in (i := 128) (by decide +kernel) (by decide +kernel)
theorem g_X6_121 (X : pCx p s m args c cc nL RX6 E A) {a0 : Nat} {fs : List Value} {v : Value} (hd : decode cc pc = .ok (.getfield 121, 3)) (hh : h a0 = some (ob 2 fs)) (kk : pV p l e R s m args below meth c nL E A Q z h k n (pc + 3) L (v :: st)) (hv : fs[1]? = some v := by rfl) : pV p l e R s m args below meth c nL E A Q z h k n pc L (.ref a0 :: st) := v_get (T := TX2) (ci := 2) (kf := 1) X hd inU2 rfl (by decide) wf_X6_121 hh hv kk
theorem p_X6_121 (X : pCx p s m args c cc nL RX6 E A) {a0 : Nat} {fs fs1 : List Value} {x : Int32} (hd : decode cc pc = .ok (.putfield 121, 3)) (hh : h a0 = some (ob 2 fs)) (kk : pV p l e R s m args below meth c nL E A Q z (pset h a0 (ob 2 fs1)) k n (pc + 3) L st) (hl : 1 < fs.length := by exact Nat.le_of_ble_eq_true rfl) (hfs : fs.set 1 (.int x) = fs1 := by rfl) : pV p l e R s m args below meth c nL E A Q z h k n pc L (.int x :: .ref a0 :: st) := by
  subst hfs
  exact v_put (T := TX2) (ci := 2) (kf := 1) X hd inU2 tyX2 tyX2_ok nmX2 rfl (by decide) wf_X6_121 rfl (ty := .int) (by decide +kernel) rfl rfl hh hl kk
theorem wf_X2_18 : Cond.fieldLink RX2 18 (TX2 2).1 (TX2 2).2.1 (TX2 2).2.2.1 ∈ uw := uw_in (i := 129) (by decide +kernel) (by decide +kernel)
theorem g_X2_18 (X : pCx p s m args c cc nL RX2 E A) {a0 : Nat} {fs : List Value} {v : Value} (hd : decode cc pc = .ok (.getfield 18, 3)) (hh : h a0 = some (ob 2 fs)) (kk : pV p l e R s m args below meth c nL E A Q z h k n (pc + 3) L (v :: st)) (hv : fs[2]? = some v := by rfl) : pV p l e R s m args below meth c nL E A Q z h k n pc L (.ref a0 :: st) := v_get (T := TX2) (ci := 2) (kf := 2) X hd inU2 rfl (by decide) wf_X2_18 hh hv kk
theorem p_X2_18 (X : pCx p s m args c cc nL RX2 E A) {a0 : Nat} {fs fs1 : List Value} {x : Int32} (hd : decode cc pc = .ok (.putfield 18, 3)) (hh : h a0 = some (ob 2 fs)) (kk : pV p l e R s m args below meth c nL E A Q z (pset h a0 (ob 2 fs1)) k n (pc + 3) L st) (hl : 2 < fs.length := by exact Nat.le_of_ble_eq_true rfl) (hfs : fs.set 2 (.int x) = fs1 := by rfl) : pV p l e R s m args below meth c nL E A Q z h k n pc L (.int x :: .ref a0 :: st) := by
  subst hfs
  exact v_put (T := TX2) (ci := 2) (kf := 2) X hd inU2 tyX2 tyX2_ok nmX2 rfl (by decide) wf_X2_18 rfl (ty := .int) (by decide +kernel) rfl rfl hh hl kk
theorem wf_X6_118 : Cond.fieldLink RX6 118 (TX2 2).1 (TX2 2).2.1 (TX2 2).2.2.1 ∈ uw := uw_in (i := 130) (by decide +kernel) (by decide +kernel)
theorem g_X6_118 (X : pCx p s m args c cc nL RX6 E A) {a0 : Nat} {fs : List Value} {v : Value} (hd : decode cc pc = .ok (.getfield 118, 3)) (hh : h a0 = some (ob 2 fs)) (kk : pV p l e R s m args below meth c nL E A Q z h k n (pc + 3) L (v :: st)) (hv : fs[2]? = some v := by rfl) : pV p l e R s m args below meth c nL E A Q z h k n pc L (.ref a0 :: st) := v_get (T := TX2) (ci := 2) (kf := 2) X hd inU2 rfl (by decide) wf_X6_118 hh hv kk
theorem p_X6_118 (X : pCx p s m args c cc nL RX6 E A) {a0 : Nat} {fs fs1 : List Value} {x : Int32} (hd : decode cc pc = .ok (.putfield 118, 3)) (hh : h a0 = some (ob 2 fs)) (kk : pV p l e R s m args below meth c nL E A Q z (pset h a0 (ob 2 fs1)) k n (pc + 3) L st) (hl : 2 < fs.length := by exact Nat.le_of_ble_eq_true rfl) (hfs : fs.set 2 (.int x) = fs1 := by rfl) : pV p l e R s m args below meth c nL E A Q z h k n pc L (.int x :: .ref a0 :: st) := by
  subst hfs
  exact v_put (T := TX2) (ci := 2) (kf := 2) X hd inU2 tyX2 tyX2_ok nmX2 rfl (by decide) wf_X6_118 rfl (ty := .int) (by decide +kernel) rfl rfl hh hl kk
theorem wf_X2_21 : Cond.fieldLink RX2 21 (TX2 3).1 (TX2 3).2.1 (TX2 3).2.2.1 ∈ uw := uw_in (i := 131) (by decide +kernel) (by decide +kernel)
theorem g_X2_21 (X : pCx p s m args c cc nL RX2 E A) {a0 : Nat} {fs : List Value} {v : Value} (hd : decode cc pc = .ok (.getfield 21, 3)) (hh : h a0 = some (ob 2 fs)) (kk : pV p l e R s m args below meth c nL E A Q z h k n (pc + 3) L (v :: st)) (hv : fs[3]? = some v := by rfl) : pV p l e R s m args below meth c nL E A Q z h k n pc L (.ref a0 :: st) := v_get (T := TX2) (ci := 2) (kf := 3) X hd inU2 rfl (by decide) wf_X2_21 hh hv kk
theorem p_X2_21 (X : pCx p s m args c cc nL RX2 E A) {a0 : Nat} {fs fs1 : List Value} {x : Int32} (hd : decode cc pc = .ok (.putfield 21, 3)) (hh : h a0 = some (ob 2 fs)) (kk : pV p l e R s m args below meth c nL E A Q z (pset h a0 (ob 2 fs1)) k n (pc + 3) L st) (hl : 3 < fs.length := by exact Nat.le_of_ble_eq_true rfl) (hfs : fs.set 3 (.int x) = fs1 := by rfl) : pV p l e R s m args below meth c nL E A Q z h k n pc L (.int x :: .ref a0 :: st) := by
  subst hfs
  exact v_put (T := TX2) (ci := 2) (kf := 3) X hd inU2 tyX2 tyX2_ok nmX2 rfl (by decide) wf_X2_21 rfl (ty := .int) (by decide +kernel) rfl rfl hh hl kk
theorem wf_X6_106 : Cond.fieldLink RX6 106 (TX2 3).1 (TX2 3).2.1 (TX2 3).2.2.1 ∈ uw := uw_in (i := 132) (by decide +kernel) (by decide +kernel)
theorem g_X6_106 (X : pCx p s m args c cc nL RX6 E A) {a0 : Nat} {fs : List Value} {v : Value} (hd : decode cc pc = .ok (.getfield 106, 3)) (hh : h a0 = some (ob 2 fs)) (kk : pV p l e R s m args below meth c nL E A Q z h k n (pc + 3) L (v :: st)) (hv : fs[3]? = some v := by rfl) : pV p l e R s m args below meth c nL E A Q z h k n pc L (.ref a0 :: st) := v_get (T := TX2) (ci := 2) (kf := 3) X hd inU2 rfl (by decide) wf_X6_106 hh hv kk
theorem p_X6_106 (X : pCx p s m args c cc nL RX6 E A) {a0 : Nat} {fs fs1 : List Value} {x : Int32} (hd : decode cc pc = .ok (.putfield 106, 3)) (hh : h a0 = some (ob 2 fs)) (kk : pV p l e R s m args below meth c nL E A Q z (pset h a0 (ob 2 fs1)) k n (pc + 3) L st) (hl : 3 < fs.length := by exact Nat.le_of_ble_eq_true rfl) (hfs : fs.set 3 (.int x) = fs1 := by rfl) : pV p l e R s m args below meth c nL E A Q z h k n pc L (.int x :: .ref a0 :: st) := by
  subst hfs
  exact v_put (T := TX2) (ci := 2) (kf := 3) X hd inU2 tyX2 tyX2_ok nmX2 rfl (by decide) wf_X6_106 rfl (ty := .int) (by decide +kernel) rfl rfl hh hl kk
theorem wf_X2_24 : Cond.fieldLink RX2 24 (TX2 4).1 (TX2 4).2.1 (TX2 4).2.2.1 ∈ uw := uw_in (i := 133) (by decide +kernel) (by decide +kernel)
theorem g_X2_24 (X : pCx p s m args c cc nL RX2 E A) {a0 : Nat} {fs : List Value} {v : Value} (hd : decode cc pc = .ok (.getfield 24, 3)) (hh : h a0 = some (ob 2 fs)) (kk : pV p l e R s m args below meth c nL E A Q z h k n (pc + 3) L (v :: st)) (hv : fs[4]? = some v := by rfl) : pV p l e R s m args below meth c nL E A Q z h k n pc L (.ref a0 :: st) := v_get (T := TX2) (ci := 2) (kf := 4) X hd inU2 rfl (by decide) wf_X2_24 hh hv kk
theorem p_X2_24 (X : pCx p s m args c cc nL RX2 E A) {a0 : Nat} {fs fs1 : List Value} {x : Int32} (hd : decode cc pc = .ok (.putfield 24, 3)) (hh : h a0 = some (ob 2 fs)) (kk : pV p l e R s m args below meth c nL E A Q z (pset h a0 (ob 2 fs1)) k n (pc + 3) L st) (hl : 4 < fs.length := by exact Nat.le_of_ble_eq_true rfl) (hfs : fs.set 4 (.int x) = fs1 := by rfl) : pV p l e R s m args below meth c nL E A Q z h k n pc L (.int x :: .ref a0 :: st) := by
  subst hfs
  exact v_put (T := TX2) (ci := 2) (kf := 4) X hd inU2 tyX2 tyX2_ok nmX2 rfl (by decide) wf_X2_24 rfl (ty := .int) (by decide +kernel) rfl rfl hh hl kk
theorem wf_X6_109 : Cond.fieldLink RX6 109 (TX2 4).1 (TX2 4).2.1 (TX2 4).2.2.1 ∈ uw := uw_in (i := 134) (by decide +kernel) (by decide +kernel)
theorem g_X6_109 (X : pCx p s m args c cc nL RX6 E A) {a0 : Nat} {fs : List Value} {v : Value} (hd : decode cc pc = .ok (.getfield 109, 3)) (hh : h a0 = some (ob 2 fs)) (kk : pV p l e R s m args below meth c nL E A Q z h k n (pc + 3) L (v :: st)) (hv : fs[4]? = some v := by rfl) : pV p l e R s m args below meth c nL E A Q z h k n pc L (.ref a0 :: st) := v_get (T := TX2) (ci := 2) (kf := 4) X hd inU2 rfl (by decide) wf_X6_109 hh hv kk
theorem p_X6_109 (X : pCx p s m args c cc nL RX6 E A) {a0 : Nat} {fs fs1 : List Value} {x : Int32} (hd : decode cc pc = .ok (.putfield 109, 3)) (hh : h a0 = some (ob 2 fs)) (kk : pV p l e R s m args below meth c nL E A Q z (pset h a0 (ob 2 fs1)) k n (pc + 3) L st) (hl : 4 < fs.length := by exact Nat.le_of_ble_eq_true rfl) (hfs : fs.set 4 (.int x) = fs1 := by rfl) : pV p l e R s m args below meth c nL E A Q z h k n pc L (.int x :: .ref a0 :: st) := by
  subst hfs
  exact v_put (T := TX2) (ci := 2) (kf := 4) X hd inU2 tyX2 tyX2_ok nmX2 rfl (by decide) wf_X6_109 rfl (ty := .int) (by decide +kernel) rfl rfl hh hl kk
theorem wf_X2_27 : Cond.fieldLink RX2 27 (TX2 5).1 (TX2 5).2.1 (TX2 5).2.2.1 ∈ uw := uw_in (i := 135) (by decide +kernel) (by decide +kernel)
theorem g_X2_27 (X : pCx p s m args c cc nL RX2 E A) {a0 : Nat} {fs : List Value} {v : Value} (hd : decode cc pc = .ok (.getfield 27, 3)) (hh : h a0 = some (ob 2 fs)) (kk : pV p l e R s m args below meth c nL E A Q z h k n (pc + 3) L (v :: st)) (hv : fs[5]? = some v := by rfl) : pV p l e R s m args below meth c nL E A Q z h k n pc L (.ref a0 :: st) := v_get (T := TX2) (ci := 2) (kf := 5) X hd inU2 rfl (by decide) wf_X2_27 hh hv kk
theorem p_X2_27 (X : pCx p s m args c cc nL RX2 E A) {a0 : Nat} {fs fs1 : List Value} {x : Int32} (hd : decode cc pc = .ok (.putfield 27, 3)) (hh : h a0 = some (ob 2 fs)) (kk : pV p l e R s m args below meth c nL E A Q z (pset h a0 (ob 2 fs1)) k n (pc + 3) L st) (hl : 5 < fs.length := by exact Nat.le_of_ble_eq_true rfl) (hfs : fs.set 5 (.int x) = fs1 := by rfl) : pV p l e R s m args below meth c nL E A Q z h k n pc L (.int x :: .ref a0 :: st) := by
  subst hfs
  exact v_put (T := TX2) (ci := 2) (kf := 5) X hd inU2 tyX2 tyX2_ok nmX2 rfl (by decide) wf_X2_27 rfl (ty := .int) (by decide +kernel) rfl rfl hh hl kk
theorem wf_X6_112 : Cond.fieldLink RX6 112 (TX2 5).1 (TX2 5).2.1 (TX2 5).2.2.1 ∈ uw := uw_in (i := 136) (by decide +kernel) (by decide +kernel)
theorem g_X6_112 (X : pCx p s m args c cc nL RX6 E A) {a0 : Nat} {fs : List Value} {v : Value} (hd : decode cc pc = .ok (.getfield 112, 3)) (hh : h a0 = some (ob 2 fs)) (kk : pV p l e R s m args below meth c nL E A Q z h k n (pc + 3) L (v :: st)) (hv : fs[5]? = some v := by rfl) : pV p l e R s m args below meth c nL E A Q z h k n pc L (.ref a0 :: st) := v_get (T := TX2) (ci := 2) (kf := 5) X hd inU2 rfl (by decide) wf_X6_112 hh hv kk
theorem p_X6_112 (X : pCx p s m args c cc nL RX6 E A) {a0 : Nat} {fs fs1 : List Value} {x : Int32} (hd : decode cc pc = .ok (.putfield 112, 3)) (hh : h a0 = some (ob 2 fs)) (kk : pV p l e R s m args below meth c nL E A Q z (pset h a0 (ob 2 fs1)) k n (pc + 3) L st) (hl : 5 < fs.length := by exact Nat.le_of_ble_eq_true rfl) (hfs : fs.set 5 (.int x) = fs1 := by rfl) : pV p l e R s m args below meth c nL E A Q z h k n pc L (.int x :: .ref a0 :: st) := by
  subst hfs
  exact v_put (T := TX2) (ci := 2) (kf := 5) X hd inU2 tyX2 tyX2_ok nmX2 rfl (by decide) wf_X6_112 rfl (ty := .int) (by decide +kernel) rfl rfl hh hl kk
theorem wf_X2_32 : Cond.fieldLink RX2 32 (TX2 6).1 (TX2 6).2.1 (TX2 6).2.2.1 ∈ uw := uw_in (i := 137) (by decide +kernel) (by decide +kernel)
theorem g_X2_32 (X : pCx p s m args c cc nL RX2 E A) {a0 : Nat} {fs : List Value} {v : Value} (hd : decode cc pc = .ok (.getfield 32, 3)) (hh : h a0 = some (ob 2 fs)) (kk : pV p l e R s m args below meth c nL E A Q z h k n (pc + 3) L (v :: st)) (hv : fs[6]? = some v := by rfl) : pV p l e R s m args below meth c nL E A Q z h k n pc L (.ref a0 :: st) := v_get (T := TX2) (ci := 2) (kf := 6) X hd inU2 rfl (by decide) wf_X2_32 hh hv kk
theorem p_X2_32 (X : pCx p s m args c cc nL RX2 E A) {a0 x : Nat} {fs fs1 : List Value} (hd : decode cc pc = .ok (.putfield 32, 3)) (hh : h a0 = some (ob 2 fs)) (hin2 : meth.name = "<init>") (kk : pV p l e R s m args below meth c nL E A Q z (pset h a0 (ob 2 fs1)) k n (pc + 3) L st) (hl : 6 < fs.length := by exact Nat.le_of_ble_eq_true rfl) (hfs : fs.set 6 (.ref x) = fs1 := by rfl) : pV p l e R s m args below meth c nL E A Q z h k n pc L (.ref x :: .ref a0 :: st) := by
  subst hfs
  exact v_putF (T := TX2) (ci := 2) (kf := 6) X hd inU2 tyX2 tyX2_ok nmX2 rfl (by decide) wf_X2_32 rfl hin2 rfl (ty := .array (.object "PeatShares$Household")) (by decide +kernel) rfl rfl hh hl kk
theorem wf_X2_38 : Cond.fieldLink RX2 38 (TX2 7).1 (TX2 7).2.1 (TX2 7).2.2.1 ∈ uw := uw_in (i := 138) (by decide +kernel) (by decide +kernel)
theorem g_X2_38 (X : pCx p s m args c cc nL RX2 E A) {a0 : Nat} {fs : List Value} {v : Value} (hd : decode cc pc = .ok (.getfield 38, 3)) (hh : h a0 = some (ob 2 fs)) (kk : pV p l e R s m args below meth c nL E A Q z h k n (pc + 3) L (v :: st)) (hv : fs[7]? = some v := by rfl) : pV p l e R s m args below meth c nL E A Q z h k n pc L (.ref a0 :: st) := v_get (T := TX2) (ci := 2) (kf := 7) X hd inU2 rfl (by decide) wf_X2_38 hh hv kk
theorem p_X2_38 (X : pCx p s m args c cc nL RX2 E A) {a0 x : Nat} {fs fs1 : List Value} (hd : decode cc pc = .ok (.putfield 38, 3)) (hh : h a0 = some (ob 2 fs)) (hin2 : meth.name = "<init>") (kk : pV p l e R s m args below meth c nL E A Q z (pset h a0 (ob 2 fs1)) k n (pc + 3) L st) (hl : 7 < fs.length := by exact Nat.le_of_ble_eq_true rfl) (hfs : fs.set 7 (.ref x) = fs1 := by rfl) : pV p l e R s m args below meth c nL E A Q z h k n pc L (.ref x :: .ref a0 :: st) := by
  subst hfs
  exact v_putF (T := TX2) (ci := 2) (kf := 7) X hd inU2 tyX2 tyX2_ok nmX2 rfl (by decide) wf_X2_38 rfl hin2 rfl (ty := .array (.object "PeatShares$Bank")) (by decide +kernel) rfl rfl hh hl kk
theorem wf_X2_44 : Cond.fieldLink RX2 44 (TX2 8).1 (TX2 8).2.1 (TX2 8).2.2.1 ∈ uw := uw_in (i := 139) (by decide +kernel) (by decide +kernel)
theorem g_X2_44 (X : pCx p s m args c cc nL RX2 E A) {a0 : Nat} {fs : List Value} {v : Value} (hd : decode cc pc = .ok (.getfield 44, 3)) (hh : h a0 = some (ob 2 fs)) (kk : pV p l e R s m args below meth c nL E A Q z h k n (pc + 3) L (v :: st)) (hv : fs[8]? = some v := by rfl) : pV p l e R s m args below meth c nL E A Q z h k n pc L (.ref a0 :: st) := v_get (T := TX2) (ci := 2) (kf := 8) X hd inU2 rfl (by decide) wf_X2_44 hh hv kk
theorem p_X2_44 (X : pCx p s m args c cc nL RX2 E A) {a0 x : Nat} {fs fs1 : List Value} (hd : decode cc pc = .ok (.putfield 44, 3)) (hh : h a0 = some (ob 2 fs)) (hin2 : meth.name = "<init>") (kk : pV p l e R s m args below meth c nL E A Q z (pset h a0 (ob 2 fs1)) k n (pc + 3) L st) (hl : 8 < fs.length := by exact Nat.le_of_ble_eq_true rfl) (hfs : fs.set 8 (.ref x) = fs1 := by rfl) : pV p l e R s m args below meth c nL E A Q z h k n pc L (.ref x :: .ref a0 :: st) := by
  subst hfs
  exact v_putF (T := TX2) (ci := 2) (kf := 8) X hd inU2 tyX2 tyX2_ok nmX2 rfl (by decide) wf_X2_44 rfl hin2 rfl (ty := .array (.object "PeatShares$TurfStack")) (by decide +kernel) rfl rfl hh hl kk
theorem wf_X4_12 : Cond.fieldLink RX4 12 (TX4 0).1 (TX4 0).2.1 (TX4 0).2.2.1 ∈ uw := uw_in (i := 160) (by decide +kernel) (by decide +kernel)
theorem g_X4_12 (X : pCx p s m args c cc nL RX4 E A) {a0 : Nat} {fs : List Value} {v : Value} (hd : decode cc pc = .ok (.getfield 12, 3)) (hh : h a0 = some (ob 4 fs)) (kk : pV p l e R s m args below meth c nL E A Q z h k n (pc + 3) L (v :: st)) (hv : fs[0]? = some v := by rfl) : pV p l e R s m args below meth c nL E A Q z h k n pc L (.ref a0 :: st) := v_get (T := TX4) (ci := 4) (kf := 0) X hd inU4 rfl (by decide) wf_X4_12 hh hv kk
theorem p_X4_12 (X : pCx p s m args c cc nL RX4 E A) {a0 x : Nat} {fs fs1 : List Value} (hd : decode cc pc = .ok (.putfield 12, 3)) (hh : h a0 = some (ob 4 fs)) (hin2 : meth.name = "<init>") (kk : pV p l e R s m args below meth c nL E A Q z (pset h a0 (ob 4 fs1)) k n (pc + 3) L st) (hl : 0 < fs.length := by exact Nat.le_of_ble_eq_true rfl) (hfs : fs.set 0 (.ref x) = fs1 := by rfl) : pV p l e R s m args below meth c nL E A Q z h k n pc L (.ref x :: .ref a0 :: st) := by
  subst hfs
  exact v_putF (T := TX4) (ci := 4) (kf := 0) X hd inU4 tyX4 tyX4_ok nmX4 rfl (by decide) wf_X4_12 rfl hin2 rfl (ty := .object "PeatShares$Parish") (by decide +kernel) rfl rfl hh hl kk
theorem wf_X6_38 : Cond.fieldLink RX6 38 (TX4 0).1 (TX4 0).2.1 (TX4 0).2.2.1 ∈ uw := uw_in (i := 161) (by decide +kernel) (by decide +kernel)
theorem g_X6_38 (X : pCx p s m args c cc nL RX6 E A) {a0 : Nat} {fs : List Value} {v : Value} (hd : decode cc pc = .ok (.getfield 38, 3)) (hh : h a0 = some (ob 4 fs)) (kk : pV p l e R s m args below meth c nL E A Q z h k n (pc + 3) L (v :: st)) (hv : fs[0]? = some v := by rfl) : pV p l e R s m args below meth c nL E A Q z h k n pc L (.ref a0 :: st) := v_get (T := TX4) (ci := 4) (kf := 0) X hd inU4 rfl (by decide) wf_X6_38 hh hv kk
theorem wf_X4_18 : Cond.fieldLink RX4 18 (TX4 1).1 (TX4 1).2.1 (TX4 1).2.2.1 ∈ uw := uw_in (i := 162) (by decide +kernel) (by decide +kernel)
theorem g_X4_18 (X : pCx p s m args c cc nL RX4 E A) {a0 : Nat} {fs : List Value} {v : Value} (hd : decode cc pc = .ok (.getfield 18, 3)) (hh : h a0 = some (ob 4 fs)) (kk : pV p l e R s m args below meth c nL E A Q z h k n (pc + 3) L (v :: st)) (hv : fs[1]? = some v := by rfl) : pV p l e R s m args below meth c nL E A Q z h k n pc L (.ref a0 :: st) := v_get (T := TX4) (ci := 4) (kf := 1) X hd inU4 rfl (by decide) wf_X4_18 hh hv kk
theorem p_X4_18 (X : pCx p s m args c cc nL RX4 E A) {a0 x : Nat} {fs fs1 : List Value} (hd : decode cc pc = .ok (.putfield 18, 3)) (hh : h a0 = some (ob 4 fs)) (hin2 : meth.name = "<init>") (kk : pV p l e R s m args below meth c nL E A Q z (pset h a0 (ob 4 fs1)) k n (pc + 3) L st) (hl : 1 < fs.length := by exact Nat.le_of_ble_eq_true rfl) (hfs : fs.set 1 (.ref x) = fs1 := by rfl) : pV p l e R s m args below meth c nL E A Q z h k n pc L (.ref x :: .ref a0 :: st) := by
  subst hfs
  exact v_putF (T := TX4) (ci := 4) (kf := 1) X hd inU4 tyX4 tyX4_ok nmX4 rfl (by decide) wf_X4_18 rfl hin2 rfl (ty := .array (.object "PeatShares$Parish")) (by decide +kernel) rfl rfl hh hl kk
theorem wf_X4_22 : Cond.fieldLink RX4 22 (TX4 2).1 (TX4 2).2.1 (TX4 2).2.2.1 ∈ uw := uw_in (i := 163) (by decide +kernel) (by decide +kernel)
theorem g_X4_22 (X : pCx p s m args c cc nL RX4 E A) {a0 : Nat} {fs : List Value} {v : Value} (hd : decode cc pc = .ok (.getfield 22, 3)) (hh : h a0 = some (ob 4 fs)) (kk : pV p l e R s m args below meth c nL E A Q z h k n (pc + 3) L (v :: st)) (hv : fs[2]? = some v := by rfl) : pV p l e R s m args below meth c nL E A Q z h k n pc L (.ref a0 :: st) := v_get (T := TX4) (ci := 4) (kf := 2) X hd inU4 rfl (by decide) wf_X4_22 hh hv kk
theorem p_X4_22 (X : pCx p s m args c cc nL RX4 E A) {a0 x : Nat} {fs fs1 : List Value} (hd : decode cc pc = .ok (.putfield 22, 3)) (hh : h a0 = some (ob 4 fs)) (hin2 : meth.name = "<init>") (kk : pV p l e R s m args below meth c nL E A Q z (pset h a0 (ob 4 fs1)) k n (pc + 3) L st) (hl : 2 < fs.length := by exact Nat.le_of_ble_eq_true rfl) (hfs : fs.set 2 (.ref x) = fs1 := by rfl) : pV p l e R s m args below meth c nL E A Q z h k n pc L (.ref x :: .ref a0 :: st) := by
  subst hfs
  exact v_putF (T := TX4) (ci := 4) (kf := 2) X hd inU4 tyX4 tyX4_ok nmX4 rfl (by decide) wf_X4_22 rfl hin2 rfl (ty := .array (.boolean)) (by decide +kernel) rfl rfl hh hl kk
theorem wf_X3_9 : Cond.fieldLink RX3 9 (TX3 0).1 (TX3 0).2.1 (TX3 0).2.2.1 ∈ uw := uw_in (i := 178) (by decide +kernel) (by decide +kernel)
theorem g_X3_9 (X : pCx p s m args c cc nL RX3 E A) {a0 : Nat} {fs : List Value} {v : Value} (hd : decode cc pc = .ok (.getfield 9, 3)) (hh : h a0 = some (ob 3 fs)) (kk : pV p l e R s m args below meth c nL E A Q z h k n (pc + 3) L (v :: st)) (hv : fs[0]? = some v := by rfl) : pV p l e R s m args below meth c nL E A Q z h k n pc L (.ref a0 :: st) := v_get (T := TX3) (ci := 3) (kf := 0) X hd inU3 rfl (by decide) wf_X3_9 hh hv kk
theorem p_X3_9 (X : pCx p s m args c cc nL RX3 E A) {a0 x : Nat} {fs fs1 : List Value} (hd : decode cc pc = .ok (.putfield 9, 3)) (hh : h a0 = some (ob 3 fs)) (hin2 : meth.name = "<init>") (kk : pV p l e R s m args below meth c nL E A Q z (pset h a0 (ob 3 fs1)) k n (pc + 3) L st) (hl : 0 < fs.length := by exact Nat.le_of_ble_eq_true rfl) (hfs : fs.set 0 (.ref x) = fs1 := by rfl) : pV p l e R s m args below meth c nL E A Q z h k n pc L (.ref x :: .ref a0 :: st) := by
  subst hfs
  exact v_putF (T := TX3) (ci := 3) (kf := 0) X hd inU3 tyX3 tyX3_ok nmX3 rfl (by decide) wf_X3_9 rfl hin2 rfl (ty := .array (.char)) (by decide +kernel) rfl rfl hh hl kk
theorem wf_X3_15 : Cond.fieldLink RX3 15 (TX3 1).1 (TX3 1).2.1 (TX3 1).2.2.1 ∈ uw := uw_in (i := 179) (by decide +kernel) (by decide +kernel)
theorem g_X3_15 (X : pCx p s m args c cc nL RX3 E A) {a0 : Nat} {fs : List Value} {v : Value} (hd : decode cc pc = .ok (.getfield 15, 3)) (hh : h a0 = some (ob 3 fs)) (kk : pV p l e R s m args below meth c nL E A Q z h k n (pc + 3) L (v :: st)) (hv : fs[1]? = some v := by rfl) : pV p l e R s m args below meth c nL E A Q z h k n pc L (.ref a0 :: st) := v_get (T := TX3) (ci := 3) (kf := 1) X hd inU3 rfl (by decide) wf_X3_15 hh hv kk
theorem p_X3_15 (X : pCx p s m args c cc nL RX3 E A) {a0 : Nat} {fs fs1 : List Value} {x : Int32} (hd : decode cc pc = .ok (.putfield 15, 3)) (hh : h a0 = some (ob 3 fs)) (kk : pV p l e R s m args below meth c nL E A Q z (pset h a0 (ob 3 fs1)) k n (pc + 3) L st) (hl : 1 < fs.length := by exact Nat.le_of_ble_eq_true rfl) (hfs : fs.set 1 (.int x) = fs1 := by rfl) : pV p l e R s m args below meth c nL E A Q z h k n pc L (.int x :: .ref a0 :: st) := by
  subst hfs
  exact v_put (T := TX3) (ci := 3) (kf := 1) X hd inU3 tyX3 tyX3_ok nmX3 rfl (by decide) wf_X3_15 rfl (ty := .int) (by decide +kernel) rfl rfl hh hl kk
theorem wf_X6_127 : Cond.fieldLink RX6 127 (TX3 1).1 (TX3 1).2.1 (TX3 1).2.2.1 ∈ uw := uw_in (i := 180) (by decide +kernel) (by decide +kernel)
theorem g_X6_127 (X : pCx p s m args c cc nL RX6 E A) {a0 : Nat} {fs : List Value} {v : Value} (hd : decode cc pc = .ok (.getfield 127, 3)) (hh : h a0 = some (ob 3 fs)) (kk : pV p l e R s m args below meth c nL E A Q z h k n (pc + 3) L (v :: st)) (hv : fs[1]? = some v := by rfl) : pV p l e R s m args below meth c nL E A Q z h k n pc L (.ref a0 :: st) := v_get (T := TX3) (ci := 3) (kf := 1) X hd inU3 rfl (by decide) wf_X6_127 hh hv kk
theorem p_X6_127 (X : pCx p s m args c cc nL RX6 E A) {a0 : Nat} {fs fs1 : List Value} {x : Int32} (hd : decode cc pc = .ok (.putfield 127, 3)) (hh : h a0 = some (ob 3 fs)) (kk : pV p l e R s m args below meth c nL E A Q z (pset h a0 (ob 3 fs1)) k n (pc + 3) L st) (hl : 1 < fs.length := by exact Nat.le_of_ble_eq_true rfl) (hfs : fs.set 1 (.int x) = fs1 := by rfl) : pV p l e R s m args below meth c nL E A Q z h k n pc L (.int x :: .ref a0 :: st) := by
  subst hfs
  exact v_put (T := TX3) (ci := 3) (kf := 1) X hd inU3 tyX3 tyX3_ok nmX3 rfl (by decide) wf_X6_127 rfl (ty := .int) (by decide +kernel) rfl rfl hh hl kk
theorem wf_X3_19 : Cond.fieldLink RX3 19 (TX3 2).1 (TX3 2).2.1 (TX3 2).2.2.1 ∈ uw := uw_in (i := 181) (by decide +kernel) (by decide +kernel)
theorem g_X3_19 (X : pCx p s m args c cc nL RX3 E A) {a0 : Nat} {fs : List Value} {v : Value} (hd : decode cc pc = .ok (.getfield 19, 3)) (hh : h a0 = some (ob 3 fs)) (kk : pV p l e R s m args below meth c nL E A Q z h k n (pc + 3) L (v :: st)) (hv : fs[2]? = some v := by rfl) : pV p l e R s m args below meth c nL E A Q z h k n pc L (.ref a0 :: st) := v_get (T := TX3) (ci := 3) (kf := 2) X hd inU3 rfl (by decide) wf_X3_19 hh hv kk
theorem p_X3_19 (X : pCx p s m args c cc nL RX3 E A) {a0 : Nat} {fs fs1 : List Value} {x : Int32} (hd : decode cc pc = .ok (.putfield 19, 3)) (hh : h a0 = some (ob 3 fs)) (kk : pV p l e R s m args below meth c nL E A Q z (pset h a0 (ob 3 fs1)) k n (pc + 3) L st) (hl : 2 < fs.length := by exact Nat.le_of_ble_eq_true rfl) (hfs : fs.set 2 (.int x) = fs1 := by rfl) : pV p l e R s m args below meth c nL E A Q z h k n pc L (.int x :: .ref a0 :: st) := by
  subst hfs
  exact v_put (T := TX3) (ci := 3) (kf := 2) X hd inU3 tyX3 tyX3_ok nmX3 rfl (by decide) wf_X3_19 rfl (ty := .int) (by decide +kernel) rfl rfl hh hl kk
theorem wf_X3_22 : Cond.fieldLink RX3 22 (TX3 3).1 (TX3 3).2.1 (TX3 3).2.2.1 ∈ uw := uw_in (i := 182) (by decide +kernel) (by decide +kernel)
theorem g_X3_22 (X : pCx p s m args c cc nL RX3 E A) {a0 : Nat} {fs : List Value} {v : Value} (hd : decode cc pc = .ok (.getfield 22, 3)) (hh : h a0 = some (ob 3 fs)) (kk : pV p l e R s m args below meth c nL E A Q z h k n (pc + 3) L (v :: st)) (hv : fs[3]? = some v := by rfl) : pV p l e R s m args below meth c nL E A Q z h k n pc L (.ref a0 :: st) := v_get (T := TX3) (ci := 3) (kf := 3) X hd inU3 rfl (by decide) wf_X3_22 hh hv kk
theorem p_X3_22 (X : pCx p s m args c cc nL RX3 E A) {a0 : Nat} {fs fs1 : List Value} {x : Int32} (hd : decode cc pc = .ok (.putfield 22, 3)) (hh : h a0 = some (ob 3 fs)) (kk : pV p l e R s m args below meth c nL E A Q z (pset h a0 (ob 3 fs1)) k n (pc + 3) L st) (hl : 3 < fs.length := by exact Nat.le_of_ble_eq_true rfl) (hfs : fs.set 3 (.int x) = fs1 := by rfl) : pV p l e R s m args below meth c nL E A Q z h k n pc L (.int x :: .ref a0 :: st) := by
  subst hfs
  exact v_put (T := TX3) (ci := 3) (kf := 3) X hd inU3 tyX3 tyX3_ok nmX3 rfl (by decide) wf_X3_22 rfl (ty := .int) (by decide +kernel) rfl rfl hh hl kk
theorem wf_X3_25 : Cond.fieldLink RX3 25 (TX3 4).1 (TX3 4).2.1 (TX3 4).2.2.1 ∈ uw := uw_in (i := 183) (by decide +kernel) (by decide +kernel)
theorem g_X3_25 (X : pCx p s m args c cc nL RX3 E A) {a0 : Nat} {fs : List Value} {v : Value} (hd : decode cc pc = .ok (.getfield 25, 3)) (hh : h a0 = some (ob 3 fs)) (kk : pV p l e R s m args below meth c nL E A Q z h k n (pc + 3) L (v :: st)) (hv : fs[4]? = some v := by rfl) : pV p l e R s m args below meth c nL E A Q z h k n pc L (.ref a0 :: st) := v_get (T := TX3) (ci := 3) (kf := 4) X hd inU3 rfl (by decide) wf_X3_25 hh hv kk
theorem p_X3_25 (X : pCx p s m args c cc nL RX3 E A) {a0 x : Nat} {fs fs1 : List Value} (hd : decode cc pc = .ok (.putfield 25, 3)) (hh : h a0 = some (ob 3 fs)) (hin2 : meth.name = "<init>") (kk : pV p l e R s m args below meth c nL E A Q z (pset h a0 (ob 3 fs1)) k n (pc + 3) L st) (hl : 4 < fs.length := by exact Nat.le_of_ble_eq_true rfl) (hfs : fs.set 4 (.ref x) = fs1 := by rfl) : pV p l e R s m args below meth c nL E A Q z h k n pc L (.ref x :: .ref a0 :: st) := by
  subst hfs
  exact v_putF (T := TX3) (ci := 3) (kf := 4) X hd inU3 tyX3 tyX3_ok nmX3 rfl (by decide) wf_X3_25 rfl hin2 rfl (ty := .array (.int)) (by decide +kernel) rfl rfl hh hl kk
theorem wf_X6_10 : Cond.fieldLink RX6 10 (TX6 0).1 (TX6 0).2.1 (TX6 0).2.2.1 ∈ uw := uw_in (i := 196) (by decide +kernel) (by decide +kernel)
theorem g_X6_10 (X : pCx p s m args c cc nL RX6 E A) {a0 : Nat} {fs : List Value} {v : Value} (hd : decode cc pc = .ok (.getfield 10, 3)) (hh : h a0 = some (ob 6 fs)) (kk : pV p l e R s m args below meth c nL E A Q z h k n (pc + 3) L (v :: st)) (hv : fs[0]? = some v := by rfl) : pV p l e R s m args below meth c nL E A Q z h k n pc L (.ref a0 :: st) := v_get (T := TX6) (ci := 6) (kf := 0) X hd inU6 rfl (by decide) wf_X6_10 hh hv kk
theorem p_X6_10 (X : pCx p s m args c cc nL RX6 E A) {a0 x : Nat} {fs fs1 : List Value} (hd : decode cc pc = .ok (.putfield 10, 3)) (hh : h a0 = some (ob 6 fs)) (kk : pV p l e R s m args below meth c nL E A Q z (pset h a0 (ob 6 fs1)) k n (pc + 3) L st) (hl : 0 < fs.length := by exact Nat.le_of_ble_eq_true rfl) (hfs : fs.set 0 (.ref x) = fs1 := by rfl) : pV p l e R s m args below meth c nL E A Q z h k n pc L (.ref x :: .ref a0 :: st) := by
  subst hfs
  exact v_put (T := TX6) (ci := 6) (kf := 0) X hd inU6 tyX6 tyX6_ok nmX6 rfl (by decide) wf_X6_10 rfl (ty := .object "PeatShares$State") (by decide +kernel) rfl rfl hh hl kk
theorem wf_X6_16 : Cond.fieldLink RX6 16 (TX6 1).1 (TX6 1).2.1 (TX6 1).2.2.1 ∈ uw := uw_in (i := 197) (by decide +kernel) (by decide +kernel)
theorem g_X6_16 (X : pCx p s m args c cc nL RX6 E A) {a0 : Nat} {fs : List Value} {v : Value} (hd : decode cc pc = .ok (.getfield 16, 3)) (hh : h a0 = some (ob 6 fs)) (kk : pV p l e R s m args below meth c nL E A Q z h k n (pc + 3) L (v :: st)) (hv : fs[1]? = some v := by rfl) : pV p l e R s m args below meth c nL E A Q z h k n pc L (.ref a0 :: st) := v_get (T := TX6) (ci := 6) (kf := 1) X hd inU6 rfl (by decide) wf_X6_16 hh hv kk
theorem p_X6_16 (X : pCx p s m args c cc nL RX6 E A) {a0 x : Nat} {fs fs1 : List Value} (hd : decode cc pc = .ok (.putfield 16, 3)) (hh : h a0 = some (ob 6 fs)) (kk : pV p l e R s m args below meth c nL E A Q z (pset h a0 (ob 6 fs1)) k n (pc + 3) L st) (hl : 1 < fs.length := by exact Nat.le_of_ble_eq_true rfl) (hfs : fs.set 1 (.ref x) = fs1 := by rfl) : pV p l e R s m args below meth c nL E A Q z h k n pc L (.ref x :: .ref a0 :: st) := by
  subst hfs
  exact v_put (T := TX6) (ci := 6) (kf := 1) X hd inU6 tyX6 tyX6_ok nmX6 rfl (by decide) wf_X6_16 rfl (ty := .object "PeatShares$State") (by decide +kernel) rfl rfl hh hl kk
theorem wf_X6_19 : Cond.fieldLink RX6 19 (TX6 2).1 (TX6 2).2.1 (TX6 2).2.2.1 ∈ uw := uw_in (i := 198) (by decide +kernel) (by decide +kernel)
theorem g_X6_19 (X : pCx p s m args c cc nL RX6 E A) {a0 : Nat} {fs : List Value} {v : Value} (hd : decode cc pc = .ok (.getfield 19, 3)) (hh : h a0 = some (ob 6 fs)) (kk : pV p l e R s m args below meth c nL E A Q z h k n (pc + 3) L (v :: st)) (hv : fs[2]? = some v := by rfl) : pV p l e R s m args below meth c nL E A Q z h k n pc L (.ref a0 :: st) := v_get (T := TX6) (ci := 6) (kf := 2) X hd inU6 rfl (by decide) wf_X6_19 hh hv kk
theorem p_X6_19 (X : pCx p s m args c cc nL RX6 E A) {a0 x : Nat} {fs fs1 : List Value} (hd : decode cc pc = .ok (.putfield 19, 3)) (hh : h a0 = some (ob 6 fs)) (hin2 : meth.name = "<init>") (kk : pV p l e R s m args below meth c nL E A Q z (pset h a0 (ob 6 fs1)) k n (pc + 3) L st) (hl : 2 < fs.length := by exact Nat.le_of_ble_eq_true rfl) (hfs : fs.set 2 (.ref x) = fs1 := by rfl) : pV p l e R s m args below meth c nL E A Q z h k n pc L (.ref x :: .ref a0 :: st) := by
  subst hfs
  exact v_putF (T := TX6) (ci := 6) (kf := 2) X hd inU6 tyX6 tyX6_ok nmX6 rfl (by decide) wf_X6_19 rfl hin2 rfl (ty := .array (.object "PeatShares$State")) (by decide +kernel) rfl rfl hh hl kk
theorem wf_X6_23 : Cond.fieldLink RX6 23 (TX6 3).1 (TX6 3).2.1 (TX6 3).2.2.1 ∈ uw := uw_in (i := 199) (by decide +kernel) (by decide +kernel)
theorem g_X6_23 (X : pCx p s m args c cc nL RX6 E A) {a0 : Nat} {fs : List Value} {v : Value} (hd : decode cc pc = .ok (.getfield 23, 3)) (hh : h a0 = some (ob 6 fs)) (kk : pV p l e R s m args below meth c nL E A Q z h k n (pc + 3) L (v :: st)) (hv : fs[3]? = some v := by rfl) : pV p l e R s m args below meth c nL E A Q z h k n pc L (.ref a0 :: st) := v_get (T := TX6) (ci := 6) (kf := 3) X hd inU6 rfl (by decide) wf_X6_23 hh hv kk
theorem p_X6_23 (X : pCx p s m args c cc nL RX6 E A) {a0 : Nat} {fs fs1 : List Value} {x : Int32} (hd : decode cc pc = .ok (.putfield 23, 3)) (hh : h a0 = some (ob 6 fs)) (kk : pV p l e R s m args below meth c nL E A Q z (pset h a0 (ob 6 fs1)) k n (pc + 3) L st) (hl : 3 < fs.length := by exact Nat.le_of_ble_eq_true rfl) (hfs : fs.set 3 (.int x) = fs1 := by rfl) : pV p l e R s m args below meth c nL E A Q z h k n pc L (.int x :: .ref a0 :: st) := by
  subst hfs
  exact v_put (T := TX6) (ci := 6) (kf := 3) X hd inU6 tyX6 tyX6_ok nmX6 rfl (by decide) wf_X6_23 rfl (ty := .int) (by decide +kernel) rfl rfl hh hl kk
theorem wf_X6_30 : Cond.fieldLink RX6 30 (TX6 4).1 (TX6 4).2.1 (TX6 4).2.2.1 ∈ uw := uw_in (i := 200) (by decide +kernel) (by decide +kernel)
theorem g_X6_30 (X : pCx p s m args c cc nL RX6 E A) {a0 : Nat} {fs : List Value} {v : Value} (hd : decode cc pc = .ok (.getfield 30, 3)) (hh : h a0 = some (ob 6 fs)) (kk : pV p l e R s m args below meth c nL E A Q z h k n (pc + 3) L (v :: st)) (hv : fs[4]? = some v := by rfl) : pV p l e R s m args below meth c nL E A Q z h k n pc L (.ref a0 :: st) := v_get (T := TX6) (ci := 6) (kf := 4) X hd inU6 rfl (by decide) wf_X6_30 hh hv kk
theorem p_X6_30 (X : pCx p s m args c cc nL RX6 E A) {a0 x : Nat} {fs fs1 : List Value} (hd : decode cc pc = .ok (.putfield 30, 3)) (hh : h a0 = some (ob 6 fs)) (hin2 : meth.name = "<init>") (kk : pV p l e R s m args below meth c nL E A Q z (pset h a0 (ob 6 fs1)) k n (pc + 3) L st) (hl : 4 < fs.length := by exact Nat.le_of_ble_eq_true rfl) (hfs : fs.set 4 (.ref x) = fs1 := by rfl) : pV p l e R s m args below meth c nL E A Q z h k n pc L (.ref x :: .ref a0 :: st) := by
  subst hfs
  exact v_putF (T := TX6) (ci := 6) (kf := 4) X hd inU6 tyX6 tyX6_ok nmX6 rfl (by decide) wf_X6_30 rfl hin2 rfl (ty := .object "PeatShares$Program") (by decide +kernel) rfl rfl hh hl kk
theorem wf_X7_7 : Cond.fieldLink RX7 7 (TX7 0).1 (TX7 0).2.1 (TX7 0).2.2.1 ∈ uw := uw_in (i := 678) (by decide +kernel) (by decide +kernel)
theorem g_X7_7 (X : pCx p s m args c cc nL RX7 E A) {a0 : Nat} {fs : List Value} {v : Value} (hd : decode cc pc = .ok (.getfield 7, 3)) (hh : h a0 = some (ob 7 fs)) (kk : pV p l e R s m args below meth c nL E A Q z h k n (pc + 3) L (v :: st)) (hv : fs[0]? = some v := by rfl) : pV p l e R s m args below meth c nL E A Q z h k n pc L (.ref a0 :: st) := v_get (T := TX7) (ci := 7) (kf := 0) X hd inU7 rfl (by decide) wf_X7_7 hh hv kk
theorem p_X7_7 (X : pCx p s m args c cc nL RX7 E A) {a0 x : Nat} {fs fs1 : List Value} (hd : decode cc pc = .ok (.putfield 7, 3)) (hh : h a0 = some (ob 7 fs)) (hin2 : meth.name = "<init>") (kk : pV p l e R s m args below meth c nL E A Q z (pset h a0 (ob 7 fs1)) k n (pc + 3) L st) (hl : 0 < fs.length := by exact Nat.le_of_ble_eq_true rfl) (hfs : fs.set 0 (.ref x) = fs1 := by rfl) : pV p l e R s m args below meth c nL E A Q z h k n pc L (.ref x :: .ref a0 :: st) := by
  subst hfs
  exact v_putF (T := TX7) (ci := 7) (kf := 0) X hd inU7 tyX7 tyX7_ok nmX7 rfl (by decide) wf_X7_7 rfl hin2 rfl (ty := .array (.int)) (by decide +kernel) rfl rfl hh hl kk
theorem wf_X7_13 : Cond.fieldLink RX7 13 (TX7 1).1 (TX7 1).2.1 (TX7 1).2.2.1 ∈ uw := uw_in (i := 679) (by decide +kernel) (by decide +kernel)
theorem g_X7_13 (X : pCx p s m args c cc nL RX7 E A) {a0 : Nat} {fs : List Value} {v : Value} (hd : decode cc pc = .ok (.getfield 13, 3)) (hh : h a0 = some (ob 7 fs)) (kk : pV p l e R s m args below meth c nL E A Q z h k n (pc + 3) L (v :: st)) (hv : fs[1]? = some v := by rfl) : pV p l e R s m args below meth c nL E A Q z h k n pc L (.ref a0 :: st) := v_get (T := TX7) (ci := 7) (kf := 1) X hd inU7 rfl (by decide) wf_X7_13 hh hv kk
theorem p_X7_13 (X : pCx p s m args c cc nL RX7 E A) {a0 x : Nat} {fs fs1 : List Value} (hd : decode cc pc = .ok (.putfield 13, 3)) (hh : h a0 = some (ob 7 fs)) (hin2 : meth.name = "<init>") (kk : pV p l e R s m args below meth c nL E A Q z (pset h a0 (ob 7 fs1)) k n (pc + 3) L st) (hl : 1 < fs.length := by exact Nat.le_of_ble_eq_true rfl) (hfs : fs.set 1 (.ref x) = fs1 := by rfl) : pV p l e R s m args below meth c nL E A Q z h k n pc L (.ref x :: .ref a0 :: st) := by
  subst hfs
  exact v_putF (T := TX7) (ci := 7) (kf := 1) X hd inU7 tyX7 tyX7_ok nmX7 rfl (by decide) wf_X7_13 rfl hin2 rfl (ty := .array (.int)) (by decide +kernel) rfl rfl hh hl kk
theorem wf_X7_16 : Cond.fieldLink RX7 16 (TX7 2).1 (TX7 2).2.1 (TX7 2).2.2.1 ∈ uw := uw_in (i := 680) (by decide +kernel) (by decide +kernel)
theorem g_X7_16 (X : pCx p s m args c cc nL RX7 E A) {a0 : Nat} {fs : List Value} {v : Value} (hd : decode cc pc = .ok (.getfield 16, 3)) (hh : h a0 = some (ob 7 fs)) (kk : pV p l e R s m args below meth c nL E A Q z h k n (pc + 3) L (v :: st)) (hv : fs[2]? = some v := by rfl) : pV p l e R s m args below meth c nL E A Q z h k n pc L (.ref a0 :: st) := v_get (T := TX7) (ci := 7) (kf := 2) X hd inU7 rfl (by decide) wf_X7_16 hh hv kk
theorem p_X7_16 (X : pCx p s m args c cc nL RX7 E A) {a0 x : Nat} {fs fs1 : List Value} (hd : decode cc pc = .ok (.putfield 16, 3)) (hh : h a0 = some (ob 7 fs)) (hin2 : meth.name = "<init>") (kk : pV p l e R s m args below meth c nL E A Q z (pset h a0 (ob 7 fs1)) k n (pc + 3) L st) (hl : 2 < fs.length := by exact Nat.le_of_ble_eq_true rfl) (hfs : fs.set 2 (.ref x) = fs1 := by rfl) : pV p l e R s m args below meth c nL E A Q z h k n pc L (.ref x :: .ref a0 :: st) := by
  subst hfs
  exact v_putF (T := TX7) (ci := 7) (kf := 2) X hd inU7 tyX7 tyX7_ok nmX7 rfl (by decide) wf_X7_16 rfl hin2 rfl (ty := .array (.int)) (by decide +kernel) rfl rfl hh hl kk
theorem wf_X7_29 : Cond.fieldLink RX7 29 (TX7 3).1 (TX7 3).2.1 (TX7 3).2.2.1 ∈ uw := uw_in (i := 681) (by decide +kernel) (by decide +kernel)
theorem g_X7_29 (X : pCx p s m args c cc nL RX7 E A) {a0 : Nat} {fs : List Value} {v : Value} (hd : decode cc pc = .ok (.getfield 29, 3)) (hh : h a0 = some (ob 7 fs)) (kk : pV p l e R s m args below meth c nL E A Q z h k n (pc + 3) L (v :: st)) (hv : fs[3]? = some v := by rfl) : pV p l e R s m args below meth c nL E A Q z h k n pc L (.ref a0 :: st) := v_get (T := TX7) (ci := 7) (kf := 3) X hd inU7 rfl (by decide) wf_X7_29 hh hv kk
theorem p_X7_29 (X : pCx p s m args c cc nL RX7 E A) {a0 : Nat} {fs fs1 : List Value} {x : Int32} (hd : decode cc pc = .ok (.putfield 29, 3)) (hh : h a0 = some (ob 7 fs)) (kk : pV p l e R s m args below meth c nL E A Q z (pset h a0 (ob 7 fs1)) k n (pc + 3) L st) (hl : 3 < fs.length := by exact Nat.le_of_ble_eq_true rfl) (hfs : fs.set 3 (.int x) = fs1 := by rfl) : pV p l e R s m args below meth c nL E A Q z h k n pc L (.int x :: .ref a0 :: st) := by
  subst hfs
  exact v_put (T := TX7) (ci := 7) (kf := 3) X hd inU7 tyX7 tyX7_ok nmX7 rfl (by decide) wf_X7_29 rfl (ty := .int) (by decide +kernel) rfl rfl hh hl kk
theorem wf_X7_25 : Cond.fieldLink RX7 25 (TX7 4).1 (TX7 4).2.1 (TX7 4).2.2.1 ∈ uw := uw_in (i := 682) (by decide +kernel) (by decide +kernel)
theorem g_X7_25 (X : pCx p s m args c cc nL RX7 E A) {a0 : Nat} {fs : List Value} {v : Value} (hd : decode cc pc = .ok (.getfield 25, 3)) (hh : h a0 = some (ob 7 fs)) (kk : pV p l e R s m args below meth c nL E A Q z h k n (pc + 3) L (v :: st)) (hv : fs[4]? = some v := by rfl) : pV p l e R s m args below meth c nL E A Q z h k n pc L (.ref a0 :: st) := v_get (T := TX7) (ci := 7) (kf := 4) X hd inU7 rfl (by decide) wf_X7_25 hh hv kk
theorem p_X7_25 (X : pCx p s m args c cc nL RX7 E A) {a0 : Nat} {fs fs1 : List Value} {x : Int32} (hd : decode cc pc = .ok (.putfield 25, 3)) (hh : h a0 = some (ob 7 fs)) (hnr : narrow .boolean (.int x) = .int x) (hft : fits .boolean (.int x) = true) (kk : pV p l e R s m args below meth c nL E A Q z (pset h a0 (ob 7 fs1)) k n (pc + 3) L st) (hl : 4 < fs.length := by exact Nat.le_of_ble_eq_true rfl) (hfs : fs.set 4 (.int x) = fs1 := by rfl) : pV p l e R s m args below meth c nL E A Q z h k n pc L (.int x :: .ref a0 :: st) := by
  subst hfs
  exact v_put (T := TX7) (ci := 7) (kf := 4) X hd inU7 tyX7 tyX7_ok nmX7 rfl (by decide) wf_X7_25 rfl (ty := .boolean) (by decide +kernel) hnr hft hh hl kk
theorem wf_X7_19 : Cond.fieldLink RX7 19 (TX7 5).1 (TX7 5).2.1 (TX7 5).2.2.1 ∈ uw := uw_in (i := 683) (by decide +kernel) (by decide +kernel)
theorem g_X7_19 (X : pCx p s m args c cc nL RX7 E A) {a0 : Nat} {fs : List Value} {v : Value} (hd : decode cc pc = .ok (.getfield 19, 3)) (hh : h a0 = some (ob 7 fs)) (kk : pV p l e R s m args below meth c nL E A Q z h k n (pc + 3) L (v :: st)) (hv : fs[5]? = some v := by rfl) : pV p l e R s m args below meth c nL E A Q z h k n pc L (.ref a0 :: st) := v_get (T := TX7) (ci := 7) (kf := 5) X hd inU7 rfl (by decide) wf_X7_19 hh hv kk
theorem p_X7_19 (X : pCx p s m args c cc nL RX7 E A) {a0 x : Nat} {fs fs1 : List Value} (hd : decode cc pc = .ok (.putfield 19, 3)) (hh : h a0 = some (ob 7 fs)) (hin2 : meth.name = "<init>") (kk : pV p l e R s m args below meth c nL E A Q z (pset h a0 (ob 7 fs1)) k n (pc + 3) L st) (hl : 5 < fs.length := by exact Nat.le_of_ble_eq_true rfl) (hfs : fs.set 5 (.ref x) = fs1 := by rfl) : pV p l e R s m args below meth c nL E A Q z h k n pc L (.ref x :: .ref a0 :: st) := by
  subst hfs
  exact v_putF (T := TX7) (ci := 7) (kf := 5) X hd inU7 tyX7 tyX7_ok nmX7 rfl (by decide) wf_X7_19 rfl hin2 rfl (ty := .array (.int)) (by decide +kernel) rfl rfl hh hl kk
theorem wf_X7_102 : Cond.fieldLink RX7 102 (TX7 6).1 (TX7 6).2.1 (TX7 6).2.2.1 ∈ uw := uw_in (i := 684) (by decide +kernel) (by decide +kernel)
theorem g_X7_102 (X : pCx p s m args c cc nL RX7 E A) {a0 : Nat} {fs : List Value} {v : Value} (hd : decode cc pc = .ok (.getfield 102, 3)) (hh : h a0 = some (ob 7 fs)) (kk : pV p l e R s m args below meth c nL E A Q z h k n (pc + 3) L (v :: st)) (hv : fs[6]? = some v := by rfl) : pV p l e R s m args below meth c nL E A Q z h k n pc L (.ref a0 :: st) := v_get (T := TX7) (ci := 7) (kf := 6) X hd inU7 rfl (by decide) wf_X7_102 hh hv kk
theorem p_X7_102 (X : pCx p s m args c cc nL RX7 E A) {a0 : Nat} {fs fs1 : List Value} {x : Int32} (hd : decode cc pc = .ok (.putfield 102, 3)) (hh : h a0 = some (ob 7 fs)) (kk : pV p l e R s m args below meth c nL E A Q z (pset h a0 (ob 7 fs1)) k n (pc + 3) L st) (hl : 6 < fs.length := by exact Nat.le_of_ble_eq_true rfl) (hfs : fs.set 6 (.int x) = fs1 := by rfl) : pV p l e R s m args below meth c nL E A Q z h k n pc L (.int x :: .ref a0 :: st) := by
  subst hfs
  exact v_put (T := TX7) (ci := 7) (kf := 6) X hd inU7 tyX7 tyX7_ok nmX7 rfl (by decide) wf_X7_102 rfl (ty := .int) (by decide +kernel) rfl rfl hh hl kk
theorem wf_X7_105 : Cond.fieldLink RX7 105 (TX7 7).1 (TX7 7).2.1 (TX7 7).2.2.1 ∈ uw := uw_in (i := 685) (by decide +kernel) (by decide +kernel)
theorem g_X7_105 (X : pCx p s m args c cc nL RX7 E A) {a0 : Nat} {fs : List Value} {v : Value} (hd : decode cc pc = .ok (.getfield 105, 3)) (hh : h a0 = some (ob 7 fs)) (kk : pV p l e R s m args below meth c nL E A Q z h k n (pc + 3) L (v :: st)) (hv : fs[7]? = some v := by rfl) : pV p l e R s m args below meth c nL E A Q z h k n pc L (.ref a0 :: st) := v_get (T := TX7) (ci := 7) (kf := 7) X hd inU7 rfl (by decide) wf_X7_105 hh hv kk
theorem p_X7_105 (X : pCx p s m args c cc nL RX7 E A) {a0 : Nat} {fs fs1 : List Value} {x : Int32} (hd : decode cc pc = .ok (.putfield 105, 3)) (hh : h a0 = some (ob 7 fs)) (kk : pV p l e R s m args below meth c nL E A Q z (pset h a0 (ob 7 fs1)) k n (pc + 3) L st) (hl : 7 < fs.length := by exact Nat.le_of_ble_eq_true rfl) (hfs : fs.set 7 (.int x) = fs1 := by rfl) : pV p l e R s m args below meth c nL E A Q z h k n pc L (.int x :: .ref a0 :: st) := by
  subst hfs
  exact v_put (T := TX7) (ci := 7) (kf := 7) X hd inU7 tyX7 tyX7_ok nmX7 rfl (by decide) wf_X7_105 rfl (ty := .int) (by decide +kernel) rfl rfl hh hl kk
theorem wf_X7_108 : Cond.fieldLink RX7 108 (TX7 8).1 (TX7 8).2.1 (TX7 8).2.2.1 ∈ uw := uw_in (i := 686) (by decide +kernel) (by decide +kernel)
theorem g_X7_108 (X : pCx p s m args c cc nL RX7 E A) {a0 : Nat} {fs : List Value} {v : Value} (hd : decode cc pc = .ok (.getfield 108, 3)) (hh : h a0 = some (ob 7 fs)) (kk : pV p l e R s m args below meth c nL E A Q z h k n (pc + 3) L (v :: st)) (hv : fs[8]? = some v := by rfl) : pV p l e R s m args below meth c nL E A Q z h k n pc L (.ref a0 :: st) := v_get (T := TX7) (ci := 7) (kf := 8) X hd inU7 rfl (by decide) wf_X7_108 hh hv kk
theorem p_X7_108 (X : pCx p s m args c cc nL RX7 E A) {a0 : Nat} {fs fs1 : List Value} {x : Int32} (hd : decode cc pc = .ok (.putfield 108, 3)) (hh : h a0 = some (ob 7 fs)) (kk : pV p l e R s m args below meth c nL E A Q z (pset h a0 (ob 7 fs1)) k n (pc + 3) L st) (hl : 8 < fs.length := by exact Nat.le_of_ble_eq_true rfl) (hfs : fs.set 8 (.int x) = fs1 := by rfl) : pV p l e R s m args below meth c nL E A Q z h k n pc L (.int x :: .ref a0 :: st) := by
  subst hfs
  exact v_put (T := TX7) (ci := 7) (kf := 8) X hd inU7 tyX7 tyX7_ok nmX7 rfl (by decide) wf_X7_108 rfl (ty := .int) (by decide +kernel) rfl rfl hh hl kk
theorem wf_X7_114 : Cond.fieldLink RX7 114 (TX7 9).1 (TX7 9).2.1 (TX7 9).2.2.1 ∈ uw := uw_in (i := 687) (by decide +kernel) (by decide +kernel)
theorem g_X7_114 (X : pCx p s m args c cc nL RX7 E A) {a0 : Nat} {fs : List Value} {v : Value} (hd : decode cc pc = .ok (.getfield 114, 3)) (hh : h a0 = some (ob 7 fs)) (kk : pV p l e R s m args below meth c nL E A Q z h k n (pc + 3) L (v :: st)) (hv : fs[9]? = some v := by rfl) : pV p l e R s m args below meth c nL E A Q z h k n pc L (.ref a0 :: st) := v_get (T := TX7) (ci := 7) (kf := 9) X hd inU7 rfl (by decide) wf_X7_114 hh hv kk
theorem p_X7_114 (X : pCx p s m args c cc nL RX7 E A) {a0 : Nat} {fs fs1 : List Value} {x : Int32} (hd : decode cc pc = .ok (.putfield 114, 3)) (hh : h a0 = some (ob 7 fs)) (kk : pV p l e R s m args below meth c nL E A Q z (pset h a0 (ob 7 fs1)) k n (pc + 3) L st) (hl : 9 < fs.length := by exact Nat.le_of_ble_eq_true rfl) (hfs : fs.set 9 (.int x) = fs1 := by rfl) : pV p l e R s m args below meth c nL E A Q z h k n pc L (.int x :: .ref a0 :: st) := by
  subst hfs
  exact v_put (T := TX7) (ci := 7) (kf := 9) X hd inU7 tyX7 tyX7_ok nmX7 rfl (by decide) wf_X7_114 rfl (ty := .int) (by decide +kernel) rfl rfl hh hl kk
theorem wf_X7_22 : Cond.fieldLink RX7 22 (TX7 10).1 (TX7 10).2.1 (TX7 10).2.2.1 ∈ uw := uw_in (i := 688) (by decide +kernel) (by decide +kernel)
theorem g_X7_22 (X : pCx p s m args c cc nL RX7 E A) {a0 : Nat} {fs : List Value} {v : Value} (hd : decode cc pc = .ok (.getfield 22, 3)) (hh : h a0 = some (ob 7 fs)) (kk : pV p l e R s m args below meth c nL E A Q z h k n (pc + 3) L (v :: st)) (hv : fs[10]? = some v := by rfl) : pV p l e R s m args below meth c nL E A Q z h k n pc L (.ref a0 :: st) := v_get (T := TX7) (ci := 7) (kf := 10) X hd inU7 rfl (by decide) wf_X7_22 hh hv kk
theorem p_X7_22 (X : pCx p s m args c cc nL RX7 E A) {a0 x : Nat} {fs fs1 : List Value} (hd : decode cc pc = .ok (.putfield 22, 3)) (hh : h a0 = some (ob 7 fs)) (hin2 : meth.name = "<init>") (kk : pV p l e R s m args below meth c nL E A Q z (pset h a0 (ob 7 fs1)) k n (pc + 3) L st) (hl : 10 < fs.length := by exact Nat.le_of_ble_eq_true rfl) (hfs : fs.set 10 (.ref x) = fs1 := by rfl) : pV p l e R s m args below meth c nL E A Q z h k n pc L (.ref x :: .ref a0 :: st) := by
  subst hfs
  exact v_putF (T := TX7) (ci := 7) (kf := 10) X hd inU7 tyX7 tyX7_ok nmX7 rfl (by decide) wf_X7_22 rfl hin2 rfl (ty := .array (.int)) (by decide +kernel) rfl rfl hh hl kk
theorem wf_X7_155 : Cond.fieldLink RX7 155 (TX7 11).1 (TX7 11).2.1 (TX7 11).2.2.1 ∈ uw := uw_in (i := 689) (by decide +kernel) (by decide +kernel)
theorem g_X7_155 (X : pCx p s m args c cc nL RX7 E A) {a0 : Nat} {fs : List Value} {v : Value} (hd : decode cc pc = .ok (.getfield 155, 3)) (hh : h a0 = some (ob 7 fs)) (kk : pV p l e R s m args below meth c nL E A Q z h k n (pc + 3) L (v :: st)) (hv : fs[11]? = some v := by rfl) : pV p l e R s m args below meth c nL E A Q z h k n pc L (.ref a0 :: st) := v_get (T := TX7) (ci := 7) (kf := 11) X hd inU7 rfl (by decide) wf_X7_155 hh hv kk
theorem p_X7_155 (X : pCx p s m args c cc nL RX7 E A) {a0 : Nat} {fs fs1 : List Value} {x : Int32} (hd : decode cc pc = .ok (.putfield 155, 3)) (hh : h a0 = some (ob 7 fs)) (kk : pV p l e R s m args below meth c nL E A Q z (pset h a0 (ob 7 fs1)) k n (pc + 3) L st) (hl : 11 < fs.length := by exact Nat.le_of_ble_eq_true rfl) (hfs : fs.set 11 (.int x) = fs1 := by rfl) : pV p l e R s m args below meth c nL E A Q z h k n pc L (.int x :: .ref a0 :: st) := by
  subst hfs
  exact v_put (T := TX7) (ci := 7) (kf := 11) X hd inU7 tyX7 tyX7_ok nmX7 rfl (by decide) wf_X7_155 rfl (ty := .int) (by decide +kernel) rfl rfl hh hl kk
end PVF
end
section
/-! further rows: truth values, indices that are numbers, loops, calls that change nothing -/
def bI (P : Prop) [Decidable P] : Int32 := if P then 1 else 0
theorem bI_t {P : Prop} [Decidable P] (hp : P) : bI P = 1 := if_pos hp
theorem bI_f {P : Prop} [Decidable P] (hp : ¬ P) : bI P = 0 := if_neg hp
theorem bI_n (P : Prop) [Decidable P] : narrow .boolean (.int (bI P)) = .int (bI P) := by
  by_cases hp : P
  · rw [bI_t hp]; rfl
  · rw [bI_f hp]; rfl
theorem bI_v (P : Prop) [Decidable P] : vp_nar .boolean (bI P) = bI P := by
  by_cases hp : P
  · rw [bI_t hp]; rfl
  · rw [bI_f hp]; rfl
theorem bI_iff {P P2 : Prop} [Decidable P] [Decidable P2] (hp : P ↔ P2) : bI P = bI P2 := by
  by_cases q : P
  · rw [bI_t q, bI_t (hp.mp q)]
  · rw [bI_f q, bI_f (fun w => q (hp.mpr w))]
/-- h and h1 are alike but between lo and hi -/
def pO (lo hi : Nat) (h h1 : pH) : Prop := ∀ q : Nat, q < lo ∨ hi ≤ q → h1 q = h q
theorem pO.rf {lo hi : Nat} {h : pH} : pO lo hi h h := fun _ _ => rfl
theorem pO.tr {lo hi : Nat} {h h1 h2 : pH} (a : pO lo hi h h1) (b : pO lo hi h1 h2) : pO lo hi h h2 := fun q hq => (b q hq).trans (a q hq)
theorem pO.set {lo hi a : Nat} {h h1 : pH} {x : va_E} (a0 : pO lo hi h h1) (h1' : lo ≤ a) (h2 : a < hi) : pO lo hi h (pset h1 a x) := fun q hq => (pset_n (by omega)).trans (a0 q hq)
theorem pO.mono {lo hi lo2 hi2 : Nat} {h h1 : pH} (a : pO lo hi h h1) (h1' : lo2 ≤ lo) (h2 : hi ≤ hi2) : pO lo2 hi2 h h1 := fun q hq => a q (by omega)
def pFp (f : Int32) : pH → Nat → Option Value → pH → Nat → Prop := fun h z v h' z' => v = some (.int f) ∧ h' = h ∧ z' = z
def pFi (P : pH → Int32 → pH → Prop) : pH → Nat → Option Value → pH → Nat → Prop := fun h z v h' z' => z' = z ∧ ∃ r, v = some (.int r) ∧ P h r h'
def pFv (P : pH → pH → Prop) : pH → Nat → Option Value → pH → Nat → Prop := fun h z v h' z' => z' = z ∧ v = none ∧ P h h'
section PVM
variable {p : Program} {l : Launch} {e : Env} {R : Room} {s : State} {m : MethodId} {args : Array Value} {below : List Frame} {meth : Method} {c : Code} {cc : ByteArray} {nL : Nat} {own : String} {E : pE} {A : Nat → Prop} {Q : State → Prop} {z : Nat} {h : pH} {k n : Nat} {pc : Nat} {L : List (Option Value)} {st st0 : List Value}
variable {h0 : pH} {z0 : Nat} {y : MethodName} {cy : ByteArray} {ny N idx : Nat} {ret : Option FieldType} {rm : Room} {mc ms : Nat} {As : List Value} {pre : pH → Nat → Prop} {post : pH → Nat → Option Value → pH → Nat → Prop}
theorem v_ifeqB (X : pCx p s m args c cc nL own E A) {P : Prop} [Decidable P] {off : Int} {tgt : Nat} (hd : decode cc pc = .ok (.ifCond .eq off, 3)) (ht : (pc : Int) + off = (tgt : Int) := by decide) (kt : ¬ P → pV p l e R s m args below meth c nL E A Q z h k n tgt L st) (kf : P → pV p l e R s m args below meth c nL E A Q z h k n (pc + 3) L st) : pV p l e R s m args below meth c nL E A Q z h k n pc L (.int (bI P) :: st) := by
  refine v_ifeq (tgt := tgt) X (hd := hd) (ht := ht) (kt := fun q => kt (fun hp => ?_)) (kf := fun q => ?_)
  · rw [bI_t hp] at q; exact absurd q (by decide)
  · by_cases hp : P
    · exact kf hp
    · exact absurd (bI_f hp) q
theorem v_ifneB (X : pCx p s m args c cc nL own E A) {P : Prop} [Decidable P] {off : Int} {tgt : Nat} (hd : decode cc pc = .ok (.ifCond .ne off, 3)) (ht : (pc : Int) + off = (tgt : Int) := by decide) (kt : P → pV p l e R s m args below meth c nL E A Q z h k n tgt L st) (kf : ¬ P → pV p l e R s m args below meth c nL E A Q z h k n (pc + 3) L st) : pV p l e R s m args below meth c nL E A Q z h k n pc L (.int (bI P) :: st) := by
  refine v_ifne (tgt := tgt) X (hd := hd) (ht := ht) (kt := fun q => ?_) (kf := fun q => kf (fun hp => ?_))
  · by_cases hp : P
    · exact kt hp
    · exact absurd (bI_f hp) q
  · rw [bI_t hp] at q; exact q (by decide)
theorem v_ialdN (X : pCx p s m args c cc nL own E A) {a0 M : Nat} {f : Nat → Int32} {i : Int32} (j : Nat) (hd : decode cc pc = .ok (.iaload, 1)) (hh : h a0 = some (ai 1 M f)) (hi : i = nI j) (hj : j < M) (kk : pV p l e R s m args below meth c nL E A Q z h k n (pc + 1) L (.int (f j) :: st)) (hM : M < 2 ^ 31 := by decide) : pV p l e R s m args below meth c nL E A Q z h k n pc L (.int i :: .ref a0 :: st) := by
  subst hi
  refine v_iald X hd hh (vp_in_nI hj hM) ?_
  rw [nI_clamp (Nat.lt_trans hj hM)]
  exact kk
theorem v_zaldN (X : pCx p s m args c cc nL own E A) {a0 M : Nat} {f : Nat → Int32} {i : Int32} (j : Nat) (hd : decode cc pc = .ok (.baload, 1)) (hh : h a0 = some (ai 2 M f)) (hi : i = nI j) (hj : j < M) (kk : pV p l e R s m args below meth c nL E A Q z h k n (pc + 1) L (.int (f j) :: st)) (hM : M < 2 ^ 31 := by decide) : pV p l e R s m args below meth c nL E A Q z h k n pc L (.int i :: .ref a0 :: st) := by
  subst hi
  refine v_zald X hd hh (vp_in_nI hj hM) ?_
  rw [nI_clamp (Nat.lt_trans hj hM)]
  exact kk
theorem v_caldN (X : pCx p s m args c cc nL own E A) {a0 M : Nat} {f : Nat → Int32} {i : Int32} (j : Nat) (hd : decode cc pc = .ok (.caload, 1)) (hh : h a0 = some (ai 0 M f)) (hi : i = nI j) (hj : j < M) (kk : pV p l e R s m args below meth c nL E A Q z h k n (pc + 1) L (.int (f j) :: st)) (hM : M < 2 ^ 31 := by decide) : pV p l e R s m args below meth c nL E A Q z h k n pc L (.int i :: .ref a0 :: st) := by
  subst hi
  refine v_cald X hd hh (vp_in_nI hj hM) ?_
  rw [nI_clamp (Nat.lt_trans hj hM)]
  exact kk
theorem v_aaldN (X : pCx p s m args c cc nL own E A) {a0 M ki y1 : Nat} {C : String} {f : Nat → Option Nat} {i : Int32} (j : Nat) (hd : decode cc pc = .ok (.aaload, 1)) (hh : h a0 = some (ar ki M f)) (hi : i = nI j) (hj : j < M) (hf : f j = some y1) (kk : pV p l e R s m args below meth c nL E A Q z h k n (pc + 1) L (.ref y1 :: st)) (hM : M < 2 ^ 31 := by decide) (hki : ki < 8 := by decide) (hC : pT ki = .object C := by rfl) : pV p l e R s m args below meth c nL E A Q z h k n pc L (.int i :: .ref a0 :: st) := by
  subst hi
  exact v_aald X hd hh (vp_in_nI hj hM) hki hC (by rw [nI_clamp (Nat.lt_trans hj hM)]; exact hf) kk
theorem v_iastN (X : pCx p s m args c cc nL own E A) {a0 M : Nat} {f : Nat → Int32} {i x : Int32} (j : Nat) (hd : decode cc pc = .ok (.iastore, 1)) (hh : h a0 = some (ai 1 M f)) (hi : i = nI j) (hj : j < M) (kk : pV p l e R s m args below meth c nL E A Q z (pset h a0 (ai 1 M (upd f j x))) k n (pc + 1) L st) (hM : M < 2 ^ 31 := by decide) : pV p l e R s m args below meth c nL E A Q z h k n pc L (.int x :: .int i :: .ref a0 :: st) := by
  subst hi
  refine v_iast X hd hh (vp_in_nI hj hM) ?_
  rw [nI_clamp (Nat.lt_trans hj hM)]
  exact kk
theorem v_zastN (X : pCx p s m args c cc nL own E A) {a0 M : Nat} {f : Nat → Int32} {i x x1 : Int32} (j : Nat) (hd : decode cc pc = .ok (.bastore, 1)) (hh : h a0 = some (ai 2 M f)) (hi : i = nI j) (hj : j < M) (hx : vp_nar .boolean x = x1) (kk : pV p l e R s m args below meth c nL E A Q z (pset h a0 (ai 2 M (upd f j x1))) k n (pc + 1) L st) (hM : M < 2 ^ 31 := by decide) : pV p l e R s m args below meth c nL E A Q z h k n pc L (.int x :: .int i :: .ref a0 :: st) := by
  subst hi
  refine v_zast X hd hh (vp_in_nI hj hM) ?_
  rw [nI_clamp (Nat.lt_trans hj hM)]
  rw [hx]
  exact kk
theorem v_castN (X : pCx p s m args c cc nL own E A) {a0 M : Nat} {f : Nat → Int32} {i x x1 : Int32} (j : Nat) (hd : decode cc pc = .ok (.castore, 1)) (hh : h a0 = some (ai 0 M f)) (hi : i = nI j) (hj : j < M) (hx : vp_nar .char x = x1) (kk : pV p l e R s m args below meth c nL E A Q z (pset h a0 (ai 0 M (upd f j x1))) k n (pc + 1) L st) (hM : M < 2 ^ 31 := by decide) : pV p l e R s m args below meth c nL E A Q z h k n pc L (.int x :: .int i :: .ref a0 :: st) := by
  subst hi
  refine v_cast X hd hh (vp_in_nI hj hM) ?_
  rw [nI_clamp (Nat.lt_trans hj hM)]
  rw [hx]
  exact kk
theorem v_aastN (X : pCx p s m args c cc nL own E A) {a0 M ki y1 ci : Nat} {r : vw_C} {vs : List Value} {f : Nat → Option Nat} {i : Int32} (j : Nat) (hd : decode cc pc = .ok (.aastore, 1)) (hh : h a0 = some (ar ki M f)) (hv : h y1 = some (ob ci vs)) (hi : i = nI j) (hj : j < M) (kk : pV p l e R s m args below meth c nL E A Q z (pset h a0 (ar ki M (va_up f j (some y1)))) k n (pc + 1) L st) (hM : M < 2 ^ 31 := by decide) (hki : ki < 8 := by decide) (hc0 : vwCl[ci]? = some r := by rfl) (hC : pT ki = .object r.1 := by rfl) : pV p l e R s m args below meth c nL E A Q z h k n pc L (.ref y1 :: .int i :: .ref a0 :: st) := by
  subst hi
  refine v_aast X hd hh hv (vp_in_nI hj hM) hki hc0 hC ?_
  rw [nI_clamp (Nat.lt_trans hj hM)]
  exact kk
theorem v_iincN (X : pCx p s m args c cc nL own E A) {j i : Nat} (hd : decode cc pc = .ok (.iinc j 1, 3)) (hl : L[j]? = some (some (.int (nI i))) := by rfl) (hn : j < nL := by decide) (kk : pV p l e R s m args below meth c nL E A Q z h k n (pc + 3) (lset L j (.int (nI (i + 1)))) st) : pV p l e R s m args below meth c nL E A Q z h k n pc L st := v_iinc X (hd := hd) (hl := hl) (hv := (nI_succ i).symm) (hn := hn) (kk := kk)
theorem v_iinc1 (X : pCx p s m args c cc nL own E A) {j : Nat} {x : Int32} (hd : decode cc pc = .ok (.iinc j 1, 3)) (hl : L[j]? = some (some (.int x)) := by rfl) (hn : j < nL := by decide) (kk : pV p l e R s m args below meth c nL E A Q z h k n (pc + 3) (lset L j (.int (x + 1))) st) : pV p l e R s m args below meth c nL E A Q z h k n pc L st := v_iinc X (hd := hd) (hl := hl) (hv := rfl) (hn := hn) (kk := kk)
theorem v_gen (P : pH → Prop) (hP : P h) (kk : ∀ h1 : pH, P h1 → pV p l e R s m args below meth c nL E A Q z h1 k n pc L st) : pV p l e R s m args below meth c nL E A Q z h k n pc L st := kk h hP
/-- a loop over i from 0 to M -/
theorem v_for (M : Nat) (Lf : Nat → List (Option Value)) (I : Nat → pH → Prop) (h0 : I 0 h) (hL : L = Lf 0 := by rfl) (step : ∀ (i : Nat) (h1 : pH), i < M → I i h1 → (∀ h2 : pH, I (i + 1) h2 → pV p l e R s m args below meth c nL E A Q z h2 k n pc (Lf (i + 1)) st) → pV p l e R s m args below meth c nL E A Q z h1 k n pc (Lf i) st) (out : ∀ h1 : pH, I M h1 → pV p l e R s m args below meth c nL E A Q z h1 k n pc (Lf M) st) : pV p l e R s m args below meth c nL E A Q z h k n pc L st := by
  subst hL
  have K : ∀ (d i : Nat) (h1 : pH), i + d = M → I i h1 → pV p l e R s m args below meth c nL E A Q z h1 k n pc (Lf i) st := by
    intro d
    induction d with
    | zero => intro i h1 hi hI; obtain rfl : i = M := by omega
              exact out h1 hI
    | succ d ih => intro i h1 hi hI; exact step i h1 (by omega) hI (fun h2 h3 => ih (i + 1) h2 (by omega) h3)
  exact K M 0 h (by omega) h0
/-- a loop over i from 0 to M that changes no cell -/
theorem v_forp (M : Nat) (Lf : Nat → List (Option Value)) (hL : L = Lf 0 := by rfl) (step : ∀ (i : Nat), i < M → pV p l e R s m args below meth c nL E A Q z h k n pc (Lf (i + 1)) st → pV p l e R s m args below meth c nL E A Q z h k n pc (Lf i) st) (out : pV p l e R s m args below meth c nL E A Q z h k n pc (Lf M) st) : pV p l e R s m args below meth c nL E A Q z h k n pc L st := by
  subst hL
  have K : ∀ (d i : Nat), i + d = M → pV p l e R s m args below meth c nL E A Q z h k n pc (Lf i) st := by
    intro d
    induction d with
    | zero => intro i hi; obtain rfl : i = M := by omega
              exact out
    | succ d ih => intro i hi; exact step i (by omega) (ih (i + 1) (by omega))
  exact K M 0 (by omega)
theorem v_callVp (X : pCx p s m args c cc nL own E A) {b ci : Nat} {r : vw_C} {fs : List Value} {f : Int32} (hd : decode cc pc = .ok (.invokevirtual idx, 3)) (w : pWV own idx y cy ny ret N) (hC : pC l E y cy ny ret rm 0 0 (.ref b :: As) pre (pFp f)) (hp : pre h z) (hb : h b = some (ob ci fs)) (kk : pV p l e R s m args below meth c nL E A Q z h k n (pc + 3) L (.int f :: st)) (hcl : vwCl[ci]? = some r := by rfl) (hr : r.1 = y.cls := by rfl) (hN : As.length = N := by rfl) (hst : st0 = As.reverse ++ .ref b :: st := by rfl) (hrm : rm.cells = 0 ∧ rm.slots = 0 := by exact ⟨rfl, rfl⟩) (hR : rm.frames + 1 ≤ R.frames ∧ 8 + (ny + 11) + rm.locals ≤ R.locals := by decide) (hf : k + 0 ≤ R.cells ∧ n + 0 ≤ R.slots := by decide) (hW : (st.map fun v => v.category).sum ≤ 8 := by exact Nat.le_of_ble_eq_true rfl) : pV p l e R s m args below meth c nL E A Q z h k n pc L st0 := by
  refine v_callV X hd w hC hp hb (fun v h' z' hq => ?_) hcl hr hN hst hrm hR hf hW
  obtain ⟨rfl, rfl, rfl⟩ := hq
  exact kk
theorem v_callVi (X : pCx p s m args c cc nL own E A) {b ci : Nat} {r : vw_C} {fs : List Value} {P : pH → Int32 → pH → Prop} (hd : decode cc pc = .ok (.invokevirtual idx, 3)) (w : pWV own idx y cy ny ret N) (hC : pC l E y cy ny ret rm 0 0 (.ref b :: As) pre (pFi P)) (hp : pre h z) (hb : h b = some (ob ci fs)) (kk : ∀ (r : Int32) (h' : pH), P h r h' → pV p l e R s m args below meth c nL E A Q z h' k n (pc + 3) L (.int r :: st)) (hcl : vwCl[ci]? = some r := by rfl) (hr : r.1 = y.cls := by rfl) (hN : As.length = N := by rfl) (hst : st0 = As.reverse ++ .ref b :: st := by rfl) (hrm : rm.cells = 0 ∧ rm.slots = 0 := by exact ⟨rfl, rfl⟩) (hR : rm.frames + 1 ≤ R.frames ∧ 8 + (ny + 11) + rm.locals ≤ R.locals := by decide) (hf : k + 0 ≤ R.cells ∧ n + 0 ≤ R.slots := by decide) (hW : (st.map fun v => v.category).sum ≤ 8 := by exact Nat.le_of_ble_eq_true rfl) : pV p l e R s m args below meth c nL E A Q z h k n pc L st0 := by
  refine v_callV X hd w hC hp hb (fun v h' z' hq => ?_) hcl hr hN hst hrm hR hf hW
  obtain ⟨rfl, r, rfl, hq⟩ := hq
  exact kk r h' hq
theorem v_callVv (X : pCx p s m args c cc nL own E A) {b ci : Nat} {r : vw_C} {fs : List Value} {P : pH → pH → Prop} (hd : decode cc pc = .ok (.invokevirtual idx, 3)) (w : pWV own idx y cy ny none N) (hC : pC l E y cy ny none rm 0 0 (.ref b :: As) pre (pFv P)) (hp : pre h z) (hb : h b = some (ob ci fs)) (kk : ∀ (h' : pH), P h h' → pV p l e R s m args below meth c nL E A Q z h' k n (pc + 3) L st) (hcl : vwCl[ci]? = some r := by rfl) (hr : r.1 = y.cls := by rfl) (hN : As.length = N := by rfl) (hst : st0 = As.reverse ++ .ref b :: st := by rfl) (hrm : rm.cells = 0 ∧ rm.slots = 0 := by exact ⟨rfl, rfl⟩) (hR : rm.frames + 1 ≤ R.frames ∧ 8 + (ny + 11) + rm.locals ≤ R.locals := by decide) (hf : k + 0 ≤ R.cells ∧ n + 0 ≤ R.slots := by decide) (hW : (st.map fun v => v.category).sum ≤ 8 := by exact Nat.le_of_ble_eq_true rfl) : pV p l e R s m args below meth c nL E A Q z h k n pc L st0 := by
  refine v_callV X hd w hC hp hb (fun v h' z' hq => ?_) hcl hr hN hst hrm hR hf hW
  obtain ⟨rfl, rfl, hq⟩ := hq
  exact kk h' hq
theorem v_callSp (X : pCx p s m args c cc nL own E A)  {f : Int32} (hd : decode cc pc = .ok (.invokestatic idx, 3)) (w : pWS own idx y cy ny ret N) (hC : pC l E y cy ny ret rm 0 0 As pre (pFp f)) (hp : pre h z)  (kk : pV p l e R s m args below meth c nL E A Q z h k n (pc + 3) L (.int f :: st)) (hN : As.length = N := by rfl) (hst : st0 = As.reverse ++ st := by rfl) (hrm : rm.cells = 0 ∧ rm.slots = 0 := by exact ⟨rfl, rfl⟩) (hR : rm.frames + 1 ≤ R.frames ∧ 8 + (ny + 11) + rm.locals ≤ R.locals := by decide) (hf : k + 0 ≤ R.cells ∧ n + 0 ≤ R.slots := by decide) (hW : (st.map fun v => v.category).sum ≤ 8 := by exact Nat.le_of_ble_eq_true rfl) : pV p l e R s m args below meth c nL E A Q z h k n pc L st0 := by
  refine v_callS X hd w hC hp (fun v h' z' hq => ?_) hN hst hrm hR hf hW
  obtain ⟨rfl, rfl, rfl⟩ := hq
  exact kk
theorem v_callSi (X : pCx p s m args c cc nL own E A)  {P : pH → Int32 → pH → Prop} (hd : decode cc pc = .ok (.invokestatic idx, 3)) (w : pWS own idx y cy ny ret N) (hC : pC l E y cy ny ret rm 0 0 As pre (pFi P)) (hp : pre h z)  (kk : ∀ (r : Int32) (h' : pH), P h r h' → pV p l e R s m args below meth c nL E A Q z h' k n (pc + 3) L (.int r :: st)) (hN : As.length = N := by rfl) (hst : st0 = As.reverse ++ st := by rfl) (hrm : rm.cells = 0 ∧ rm.slots = 0 := by exact ⟨rfl, rfl⟩) (hR : rm.frames + 1 ≤ R.frames ∧ 8 + (ny + 11) + rm.locals ≤ R.locals := by decide) (hf : k + 0 ≤ R.cells ∧ n + 0 ≤ R.slots := by decide) (hW : (st.map fun v => v.category).sum ≤ 8 := by exact Nat.le_of_ble_eq_true rfl) : pV p l e R s m args below meth c nL E A Q z h k n pc L st0 := by
  refine v_callS X hd w hC hp (fun v h' z' hq => ?_) hN hst hrm hR hf hW
  obtain ⟨rfl, r, rfl, hq⟩ := hq
  exact kk r h' hq
theorem v_callSNp (X : pCx p s m args c cc nL own E A) {host : String} {f : Int32} (hd : decode cc pc = .ok (.invokestatic idx, 3)) (w : pWN own idx y host cy ny ret N ∧ Cond.static y ∈ uw) (hC : pC l E y cy ny ret rm 0 0 As pre (pFp f)) (hp : pre h z)  (kk : pV p l e R s m args below meth c nL E A Q z h k n (pc + 3) L (.int f :: st)) (hN : As.length = N := by rfl) (hst : st0 = As.reverse ++ st := by rfl) (hrm : rm.cells = 0 ∧ rm.slots = 0 := by exact ⟨rfl, rfl⟩) (hR : rm.frames + 1 ≤ R.frames ∧ 8 + (ny + 11) + rm.locals ≤ R.locals := by decide) (hf : k + 0 ≤ R.cells ∧ n + 0 ≤ R.slots := by decide) (hW : (st.map fun v => v.category).sum ≤ 8 := by exact Nat.le_of_ble_eq_true rfl) : pV p l e R s m args below meth c nL E A Q z h k n pc L st0 := by
  refine v_callSN X hd w hC hp (fun v h' z' hq => ?_) hN hst hrm hR hf hW
  obtain ⟨rfl, rfl, rfl⟩ := hq
  exact kk
theorem v_callSNi (X : pCx p s m args c cc nL own E A) {host : String} {P : pH → Int32 → pH → Prop} (hd : decode cc pc = .ok (.invokestatic idx, 3)) (w : pWN own idx y host cy ny ret N ∧ Cond.static y ∈ uw) (hC : pC l E y cy ny ret rm 0 0 As pre (pFi P)) (hp : pre h z)  (kk : ∀ (r : Int32) (h' : pH), P h r h' → pV p l e R s m args below meth c nL E A Q z h' k n (pc + 3) L (.int r :: st)) (hN : As.length = N := by rfl) (hst : st0 = As.reverse ++ st := by rfl) (hrm : rm.cells = 0 ∧ rm.slots = 0 := by exact ⟨rfl, rfl⟩) (hR : rm.frames + 1 ≤ R.frames ∧ 8 + (ny + 11) + rm.locals ≤ R.locals := by decide) (hf : k + 0 ≤ R.cells ∧ n + 0 ≤ R.slots := by decide) (hW : (st.map fun v => v.category).sum ≤ 8 := by exact Nat.le_of_ble_eq_true rfl) : pV p l e R s m args below meth c nL E A Q z h k n pc L st0 := by
  refine v_callSN X hd w hC hp (fun v h' z' hq => ?_) hN hst hrm hR hf hW
  obtain ⟨rfl, r, rfl, hq⟩ := hq
  exact kk r h' hq
theorem v_callIv (X : pCx p s m args c cc nL own E A) {b : Nat} {P : pH → pH → Prop} (hd : decode cc pc = .ok (.invokespecial idx, 3)) (w : pWI own idx y cy ny N) (hC : pC l E y cy ny none rm 0 0 (.ref b :: As) pre (pFv P)) (hp : pre h z)  (kk : ∀ (h' : pH), P h h' → pV p l e R s m args below meth c nL E A Q z h' k n (pc + 3) L st) (hN : As.length = N := by rfl) (hst : st0 = As.reverse ++ .ref b :: st := by rfl) (hrm : rm.cells = 0 ∧ rm.slots = 0 := by exact ⟨rfl, rfl⟩) (hR : rm.frames + 1 ≤ R.frames ∧ 8 + (ny + 11) + rm.locals ≤ R.locals := by decide) (hf : k + 0 ≤ R.cells ∧ n + 0 ≤ R.slots := by decide) (hW : (st.map fun v => v.category).sum ≤ 8 := by exact Nat.le_of_ble_eq_true rfl) : pV p l e R s m args below meth c nL E A Q z h k n pc L st0 := by
  refine v_callI X hd w hC hp (fun v h' z' hq => ?_) hN hst hrm hR hf hW
  obtain ⟨rfl, rfl, hq⟩ := hq
  exact kk h' hq
theorem v_endp (X : pCx p s m args c cc nL own E (pA h0 z0)) {r f : Int32} (hret : meth.sig.returnType = some .int) (hlk : meth.locks = false) (hd : decode cc pc = .ok (.ireturn, 1)) (hf : r = f) : pV p l e R s m args below meth c nL E (pA h0 z0) (MQ below (pQ E (pFp f) h0 z0) args s 0 0 (pA h0 z0)) z0 h0 0 0 pc L [.int r] := v_iret X hret hlk hd ⟨by rw [hf], rfl, rfl⟩ (Nat.le_refl _)
theorem v_endb (X : pCx p s m args c cc nL own E (pA h0 z0)) {r : Int32} {P : Prop} [Decidable P] (hret : meth.sig.returnType = some .boolean) (hlk : meth.locks = false) (hd : decode cc pc = .ok (.ireturn, 1)) (hf : r = bI P) : pV p l e R s m args below meth c nL E (pA h0 z0) (MQ below (pQ E (pFp (bI P)) h0 z0) args s 0 0 (pA h0 z0)) z0 h0 0 0 pc L [.int r] := v_zret X hret hlk hd (by rw [hf]; exact bI_n P) ⟨by rw [hf], rfl, rfl⟩ (Nat.le_refl _)
theorem v_endi (X : pCx p s m args c cc nL own E (pA h0 z0)) {r : Int32} {P : pH → Int32 → pH → Prop} (hret : meth.sig.returnType = some .int) (hlk : meth.locks = false) (hd : decode cc pc = .ok (.ireturn, 1)) (hf : P h0 r h) : pV p l e R s m args below meth c nL E (pA h0 z0) (MQ below (pQ E (pFi P) h0 z0) args s 0 0 (pA h0 z0)) z0 h 0 0 pc L [.int r] := v_iret X hret hlk hd ⟨rfl, r, rfl, hf⟩ (Nat.le_refl _)
theorem v_endbi (X : pCx p s m args c cc nL own E (pA h0 z0)) {r : Int32} {P : pH → Int32 → pH → Prop} (hret : meth.sig.returnType = some .boolean) (hlk : meth.locks = false) (hd : decode cc pc = .ok (.ireturn, 1)) (hn : narrow .boolean (.int r) = .int r) (hf : P h0 r h) : pV p l e R s m args below meth c nL E (pA h0 z0) (MQ below (pQ E (pFi P) h0 z0) args s 0 0 (pA h0 z0)) z0 h 0 0 pc L [.int r] := v_zret X hret hlk hd hn ⟨rfl, r, rfl, hf⟩ (Nat.le_refl _)
theorem v_endv (X : pCx p s m args c cc nL own E (pA h0 z0)) {P : pH → pH → Prop} (hret : meth.sig.returnType = none) (hlk : meth.locks = false) (hd : decode cc pc = .ok (.return_, 1)) (hf : P h0 h) : pV p l e R s m args below meth c nL E (pA h0 z0) (MQ below (pQ E (pFv P) h0 z0) args s 0 0 (pA h0 z0)) z0 h 0 0 pc L [] := v_vret X hret hlk hd ⟨rfl, rfl, hf⟩ (Nat.le_refl _)
end PVM
end
section
/-! numbers -/
theorem pset_id {h : pH} {a : Nat} {x : va_E} (hh : h a = some x) : h = pset h a x := by
  funext q
  unfold pset
  by_cases e : q = a
  · rw [if_pos e, e]; exact hh
  · rw [if_neg e]
theorem nI_t : nI 1 = 1 := by decide +kernel
theorem nI_z : nI 0 = 0 := by decide +kernel
theorem bI_1 {P : Prop} [Decidable P] (hp : P) : nI 1 = bI P := by rw [bI_t hp]; exact nI_t
theorem bI_0 {P : Prop} [Decidable P] (hp : ¬ P) : nI 0 = bI P := by rw [bI_f hp]; exact nI_z
theorem n_lt {x y : Int32} : x < y ↔ x.toInt < y.toInt := Int32.lt_iff_toInt_lt
theorem n_le {x y : Int32} : x ≤ y ↔ x.toInt ≤ y.toInt := Int32.le_iff_toInt_le
theorem n_nlt {x y : Int32} (h : ¬ x < y) : y ≤ x := by rw [n_lt] at h; rw [n_le]; omega
theorem n_nle {x y : Int32} (h : ¬ x ≤ y) : y < x := by rw [n_le] at h; rw [n_lt]; omega
theorem n_eq {x y : Int32} (h : x.toInt = y.toInt) : x = y := Int32.toInt_inj.mp h
def bt (x : Int32) (i : Nat) : Int32 := (x >>> (nI i &&& 31)) &&& nI 1
def fW (w : Int32) : Int32 := nI 1000 + w / nI 100
def fLoad (w t : Int32) : Int32 := (t * fW w + nI 999) / nI 1000
def fBear (s r w : Int32) : Int32 := if s - nI 40 * r - w < 0 then nI 0 else s - nI 40 * r - w
def fMn (a b : Int32) : Int32 := if a < b then a else b
theorem fMn_t {a b : Int32} (h : ¬ b ≤ a) : fMn a b = a := if_pos (n_nle h)
theorem fMn_f {a b : Int32} (h : b ≤ a) : fMn a b = b := if_neg (fun q => by rw [n_lt] at q; rw [n_le] at h; omega)
def fMost (w t b : Int32) : Int32 := fMn (fMn (b * nI 1000 / fW w) t) (nI 1000)
def fWear (l : Int32) : Int32 := (l + nI 49) / nI 50
theorem n_max0 (x : Int32) : (if nI 0 < x then x else nI 0) = if x < 0 then nI 0 else x := by
  have z : (nI 0).toInt = 0 := by decide +kernel
  have z2 : (0 : Int32).toInt = 0 := by decide +kernel
  by_cases h1 : x < 0
  · rw [if_pos h1, if_neg (by rw [n_lt] at h1 ⊢; omega)]
  · rw [if_neg h1]
    by_cases h2 : nI 0 < x
    · rw [if_pos h2]
    · rw [if_neg h2]
      exact n_eq (by rw [n_lt] at h1 h2; omega)
theorem n_min3 (a b c : Int32) : (if (if c < b then c else b) < a then (if c < b then c else b) else a) = if (if a < b then a else b) < c then (if a < b then a else b) else c := by
  simp only [n_lt]
  apply n_eq
  by_cases h1 : c.toInt < b.toInt <;> by_cases h2 : a.toInt < b.toInt <;> simp only [h1, h2, if_true, if_false] <;> (repeat' split) <;> omega
/-- the number of the first k that are set -/
def fCnt (f : Nat → Int32) : Nat → Int32
  | 0 => nI 0
  | k + 1 => fCnt f k + f k
theorem bt_01 : ∀ x, x < 64 → ∀ i, i < 6 → (bt (nI x) i = 0 ∨ bt (nI x) i = 1) := by decide +kernel
theorem bt_or : ∀ x, x < 64 → ∀ i, i < 6 → (bt (nI x) i = 0 → nI (x % 2 ^ i) = nI (x % 2 ^ (i + 1))) ∧ (¬ bt (nI x) i = 0 → nI (x % 2 ^ i) ||| nI 1 <<< (nI i &&& 31) = nI (x % 2 ^ (i + 1))) := by decide +kernel
/-! the leaves: objects by their fields -/
set_option maxRecDepth 100000 in
set_option maxHeartbeats 4000000 in
theorem c_X6_isWithin (l : Launch) (E : pE) (x lo hi : Int32) : pC l E yX6_isWithin cX6_isWithin 3 (some .boolean) { frames := 0, cells := 0, slots := 0, locals := 0 } 0 0 [.int x, .int lo, .int hi] (fun h _ => True) (pFp ((bI (lo ≤ x ∧ x ≤ hi)))) := by
  refine pC_of (by decide) (by simp [Value.category]) (Nat.le_of_ble_eq_true rfl) ?_
  intro h z hp p__ e__ s__ m__ args__ below__ meth__ c__ X hr hlk hname
  refine v_iload_n (pc := 0) X (hd := dX6_isWithin_0) (kk := ?_)
  refine v_iload_n (pc := 1) X (hd := dX6_isWithin_1) (kk := ?_)
  refine v_icmplt (pc := 2) X (tgt := 14) (hd := dX6_isWithin_2) (kt := fun c2 => ?_) (kf := fun c2 => ?_)
  · refine v_iconst (pc := 14) X (v := nI 0) (hd := dX6_isWithin_14) (kk := ?_)
    exact v_endb (pc := 15) X hr hlk (hd := dX6_isWithin_15) (hf := bI_0 (fun q => by have q1 := q.1; rw [n_le] at q1; rw [n_lt] at c2; omega))
  · refine v_iload_n (pc := 5) X (hd := dX6_isWithin_5) (kk := ?_)
    refine v_iload_n (pc := 6) X (hd := dX6_isWithin_6) (kk := ?_)
    refine v_icmpgt (pc := 7) X (tgt := 14) (hd := dX6_isWithin_7) (kt := fun c7 => ?_) (kf := fun c7 => ?_)
    · refine v_iconst (pc := 14) X (v := nI 0) (hd := dX6_isWithin_14) (kk := ?_)
      exact v_endb (pc := 15) X hr hlk (hd := dX6_isWithin_15) (hf := bI_0 (fun q => by have q1 := q.2; rw [n_le] at q1; rw [n_lt] at c7; omega))
    · refine v_iconst (pc := 10) X (v := nI 1) (hd := dX6_isWithin_10) (kk := ?_)
      refine v_goto (pc := 11) X (tgt := 15) (hd := dX6_isWithin_11) (kk := ?_)
      exact v_endb (pc := 15) X hr hlk (hd := dX6_isWithin_15) (hf := bI_1 ⟨n_nlt c2, n_nlt c7⟩)
set_option maxRecDepth 100000 in
set_option maxHeartbeats 4000000 in
theorem c_X5_isDry (l : Launch) (E : pE) (a : Nat) (o b t w n : Int32) : pC l E yX5_isDry cX5_isDry 1 (some .boolean) { frames := 0, cells := 0, slots := 0, locals := 0 } 0 0 [.ref a] (fun h _ => h a = some (ob 5 [.int o, .int b, .int t, .int w, .int n])) (pFp ((bI (w ≤ nI 30000)))) := by
  refine pC_of (by decide) (by simp [Value.category]) (Nat.le_of_ble_eq_true rfl) ?_
  intro h z hp p__ e__ s__ m__ args__ below__ meth__ c__ X hr hlk hname
  refine v_aload_n (pc := 0) X (hd := dX5_isDry_0) (kk := ?_)
  refine g_X5_21 (pc := 1) X (hd := dX5_isDry_1) (hh := by assumption) (kk := ?_)
  refine v_sipush (pc := 4) X (v := nI 30000) (hd := dX5_isDry_4) (kk := ?_)
  refine v_icmpgt (pc := 7) X (tgt := 14) (hd := dX5_isDry_7) (kt := fun c7 => ?_) (kf := fun c7 => ?_)
  · refine v_iconst (pc := 14) X (v := nI 0) (hd := dX5_isDry_14) (kk := ?_)
    exact v_endb (pc := 15) X hr hlk (hd := dX5_isDry_15) (hf := bI_0 (fun q => by rw [n_le] at q; rw [n_lt] at c7; omega))
  · refine v_iconst (pc := 10) X (v := nI 1) (hd := dX5_isDry_10) (kk := ?_)
    refine v_goto (pc := 11) X (tgt := 15) (hd := dX5_isDry_11) (kk := ?_)
    exact v_endb (pc := 15) X hr hlk (hd := dX5_isDry_15) (hf := bI_1 (n_nlt c7))
set_option maxRecDepth 100000 in
set_option maxHeartbeats 4000000 in
theorem c_X5_turfWeight (l : Launch) (E : pE) (a : Nat) (o b t w n : Int32) : pC l E yX5_turfWeight cX5_turfWeight 1 (some .int) { frames := 0, cells := 0, slots := 0, locals := 0 } 0 0 [.ref a] (fun h _ => h a = some (ob 5 [.int o, .int b, .int t, .int w, .int n])) (pFp ((fW w))) := by
  refine pC_of (by decide) (by simp [Value.category]) (Nat.le_of_ble_eq_true rfl) ?_
  intro h z hp p__ e__ s__ m__ args__ below__ meth__ c__ X hr hlk hname
  refine v_sipush (pc := 0) X (v := nI 1000) (hd := dX5_turfWeight_0) (kk := ?_)
  refine v_aload_n (pc := 3) X (hd := dX5_turfWeight_3) (kk := ?_)
  refine g_X5_21 (pc := 4) X (hd := dX5_turfWeight_4) (hh := by assumption) (kk := ?_)
  refine v_bipush (pc := 7) X (v := nI 100) (hd := dX5_turfWeight_7) (kk := ?_)
  refine v_idiv (pc := 9) X (hd := dX5_turfWeight_9) (hne := by decide +kernel) (kk := ?_)
  refine v_iadd (pc := 10) X (hd := dX5_turfWeight_10) (kk := ?_)
  exact v_endp (pc := 11) X hr hlk (hd := dX5_turfWeight_11) (hf := rfl)
set_option maxRecDepth 100000 in
set_option maxHeartbeats 4000000 in
theorem c_X5_loadOf (l : Launch) (E : pE) (a : Nat) (o b t w n num : Int32) : pC l E yX5_loadOf cX5_loadOf 2 (some .int) { frames := 1, cells := 0, slots := 0, locals := 20 } 0 0 [.ref a, .int num] (fun h _ => h a = some (ob 5 [.int o, .int b, .int t, .int w, .int n])) (pFp ((fLoad w num))) := by
  refine pC_of (by decide) (by simp [Value.category]) (Nat.le_of_ble_eq_true rfl) ?_
  intro h z hp p__ e__ s__ m__ args__ below__ meth__ c__ X hr hlk hname
  refine v_iload_n (pc := 0) X (hd := dX5_loadOf_0) (kk := ?_)
  refine v_aload_n (pc := 1) X (hd := dX5_loadOf_1) (kk := ?_)
  refine v_callVp (pc := 2) X (hd := dX5_loadOf_2) (w := wv_X5_27) (hC := c_X5_turfWeight l E _ _ _ _ _ _) (hp := by assumption) (hb := by assumption) (kk := ?_)
  refine v_imul (pc := 5) X (hd := dX5_loadOf_5) (kk := ?_)
  refine v_sipush (pc := 6) X (v := nI 999) (hd := dX5_loadOf_6) (kk := ?_)
  refine v_iadd (pc := 9) X (hd := dX5_loadOf_9) (kk := ?_)
  refine v_sipush (pc := 10) X (v := nI 1000) (hd := dX5_loadOf_10) (kk := ?_)
  refine v_idiv (pc := 13) X (hd := dX5_loadOf_13) (hne := by decide +kernel) (kk := ?_)
  exact v_endp (pc := 14) X hr hlk (hd := dX5_loadOf_14) (hf := rfl)
set_option maxRecDepth 100000 in
set_option maxHeartbeats 4000000 in
theorem c_X5_greatestCart (l : Launch) (E : pE) (a : Nat) (o b t w n num bear : Int32) : pC l E yX5_greatestCart cX5_greatestCart 5 (some .int) { frames := 1, cells := 0, slots := 0, locals := 21 } 0 0 [.ref a, .int num, .int bear] (fun h _ => h a = some (ob 5 [.int o, .int b, .int t, .int w, .int n]) ∧ 0 < fW w) (pFp ((fMost w num bear))) := by
  refine pC_of (by decide) (by simp [Value.category]) (Nat.le_of_ble_eq_true rfl) ?_
  intro h z hp p__ e__ s__ m__ args__ below__ meth__ c__ X hr hlk hname
  refine v_aload_n (pc := 0) X (hd := dX5_greatestCart_0) (kk := ?_)
  refine v_callVp (pc := 1) X (hd := dX5_greatestCart_1) (w := wv_X5_27) (hC := c_X5_turfWeight l E _ _ _ _ _ _) (hp := hp.1) (hb := hp.1) (kk := ?_)
  refine v_istore_n (pc := 4) X (hd := dX5_greatestCart_4) (kk := ?_)
  refine v_iload_n (pc := 5) X (hd := dX5_greatestCart_5) (kk := ?_)
  refine v_ifgt (pc := 6) X (tgt := 11) (hd := dX5_greatestCart_6) (kt := fun c6 => ?_) (kf := fun c6 => ?_)
  · refine v_iload_n (pc := 11) X (hd := dX5_greatestCart_11) (kk := ?_)
    refine v_sipush (pc := 12) X (v := nI 1000) (hd := dX5_greatestCart_12) (kk := ?_)
    refine v_imul (pc := 15) X (hd := dX5_greatestCart_15) (kk := ?_)
    refine v_iload_n (pc := 16) X (hd := dX5_greatestCart_16) (kk := ?_)
    refine v_idiv (pc := 17) X (hd := dX5_greatestCart_17) (hne := fun q => by rw [q] at c6; exact absurd c6 (by decide)) (kk := ?_)
    refine v_istore (pc := 18) X (hd := dX5_greatestCart_18) (kk := ?_)
    refine v_iload (pc := 20) X (hd := dX5_greatestCart_20) (kk := ?_)
    refine v_iload_n (pc := 22) X (hd := dX5_greatestCart_22) (kk := ?_)
    refine v_sipush (pc := 23) X (v := nI 1000) (hd := dX5_greatestCart_23) (kk := ?_)
    refine v_min (pc := 26) X (hd := dX5_greatestCart_26) (hw1 := wm_X5_31) (hw2 := wt_min) (hw3 := wi_Math) (hw4 := wc_min) (kk := ?_)
    refine v_min (pc := 29) X (hd := dX5_greatestCart_29) (hw1 := wm_X5_31) (hw2 := wt_min) (hw3 := wi_Math) (hw4 := wc_min) (kk := ?_)
    exact v_endp (pc := 32) X hr hlk (hd := dX5_greatestCart_32) (hf := n_min3 _ _ _)
  · exact absurd hp.2 c6
set_option maxRecDepth 100000 in
set_option maxHeartbeats 4000000 in
theorem c_X0_bearing (l : Launch) (E : pE) (a ga ca2 : Nat) (al st we cu ca le : Int32) (w r : Int32) : pC l E yX0_bearing cX0_bearing 3 (some .int) { frames := 1, cells := 0, slots := 0, locals := 21 } 0 0 [.ref a, .int w, .int r] (fun h _ => h a = some (ob 0 [.int al, .int st, .int we, .int cu, .int ca, .int le, .ref ga, .ref ca2])) (pFp ((fBear st r w))) := by
  refine pC_of (by decide) (by simp [Value.category]) (Nat.le_of_ble_eq_true rfl) ?_
  intro h z hp p__ e__ s__ m__ args__ below__ meth__ c__ X hr hlk hname
  refine v_iconst (pc := 0) X (v := nI 0) (hd := dX0_bearing_0) (kk := ?_)
  refine v_aload_n (pc := 1) X (hd := dX0_bearing_1) (kk := ?_)
  refine g_X0_15 (pc := 2) X (hd := dX0_bearing_2) (hh := by assumption) (kk := ?_)
  refine v_bipush (pc := 5) X (v := nI 40) (hd := dX0_bearing_5) (kk := ?_)
  refine v_iload_n (pc := 7) X (hd := dX0_bearing_7) (kk := ?_)
  refine v_imul (pc := 8) X (hd := dX0_bearing_8) (kk := ?_)
  refine v_isub (pc := 9) X (hd := dX0_bearing_9) (kk := ?_)
  refine v_iload_n (pc := 10) X (hd := dX0_bearing_10) (kk := ?_)
  refine v_isub (pc := 11) X (hd := dX0_bearing_11) (kk := ?_)
  refine v_max (pc := 12) X (hd := dX0_bearing_12) (hw1 := wm_X0_38) (hw2 := wt_max) (hw3 := wi_Math) (hw4 := wc_max) (kk := ?_)
  exact v_endp (pc := 15) X hr hlk (hd := dX0_bearing_15) (hf := n_max0 _)
set_option maxRecDepth 100000 in
set_option maxHeartbeats 4000000 in
theorem c_X0_wearBy (l : Launch) (E : pE) (x : Int32) : pC l E yX0_wearBy cX0_wearBy 1 (some .int) { frames := 0, cells := 0, slots := 0, locals := 0 } 0 0 [.int x] (fun h _ => True) (pFp ((fWear x))) := by
  refine pC_of (by decide) (by simp [Value.category]) (Nat.le_of_ble_eq_true rfl) ?_
  intro h z hp p__ e__ s__ m__ args__ below__ meth__ c__ X hr hlk hname
  refine v_iload_n (pc := 0) X (hd := dX0_wearBy_0) (kk := ?_)
  refine v_bipush (pc := 1) X (v := nI 49) (hd := dX0_wearBy_1) (kk := ?_)
  refine v_iadd (pc := 3) X (hd := dX0_wearBy_3) (kk := ?_)
  refine v_bipush (pc := 4) X (v := nI 50) (hd := dX0_wearBy_4) (kk := ?_)
  refine v_idiv (pc := 6) X (hd := dX0_wearBy_6) (hne := by decide +kernel) (kk := ?_)
  exact v_endp (pc := 7) X hr hlk (hd := dX0_wearBy_7) (hf := rfl)
set_option maxRecDepth 100000 in
set_option maxHeartbeats 4000000 in
theorem c_X0_holders (l : Launch) (E : pE) (a ga ca2 : Nat) (al st we cu ca le : Int32) (f : Nat → Int32) : pC l E yX0_holders cX0_holders 3 (some .int) { frames := 0, cells := 0, slots := 0, locals := 0 } 0 0 [.ref a] (fun h _ => h a = some (ob 0 [.int al, .int st, .int we, .int cu, .int ca, .int le, .ref ga, .ref ca2]) ∧ h ga = some (ai 2 6 f) ∧ ∀ i, i < 6 → (f i = 0 ∨ f i = 1)) (pFp ((fCnt f 6))) := by
  refine pC_of (by decide) (by simp [Value.category]) (Nat.le_of_ble_eq_true rfl) ?_
  intro h z hp p__ e__ s__ m__ args__ below__ meth__ c__ X hr hlk hname
  obtain ⟨hp1, hp2, hp3⟩ := hp
  refine v_iconst (pc := 0) X (v := nI 0) (hd := dX0_holders_0) (kk := ?_)
  refine v_istore_n (pc := 1) X (hd := dX0_holders_1) (kk := ?_)
  refine v_iconst (pc := 2) X (v := nI 0) (hd := dX0_holders_2) (kk := ?_)
  refine v_istore_n (pc := 3) X (hd := dX0_holders_3) (kk := ?_)
  refine v_forp (pc := 4) (M := 6) (Lf := fun i => [some (.ref a), some (.int (fCnt f i)), some (.int (nI i))]) (hL := by rfl) (step := ?_) (out := ?_)
  · intro i hi kk
    refine v_iload_n (pc := 4) X (hd := dX0_holders_4) (kk := ?_)
    refine v_bipush (pc := 5) X (v := nI 6) (hd := dX0_holders_5) (kk := ?_)
    refine v_icmpge (pc := 7) X (tgt := 28) (hd := dX0_holders_7) (kt := fun c7 => ?_) (kf := fun c7 => ?_)
    · exact absurd c7 (nI_ge hi (by omega))
    · refine v_aload_n (pc := 10) X (hd := dX0_holders_10) (kk := ?_)
      refine g_X0_30 (pc := 11) X (hd := dX0_holders_11) (hh := by assumption) (kk := ?_)
      refine v_iload_n (pc := 14) X (hd := dX0_holders_14) (kk := ?_)
      refine v_zaldN (pc := 15) X (j := i) (hd := dX0_holders_15) (hh := hp2) (hi := rfl) (hj := by omega) (kk := ?_)
      refine v_ifeq (pc := 16) X (tgt := 22) (hd := dX0_holders_16) (kt := fun c16 => ?_) (kf := fun c16 => ?_)
      · rw [show fCnt f (i + 1) = fCnt f i from by show fCnt f i + f i = _; rw [c16]; exact Int32.add_zero _] at kk
        refine v_iincN (pc := 22) X (hd := dX0_holders_22) (kk := ?_)
        refine v_goto (pc := 25) X (tgt := 4) (hd := dX0_holders_25) (kk := ?_)
        exact kk
      · have c17 : f i = 1 := (hp3 i hi).resolve_left c16
        rw [show fCnt f (i + 1) = fCnt f i + 1 from by show fCnt f i + f i = _; rw [c17]] at kk
        refine v_iinc1 (pc := 19) X (hd := dX0_holders_19) (kk := ?_)
        refine v_iincN (pc := 22) X (hd := dX0_holders_22) (kk := ?_)
        refine v_goto (pc := 25) X (tgt := 4) (hd := dX0_holders_25) (kk := ?_)
        exact kk
  · skip
    refine v_iload_n (pc := 4) X (hd := dX0_holders_4) (kk := ?_)
    refine v_bipush (pc := 5) X (v := nI 6) (hd := dX0_holders_5) (kk := ?_)
    refine v_icmpge (pc := 7) X (tgt := 28) (hd := dX0_holders_7) (kt := fun c7 => ?_) (kf := fun c7 => ?_)
    · refine v_iload_n (pc := 28) X (hd := dX0_holders_28) (kk := ?_)
      exact v_endp (pc := 29) X hr hlk (hd := dX0_holders_29) (hf := rfl)
    · exact absurd (Int32.le_refl _) c7
set_option maxRecDepth 100000 in
set_option maxHeartbeats 4000000 in
theorem c_X0_holdersAsBits (l : Launch) (E : pE) (a ga ca2 : Nat) (al st we cu ca le : Int32) (f : Nat → Int32) (x : Nat) : pC l E yX0_holdersAsBits cX0_holdersAsBits 3 (some .int) { frames := 0, cells := 0, slots := 0, locals := 0 } 0 0 [.ref a] (fun h _ => h a = some (ob 0 [.int al, .int st, .int we, .int cu, .int ca, .int le, .ref ga, .ref ca2]) ∧ h ga = some (ai 2 6 f) ∧ x < 64 ∧ ∀ i, i < 6 → f i = bt (nI x) i) (pFp ((nI x))) := by
  refine pC_of (by decide) (by simp [Value.category]) (Nat.le_of_ble_eq_true rfl) ?_
  intro h z hp p__ e__ s__ m__ args__ below__ meth__ c__ X hr hlk hname
  obtain ⟨hp1, hp2, hp3, hp4⟩ := hp
  refine v_iconst (pc := 0) X (v := nI 0) (hd := dX0_holdersAsBits_0) (kk := ?_)
  refine v_istore_n (pc := 1) X (hd := dX0_holdersAsBits_1) (kk := ?_)
  refine v_iconst (pc := 2) X (v := nI 0) (hd := dX0_holdersAsBits_2) (kk := ?_)
  refine v_istore_n (pc := 3) X (hd := dX0_holdersAsBits_3) (kk := ?_)
  refine v_forp (pc := 4) (M := 6) (Lf := fun i => [some (.ref a), some (.int (nI (x % 2 ^ i))), some (.int (nI i))]) (hL := by rw [Nat.pow_zero, Nat.mod_one]; rfl) (step := ?_) (out := ?_)
  · intro i hi kk
    refine v_iload_n (pc := 4) X (hd := dX0_holdersAsBits_4) (kk := ?_)
    refine v_bipush (pc := 5) X (v := nI 6) (hd := dX0_holdersAsBits_5) (kk := ?_)
    refine v_icmpge (pc := 7) X (tgt := 31) (hd := dX0_holdersAsBits_7) (kt := fun c7 => ?_) (kf := fun c7 => ?_)
    · exact absurd c7 (nI_ge hi (by omega))
    · refine v_aload_n (pc := 10) X (hd := dX0_holdersAsBits_10) (kk := ?_)
      refine g_X0_30 (pc := 11) X (hd := dX0_holdersAsBits_11) (hh := by assumption) (kk := ?_)
      refine v_iload_n (pc := 14) X (hd := dX0_holdersAsBits_14) (kk := ?_)
      refine v_zaldN (pc := 15) X (j := i) (hd := dX0_holdersAsBits_15) (hh := hp2) (hi := rfl) (hj := by omega) (kk := ?_)
      refine v_ifeq (pc := 16) X (tgt := 25) (hd := dX0_holdersAsBits_16) (kt := fun c16 => ?_) (kf := fun c16 => ?_)
      · rw [← (bt_or x hp3 i hi).1 (by rw [← hp4 i hi]; exact c16)] at kk
        refine v_iincN (pc := 25) X (hd := dX0_holdersAsBits_25) (kk := ?_)
        refine v_goto (pc := 28) X (tgt := 4) (hd := dX0_holdersAsBits_28) (kk := ?_)
        exact kk
      · rw [← (bt_or x hp3 i hi).2 (by rw [← hp4 i hi]; exact c16)] at kk
        refine v_iload_n (pc := 19) X (hd := dX0_holdersAsBits_19) (kk := ?_)
        refine v_iconst (pc := 20) X (v := nI 1) (hd := dX0_holdersAsBits_20) (kk := ?_)
        refine v_iload_n (pc := 21) X (hd := dX0_holdersAsBits_21) (kk := ?_)
        refine v_ishl (pc := 22) X (hd := dX0_holdersAsBits_22) (kk := ?_)
        refine v_ior (pc := 23) X (hd := dX0_holdersAsBits_23) (kk := ?_)
        refine v_istore_n (pc := 24) X (hd := dX0_holdersAsBits_24) (kk := ?_)
        refine v_iincN (pc := 25) X (hd := dX0_holdersAsBits_25) (kk := ?_)
        refine v_goto (pc := 28) X (tgt := 4) (hd := dX0_holdersAsBits_28) (kk := ?_)
        exact kk
  · skip
    rw [show x % 2 ^ 6 = x from Nat.mod_eq_of_lt hp3]
    refine v_iload_n (pc := 4) X (hd := dX0_holdersAsBits_4) (kk := ?_)
    refine v_bipush (pc := 5) X (v := nI 6) (hd := dX0_holdersAsBits_5) (kk := ?_)
    refine v_icmpge (pc := 7) X (tgt := 31) (hd := dX0_holdersAsBits_7) (kt := fun c7 => ?_) (kf := fun c7 => ?_)
    · refine v_iload_n (pc := 31) X (hd := dX0_holdersAsBits_31) (kk := ?_)
      exact v_endp (pc := 32) X hr hlk (hd := dX0_holdersAsBits_32) (hf := rfl)
    · exact absurd (Int32.le_refl _) c7
set_option maxRecDepth 100000 in
set_option maxHeartbeats 4000000 in
theorem c_X0_forgetYear (l : Launch) (E : pE) (a ga ca2 : Nat) (al st we cu ca le : Int32) (f : Nat → Int32) : pC l E yX0_forgetYear cX0_forgetYear 2 none { frames := 0, cells := 0, slots := 0, locals := 0 } 0 0 [.ref a] (fun h _ => h a = some (ob 0 [.int al, .int st, .int we, .int cu, .int ca, .int le, .ref ga, .ref ca2]) ∧ h ca2 = some (ai 1 6 f) ∧ a ≠ ca2) (pFv (fun h h' => ∃ f' : Nat → Int32, h' = pset h ca2 (ai 1 6 f') ∧ ∀ i, i < 6 → f' i = nI 0)) := by
  refine pC_of (by decide) (by simp [Value.category]) (Nat.le_of_ble_eq_true rfl) ?_
  intro h z hp p__ e__ s__ m__ args__ below__ meth__ c__ X hr hlk hname
  obtain ⟨hp1, hp2, hp3⟩ := hp
  refine v_iconst (pc := 0) X (v := nI 0) (hd := dX0_forgetYear_0) (kk := ?_)
  refine v_istore_n (pc := 1) X (hd := dX0_forgetYear_1) (kk := ?_)
  refine v_for (pc := 2) (M := 6) (Lf := fun i => [some (.ref a), some (.int (nI i))]) (I := fun i h1 => ∃ f' : Nat → Int32, h1 = pset h ca2 (ai 1 6 f') ∧ ∀ j, j < i → f' j = nI 0) (h0 := ⟨f, pset_id hp2, fun j hj => absurd hj (Nat.not_lt_zero _)⟩) (hL := by rfl) (step := ?_) (out := ?_)
  · intro i h1 hi hI kk
    obtain ⟨f', rfl, hf⟩ := hI
    refine v_iload_n (pc := 2) X (hd := dX0_forgetYear_2) (kk := ?_)
    refine v_bipush (pc := 3) X (v := nI 6) (hd := dX0_forgetYear_3) (kk := ?_)
    refine v_icmpge (pc := 5) X (tgt := 21) (hd := dX0_forgetYear_5) (kt := fun c5 => ?_) (kf := fun c5 => ?_)
    · exact absurd c5 (nI_ge hi (by omega))
    · refine v_aload_n (pc := 8) X (hd := dX0_forgetYear_8) (kk := ?_)
      refine g_X0_34 (pc := 9) X (hd := dX0_forgetYear_9) (hh := (pset_n hp3).trans hp1) (kk := ?_)
      refine v_iload_n (pc := 12) X (hd := dX0_forgetYear_12) (kk := ?_)
      refine v_iconst (pc := 13) X (v := nI 0) (hd := dX0_forgetYear_13) (kk := ?_)
      refine v_iastN (pc := 14) X (j := i) (hd := dX0_forgetYear_14) (hh := pset_s _ _ _) (hi := rfl) (hj := by omega) (kk := ?_)
      refine v_iincN (pc := 15) X (hd := dX0_forgetYear_15) (kk := ?_)
      refine v_goto (pc := 18) X (tgt := 2) (hd := dX0_forgetYear_18) (kk := ?_)
      exact kk _ ⟨upd f' i (nI 0), pset_pset _ _ _ _, fun j hj => by
        by_cases e : j = i
        · rw [e]; exact pk_us
        · rw [pk_un e]; exact hf j (by omega)⟩
  · intro h1 hI
    refine v_iload_n (pc := 2) X (hd := dX0_forgetYear_2) (kk := ?_)
    refine v_bipush (pc := 3) X (v := nI 6) (hd := dX0_forgetYear_3) (kk := ?_)
    refine v_icmpge (pc := 5) X (tgt := 21) (hd := dX0_forgetYear_5) (kt := fun c5 => ?_) (kf := fun c5 => ?_)
    · exact v_endv (pc := 21) X hr hlk (hd := dX0_forgetYear_21) (hf := hI)
    · exact absurd (Int32.le_refl _) c5
set_option maxRecDepth 100000 in
set_option maxHeartbeats 4000000 in
theorem c_X5_copyFrom (l : Launch) (E : pE) (a a2 : Nat) (o b t w n o2 b2 t2 w2 n2 : Int32) : pC l E yX5_copyFrom cX5_copyFrom 2 none { frames := 0, cells := 0, slots := 0, locals := 0 } 0 0 [.ref a, .ref a2] (fun h _ => h a = some (ob 5 [.int o, .int b, .int t, .int w, .int n]) ∧ h a2 = some (ob 5 [.int o2, .int b2, .int t2, .int w2, .int n2]) ∧ a2 ≠ a) (pFv (fun h h' => h' = pset h a (ob 5 [.int o2, .int b2, .int t2, .int w2, .int n2]))) := by
  refine pC_of (by decide) (by simp [Value.category]) (Nat.le_of_ble_eq_true rfl) ?_
  intro h z hp p__ e__ s__ m__ args__ below__ meth__ c__ X hr hlk hname
  obtain ⟨hp1, hp2, hne⟩ := hp
  refine v_aload_n (pc := 0) X (hd := dX5_copyFrom_0) (kk := ?_)
  refine v_aload_n (pc := 1) X (hd := dX5_copyFrom_1) (kk := ?_)
  refine g_X5_9 (pc := 2) X (hd := dX5_copyFrom_2) (hh := by first | assumption | exact (pset_n hne).trans hp2) (kk := ?_)
  refine p_X5_9 (pc := 5) X (hd := dX5_copyFrom_5) (hh := by first | assumption | exact pset_s _ _ _) (kk := ?_)
  refine v_aload_n (pc := 8) X (hd := dX5_copyFrom_8) (kk := ?_)
  refine v_aload_n (pc := 9) X (hd := dX5_copyFrom_9) (kk := ?_)
  refine g_X5_15 (pc := 10) X (hd := dX5_copyFrom_10) (hh := by first | assumption | exact (pset_n hne).trans hp2) (kk := ?_)
  refine p_X5_15 (pc := 13) X (hd := dX5_copyFrom_13) (hh := by first | assumption | exact pset_s _ _ _) (kk := ?_)
  rw [pset_pset]
  refine v_aload_n (pc := 16) X (hd := dX5_copyFrom_16) (kk := ?_)
  refine v_aload_n (pc := 17) X (hd := dX5_copyFrom_17) (kk := ?_)
  refine g_X5_18 (pc := 18) X (hd := dX5_copyFrom_18) (hh := by first | assumption | exact (pset_n hne).trans hp2) (kk := ?_)
  refine p_X5_18 (pc := 21) X (hd := dX5_copyFrom_21) (hh := by first | assumption | exact pset_s _ _ _) (kk := ?_)
  rw [pset_pset]
  refine v_aload_n (pc := 24) X (hd := dX5_copyFrom_24) (kk := ?_)
  refine v_aload_n (pc := 25) X (hd := dX5_copyFrom_25) (kk := ?_)
  refine g_X5_21 (pc := 26) X (hd := dX5_copyFrom_26) (hh := by first | assumption | exact (pset_n hne).trans hp2) (kk := ?_)
  refine p_X5_21 (pc := 29) X (hd := dX5_copyFrom_29) (hh := by first | assumption | exact pset_s _ _ _) (kk := ?_)
  rw [pset_pset]
  refine v_aload_n (pc := 32) X (hd := dX5_copyFrom_32) (kk := ?_)
  refine v_aload_n (pc := 33) X (hd := dX5_copyFrom_33) (kk := ?_)
  refine g_X5_24 (pc := 34) X (hd := dX5_copyFrom_34) (hh := by first | assumption | exact (pset_n hne).trans hp2) (kk := ?_)
  refine p_X5_24 (pc := 37) X (hd := dX5_copyFrom_37) (hh := by first | assumption | exact pset_s _ _ _) (kk := ?_)
  rw [pset_pset]
  exact v_endv (pc := 40) X hr hlk (hd := dX5_copyFrom_40) (hf := rfl)
set_option maxRecDepth 100000 in
set_option maxHeartbeats 4000000 in
theorem c_X1_copyFrom (l : Launch) (E : pE) (a a2 : Nat) (o b t o2 b2 t2 : Int32) : pC l E yX1_copyFrom cX1_copyFrom 2 none { frames := 0, cells := 0, slots := 0, locals := 0 } 0 0 [.ref a, .ref a2] (fun h _ => h a = some (ob 1 [.int o, .int b, .int t]) ∧ h a2 = some (ob 1 [.int o2, .int b2, .int t2]) ∧ a2 ≠ a) (pFv (fun h h' => h' = pset h a (ob 1 [.int o2, .int b2, .int t2]))) := by
  refine pC_of (by decide) (by simp [Value.category]) (Nat.le_of_ble_eq_true rfl) ?_
  intro h z hp p__ e__ s__ m__ args__ below__ meth__ c__ X hr hlk hname
  obtain ⟨hp1, hp2, hne⟩ := hp
  refine v_aload_n (pc := 0) X (hd := dX1_copyFrom_0) (kk := ?_)
  refine v_aload_n (pc := 1) X (hd := dX1_copyFrom_1) (kk := ?_)
  refine g_X1_7 (pc := 2) X (hd := dX1_copyFrom_2) (hh := by first | assumption | exact (pset_n hne).trans hp2) (kk := ?_)
  refine p_X1_7 (pc := 5) X (hd := dX1_copyFrom_5) (hh := by first | assumption | exact pset_s _ _ _) (kk := ?_)
  refine v_aload_n (pc := 8) X (hd := dX1_copyFrom_8) (kk := ?_)
  refine v_aload_n (pc := 9) X (hd := dX1_copyFrom_9) (kk := ?_)
  refine g_X1_13 (pc := 10) X (hd := dX1_copyFrom_10) (hh := by first | assumption | exact (pset_n hne).trans hp2) (kk := ?_)
  refine p_X1_13 (pc := 13) X (hd := dX1_copyFrom_13) (hh := by first | assumption | exact pset_s _ _ _) (kk := ?_)
  rw [pset_pset]
  refine v_aload_n (pc := 16) X (hd := dX1_copyFrom_16) (kk := ?_)
  refine v_aload_n (pc := 17) X (hd := dX1_copyFrom_17) (kk := ?_)
  refine g_X1_16 (pc := 18) X (hd := dX1_copyFrom_18) (hh := by first | assumption | exact (pset_n hne).trans hp2) (kk := ?_)
  refine p_X1_16 (pc := 21) X (hd := dX1_copyFrom_21) (hh := by first | assumption | exact pset_s _ _ _) (kk := ?_)
  rw [pset_pset]
  exact v_endv (pc := 24) X hr hlk (hd := dX1_copyFrom_24) (hf := rfl)
end
section
/-! what the row of numbers tells -/
abbrev gH (n x : Int32) : Prop := 0 ≤ x ∧ x < n
abbrev gI (x lo hi : Int32) : Prop := lo ≤ x ∧ x ≤ hi
abbrev hR (v : Nat → Int32) (h b : Nat) : Prop := bt (v (24 + 7 * b + 3)) h = nI 1
def fSp (v : Nat → Int32) (b : Nat) : Nat → Int32
  | 0 => nI 0
  | k + 1 => fSp v b k + (if hR v k b then v (6 + 3 * k + 0) else nI 0)
def fLeft (v : Nat → Int32) (b : Nat) (all : Int32) : Nat → Int32
  | 0 => v (24 + 7 * b + 0)
  | k + 1 => fLeft v b all k - (if hR v k b then v (24 + 7 * b + 0) * v (6 + 3 * k + 0) / all else nI 0)
def fAhead (v : Nat → Int32) (b hh : Nat) : Nat → Int32
  | 0 => nI 0
  | k + 1 => fAhead v b hh k + (if k < hh ∧ hR v k b then nI 1 else nI 0)
def fShare (v : Nat → Int32) (nh hh b : Nat) : Int32 := if hR v hh b then v (24 + 7 * b + 0) * v (6 + 3 * hh + 0) / fSp v b nh + (if fAhead v b hh nh < fLeft v b (fSp v b nh) nh then nI 1 else nI 0) else nI 0
def fMay (v : Nat → Int32) (nh hh b : Nat) : Int32 := if fShare v nh hh b - v (52 + 4 * hh + b) < 0 then nI 0 else fShare v nh hh b - v (52 + 4 * hh + b)
def fDryN (v : Nat → Int32) : Nat → Int32
  | 0 => nI 0
  | k + 1 => fDryN v k + (if v (76 + 5 * k + 3) ≤ nI 30000 then nI 1 else nI 0)
def fBanksOf (v : Nat → Int32) (hh : Nat) : Nat → Int32
  | 0 => nI 0
  | k + 1 => fBanksOf v hh k + (if hR v hh k then nI 1 else nI 0)
def fStacksOf (v : Nat → Int32) (hh : Int32) (tf : Bool) : Nat → Int32
  | 0 => nI 0
  | k + 1 => fStacksOf v hh tf k + (if v (76 + 5 * k + 0) = hh then (if tf then v (76 + 5 * k + 2) else nI 1) else nI 0)
def fTurfsAt (v : Nat → Int32) (b : Int32) : Nat → Int32
  | 0 => nI 0
  | k + 1 => fTurfsAt v b k + (if v (76 + 5 * k + 1) = b then v (76 + 5 * k + 2) else nI 0)
def fDried (we tn wi ra : Int32) : Int32 := if nI 100000 < we * (nI 64 - wi * (tn + nI 1)) / nI 64 + nI 1500 * ra then nI 100000 else we * (nI 64 - wi * (tn + nI 1)) / nI 64 + nI 1500 * ra
def fOnes (x : Int32) : Nat → Int32
  | 0 => nI 0
  | k + 1 => fOnes x k + bt x k
/-! the reference: its object at m, its rows behind it -/
def MD (m : Nat) (w pa he te re : Nat → Int32) (ps rn ty at_ st ki co : Int32) (h : pH) : Prop :=
  h m = some (ob 7 [.ref (m + 1), .ref (m + 2), .ref (m + 3), .int ps, .int rn, .ref (m + 4), .int ty, .int at_, .int st, .int ki, .ref (m + 5), .int co]) ∧ h (m + 1) = some (ai 1 410 w) ∧ h (m + 2) = some (ai 1 2050 pa) ∧ h (m + 3) = some (ai 1 410 he) ∧ h (m + 4) = some (ai 1 140 te) ∧ h (m + 5) = some (ai 1 3 re)
set_option maxRecDepth 100000 in
set_option maxHeartbeats 4000000 in
theorem c_X7_in (l : Launch) (E : pE) (x lo hi : Int32) : pC l E yX7_in cX7_in 3 (some .boolean) { frames := 0, cells := 0, slots := 0, locals := 0 } 0 0 [.int x, .int lo, .int hi] (fun h _ => True) (pFp ((bI (gI x lo hi)))) := by
  refine pC_of (by decide) (by simp [Value.category]) (Nat.le_of_ble_eq_true rfl) ?_
  intro h z hp p__ e__ s__ m__ args__ below__ meth__ c__ X hr hlk hname
  refine v_iload_n (pc := 0) X (hd := dX7_in_0) (kk := ?_)
  refine v_iload_n (pc := 1) X (hd := dX7_in_1) (kk := ?_)
  refine v_icmplt (pc := 2) X (tgt := 14) (hd := dX7_in_2) (kt := fun c2 => ?_) (kf := fun c2 => ?_)
  · refine v_iconst (pc := 14) X (v := nI 0) (hd := dX7_in_14) (kk := ?_)
    exact v_endb (pc := 15) X hr hlk (hd := dX7_in_15) (hf := bI_0 (fun q => by have q1 := q.1; rw [n_le] at q1; rw [n_lt] at c2; omega))
  · refine v_iload_n (pc := 5) X (hd := dX7_in_5) (kk := ?_)
    refine v_iload_n (pc := 6) X (hd := dX7_in_6) (kk := ?_)
    refine v_icmpgt (pc := 7) X (tgt := 14) (hd := dX7_in_7) (kt := fun c7 => ?_) (kf := fun c7 => ?_)
    · refine v_iconst (pc := 14) X (v := nI 0) (hd := dX7_in_14) (kk := ?_)
      exact v_endb (pc := 15) X hr hlk (hd := dX7_in_15) (hf := bI_0 (fun q => by have q1 := q.2; rw [n_le] at q1; rw [n_lt] at c7; omega))
    · refine v_iconst (pc := 10) X (v := nI 1) (hd := dX7_in_10) (kk := ?_)
      refine v_goto (pc := 11) X (tgt := 15) (hd := dX7_in_11) (kk := ?_)
      exact v_endb (pc := 15) X hr hlk (hd := dX7_in_15) (hf := bI_1 ⟨n_nlt c2, n_nlt c7⟩)
set_option maxRecDepth 100000 in
set_option maxHeartbeats 4000000 in
theorem c_X7_isHouse (l : Launch) (E : pE) (m : Nat) (w pa he te re : Nat → Int32) (ps rn ty at_ st ki co : Int32) (x : Int32) : pC l E yX7_isHouse cX7_isHouse 2 (some .boolean) { frames := 0, cells := 0, slots := 0, locals := 0 } 0 0 [.ref m, .int x] (fun h _ => MD m w pa he te re ps rn ty at_ st ki co h) (pFp ((bI (gH (w 1) x)))) := by
  refine pC_of (by decide) (by simp [Value.category]) (Nat.le_of_ble_eq_true rfl) ?_
  intro h z hp p__ e__ s__ m__ args__ below__ meth__ c__ X hr hlk hname
  have hM := hp
  have hM0 := hM
  obtain ⟨M0, M1, M2, M3, M4, M5⟩ := hM0
  refine v_iload_n (pc := 0) X (hd := dX7_isHouse_0) (kk := ?_)
  refine v_iflt (pc := 1) X (tgt := 18) (hd := dX7_isHouse_1) (kt := fun c1 => ?_) (kf := fun c1 => ?_)
  · refine v_iconst (pc := 18) X (v := nI 0) (hd := dX7_isHouse_18) (kk := ?_)
    exact v_endb (pc := 19) X hr hlk (hd := dX7_isHouse_19) (hf := bI_0 (fun q => by have q1 := q.1; rw [n_le] at q1; rw [n_lt] at c1; omega))
  · refine v_iload_n (pc := 4) X (hd := dX7_isHouse_4) (kk := ?_)
    refine v_aload_n (pc := 5) X (hd := dX7_isHouse_5) (kk := ?_)
    refine g_X7_7 (pc := 6) X (hd := dX7_isHouse_6) (hh := by assumption) (kk := ?_)
    refine v_iconst (pc := 9) X (v := nI 1) (hd := dX7_isHouse_9) (kk := ?_)
    refine v_ialdN (pc := 10) X (j := 1) (hd := dX7_isHouse_10) (hh := by assumption) (hi := rfl) (hj := by omega) (kk := ?_)
    refine v_icmpge (pc := 11) X (tgt := 18) (hd := dX7_isHouse_11) (kt := fun c11 => ?_) (kf := fun c11 => ?_)
    · refine v_iconst (pc := 18) X (v := nI 0) (hd := dX7_isHouse_18) (kk := ?_)
      exact v_endb (pc := 19) X hr hlk (hd := dX7_isHouse_19) (hf := bI_0 (fun q => by have q1 := q.2; rw [n_lt] at q1; rw [n_le] at c11; omega))
    · refine v_iconst (pc := 14) X (v := nI 1) (hd := dX7_isHouse_14) (kk := ?_)
      refine v_goto (pc := 15) X (tgt := 19) (hd := dX7_isHouse_15) (kk := ?_)
      exact v_endb (pc := 19) X hr hlk (hd := dX7_isHouse_19) (hf := bI_1 ⟨n_nlt c1, n_nle c11⟩)
set_option maxRecDepth 100000 in
set_option maxHeartbeats 4000000 in
theorem c_X7_isBank (l : Launch) (E : pE) (m : Nat) (w pa he te re : Nat → Int32) (ps rn ty at_ st ki co : Int32) (x : Int32) : pC l E yX7_isBank cX7_isBank 2 (some .boolean) { frames := 0, cells := 0, slots := 0, locals := 0 } 0 0 [.ref m, .int x] (fun h _ => MD m w pa he te re ps rn ty at_ st ki co h) (pFp ((bI (gH (w 2) x)))) := by
  refine pC_of (by decide) (by simp [Value.category]) (Nat.le_of_ble_eq_true rfl) ?_
  intro h z hp p__ e__ s__ m__ args__ below__ meth__ c__ X hr hlk hname
  have hM := hp
  have hM0 := hM
  obtain ⟨M0, M1, M2, M3, M4, M5⟩ := hM0
  refine v_iload_n (pc := 0) X (hd := dX7_isBank_0) (kk := ?_)
  refine v_iflt (pc := 1) X (tgt := 18) (hd := dX7_isBank_1) (kt := fun c1 => ?_) (kf := fun c1 => ?_)
  · refine v_iconst (pc := 18) X (v := nI 0) (hd := dX7_isBank_18) (kk := ?_)
    exact v_endb (pc := 19) X hr hlk (hd := dX7_isBank_19) (hf := bI_0 (fun q => by have q1 := q.1; rw [n_le] at q1; rw [n_lt] at c1; omega))
  · refine v_iload_n (pc := 4) X (hd := dX7_isBank_4) (kk := ?_)
    refine v_aload_n (pc := 5) X (hd := dX7_isBank_5) (kk := ?_)
    refine g_X7_7 (pc := 6) X (hd := dX7_isBank_6) (hh := by assumption) (kk := ?_)
    refine v_iconst (pc := 9) X (v := nI 2) (hd := dX7_isBank_9) (kk := ?_)
    refine v_ialdN (pc := 10) X (j := 2) (hd := dX7_isBank_10) (hh := by assumption) (hi := rfl) (hj := by omega) (kk := ?_)
    refine v_icmpge (pc := 11) X (tgt := 18) (hd := dX7_isBank_11) (kt := fun c11 => ?_) (kf := fun c11 => ?_)
    · refine v_iconst (pc := 18) X (v := nI 0) (hd := dX7_isBank_18) (kk := ?_)
      exact v_endb (pc := 19) X hr hlk (hd := dX7_isBank_19) (hf := bI_0 (fun q => by have q1 := q.2; rw [n_lt] at q1; rw [n_le] at c11; omega))
    · refine v_iconst (pc := 14) X (v := nI 1) (hd := dX7_isBank_14) (kk := ?_)
      refine v_goto (pc := 15) X (tgt := 19) (hd := dX7_isBank_15) (kk := ?_)
      exact v_endb (pc := 19) X hr hlk (hd := dX7_isBank_19) (hf := bI_1 ⟨n_nlt c1, n_nle c11⟩)
set_option maxRecDepth 100000 in
set_option maxHeartbeats 4000000 in
theorem c_X7_isStack (l : Launch) (E : pE) (m : Nat) (w pa he te re : Nat → Int32) (ps rn ty at_ st ki co : Int32) (x : Int32) : pC l E yX7_isStack cX7_isStack 2 (some .boolean) { frames := 0, cells := 0, slots := 0, locals := 0 } 0 0 [.ref m, .int x] (fun h _ => MD m w pa he te re ps rn ty at_ st ki co h) (pFp ((bI (gH (w 3) x)))) := by
  refine pC_of (by decide) (by simp [Value.category]) (Nat.le_of_ble_eq_true rfl) ?_
  intro h z hp p__ e__ s__ m__ args__ below__ meth__ c__ X hr hlk hname
  have hM := hp
  have hM0 := hM
  obtain ⟨M0, M1, M2, M3, M4, M5⟩ := hM0
  refine v_iload_n (pc := 0) X (hd := dX7_isStack_0) (kk := ?_)
  refine v_iflt (pc := 1) X (tgt := 18) (hd := dX7_isStack_1) (kt := fun c1 => ?_) (kf := fun c1 => ?_)
  · refine v_iconst (pc := 18) X (v := nI 0) (hd := dX7_isStack_18) (kk := ?_)
    exact v_endb (pc := 19) X hr hlk (hd := dX7_isStack_19) (hf := bI_0 (fun q => by have q1 := q.1; rw [n_le] at q1; rw [n_lt] at c1; omega))
  · refine v_iload_n (pc := 4) X (hd := dX7_isStack_4) (kk := ?_)
    refine v_aload_n (pc := 5) X (hd := dX7_isStack_5) (kk := ?_)
    refine g_X7_7 (pc := 6) X (hd := dX7_isStack_6) (hh := by assumption) (kk := ?_)
    refine v_iconst (pc := 9) X (v := nI 3) (hd := dX7_isStack_9) (kk := ?_)
    refine v_ialdN (pc := 10) X (j := 3) (hd := dX7_isStack_10) (hh := by assumption) (hi := rfl) (hj := by omega) (kk := ?_)
    refine v_icmpge (pc := 11) X (tgt := 18) (hd := dX7_isStack_11) (kt := fun c11 => ?_) (kf := fun c11 => ?_)
    · refine v_iconst (pc := 18) X (v := nI 0) (hd := dX7_isStack_18) (kk := ?_)
      exact v_endb (pc := 19) X hr hlk (hd := dX7_isStack_19) (hf := bI_0 (fun q => by have q1 := q.2; rw [n_lt] at q1; rw [n_le] at c11; omega))
    · refine v_iconst (pc := 14) X (v := nI 1) (hd := dX7_isStack_14) (kk := ?_)
      refine v_goto (pc := 15) X (tgt := 19) (hd := dX7_isStack_15) (kk := ?_)
      exact v_endb (pc := 19) X hr hlk (hd := dX7_isStack_19) (hf := bI_1 ⟨n_nlt c1, n_nle c11⟩)
set_option maxRecDepth 100000 in
set_option maxHeartbeats 4000000 in
theorem c_X7_inHouse (l : Launch) (E : pE) (m : Nat) (w pa he te re : Nat → Int32) (ps rn ty at_ st ki co : Int32) (j q : Nat) : pC l E yX7_inHouse cX7_inHouse 3 (some .int) { frames := 0, cells := 0, slots := 0, locals := 0 } 0 0 [.ref m, .int (nI j), .int (nI q)] (fun h _ => MD m w pa he te re ps rn ty at_ st ki co h ∧ 6 + 3 * j + q < 410) (pFp ((w (6 + 3 * j + q)))) := by
  refine pC_of (by decide) (by simp [Value.category]) (Nat.le_of_ble_eq_true rfl) ?_
  intro h z hp p__ e__ s__ m__ args__ below__ meth__ c__ X hr hlk hname
  obtain ⟨hM, hE⟩ := hp
  have hM0 := hM
  obtain ⟨M0, M1, M2, M3, M4, M5⟩ := hM0
  refine v_aload_n (pc := 0) X (hd := dX7_inHouse_0) (kk := ?_)
  refine g_X7_7 (pc := 1) X (hd := dX7_inHouse_1) (hh := by assumption) (kk := ?_)
  refine v_bipush (pc := 4) X (v := nI 6) (hd := dX7_inHouse_4) (kk := ?_)
  refine v_iconst (pc := 6) X (v := nI 3) (hd := dX7_inHouse_6) (kk := ?_)
  refine v_iload_n (pc := 7) X (hd := dX7_inHouse_7) (kk := ?_)
  refine v_imul (pc := 8) X (hd := dX7_inHouse_8) (kk := ?_)
  refine v_iadd (pc := 9) X (hd := dX7_inHouse_9) (kk := ?_)
  refine v_iload_n (pc := 10) X (hd := dX7_inHouse_10) (kk := ?_)
  refine v_iadd (pc := 11) X (hd := dX7_inHouse_11) (kk := ?_)
  refine v_ialdN (pc := 12) X (j := (6 + 3 * j + q)) (hd := dX7_inHouse_12) (hh := by assumption) (hi := by rw [pk_mul, nI_add, nI_add]) (hj := by omega) (kk := ?_)
  exact v_endp (pc := 13) X hr hlk (hd := dX7_inHouse_13) (hf := rfl)
set_option maxRecDepth 100000 in
set_option maxHeartbeats 4000000 in
theorem c_X7_inBank (l : Launch) (E : pE) (m : Nat) (w pa he te re : Nat → Int32) (ps rn ty at_ st ki co : Int32) (j q : Nat) : pC l E yX7_inBank cX7_inBank 3 (some .int) { frames := 0, cells := 0, slots := 0, locals := 0 } 0 0 [.ref m, .int (nI j), .int (nI q)] (fun h _ => MD m w pa he te re ps rn ty at_ st ki co h ∧ 24 + 7 * j + q < 410) (pFp ((w (24 + 7 * j + q)))) := by
  refine pC_of (by decide) (by simp [Value.category]) (Nat.le_of_ble_eq_true rfl) ?_
  intro h z hp p__ e__ s__ m__ args__ below__ meth__ c__ X hr hlk hname
  obtain ⟨hM, hE⟩ := hp
  have hM0 := hM
  obtain ⟨M0, M1, M2, M3, M4, M5⟩ := hM0
  refine v_aload_n (pc := 0) X (hd := dX7_inBank_0) (kk := ?_)
  refine g_X7_7 (pc := 1) X (hd := dX7_inBank_1) (hh := by assumption) (kk := ?_)
  refine v_bipush (pc := 4) X (v := nI 24) (hd := dX7_inBank_4) (kk := ?_)
  refine v_bipush (pc := 6) X (v := nI 7) (hd := dX7_inBank_6) (kk := ?_)
  refine v_iload_n (pc := 8) X (hd := dX7_inBank_8) (kk := ?_)
  refine v_imul (pc := 9) X (hd := dX7_inBank_9) (kk := ?_)
  refine v_iadd (pc := 10) X (hd := dX7_inBank_10) (kk := ?_)
  refine v_iload_n (pc := 11) X (hd := dX7_inBank_11) (kk := ?_)
  refine v_iadd (pc := 12) X (hd := dX7_inBank_12) (kk := ?_)
  refine v_ialdN (pc := 13) X (j := (24 + 7 * j + q)) (hd := dX7_inBank_13) (hh := by assumption) (hi := by rw [pk_mul, nI_add, nI_add]) (hj := by omega) (kk := ?_)
  exact v_endp (pc := 14) X hr hlk (hd := dX7_inBank_14) (hf := rfl)
set_option maxRecDepth 100000 in
set_option maxHeartbeats 4000000 in
theorem c_X7_inStack (l : Launch) (E : pE) (m : Nat) (w pa he te re : Nat → Int32) (ps rn ty at_ st ki co : Int32) (j q : Nat) : pC l E yX7_inStack cX7_inStack 3 (some .int) { frames := 0, cells := 0, slots := 0, locals := 0 } 0 0 [.ref m, .int (nI j), .int (nI q)] (fun h _ => MD m w pa he te re ps rn ty at_ st ki co h ∧ 76 + 5 * j + q < 410) (pFp ((w (76 + 5 * j + q)))) := by
  refine pC_of (by decide) (by simp [Value.category]) (Nat.le_of_ble_eq_true rfl) ?_
  intro h z hp p__ e__ s__ m__ args__ below__ meth__ c__ X hr hlk hname
  obtain ⟨hM, hE⟩ := hp
  have hM0 := hM
  obtain ⟨M0, M1, M2, M3, M4, M5⟩ := hM0
  refine v_aload_n (pc := 0) X (hd := dX7_inStack_0) (kk := ?_)
  refine g_X7_7 (pc := 1) X (hd := dX7_inStack_1) (hh := by assumption) (kk := ?_)
  refine v_bipush (pc := 4) X (v := nI 76) (hd := dX7_inStack_4) (kk := ?_)
  refine v_iconst (pc := 6) X (v := nI 5) (hd := dX7_inStack_6) (kk := ?_)
  refine v_iload_n (pc := 7) X (hd := dX7_inStack_7) (kk := ?_)
  refine v_imul (pc := 8) X (hd := dX7_inStack_8) (kk := ?_)
  refine v_iadd (pc := 9) X (hd := dX7_inStack_9) (kk := ?_)
  refine v_iload_n (pc := 10) X (hd := dX7_inStack_10) (kk := ?_)
  refine v_iadd (pc := 11) X (hd := dX7_inStack_11) (kk := ?_)
  refine v_ialdN (pc := 12) X (j := (76 + 5 * j + q)) (hd := dX7_inStack_12) (hh := by assumption) (hi := by rw [pk_mul, nI_add, nI_add]) (hj := by omega) (kk := ?_)
  exact v_endp (pc := 13) X hr hlk (hd := dX7_inStack_13) (hf := rfl)
set_option maxRecDepth 100000 in
set_option maxHeartbeats 4000000 in
theorem c_X7_hasRight (l : Launch) (E : pE) (m : Nat) (w pa he te re : Nat → Int32) (ps rn ty at_ st ki co : Int32) (j b : Nat) : pC l E yX7_hasRight cX7_hasRight 3 (some .boolean) { frames := 1, cells := 0, slots := 0, locals := 22 } 0 0 [.ref m, .int (nI j), .int (nI b)] (fun h _ => MD m w pa he te re ps rn ty at_ st ki co h ∧ b < 4) (pFp ((bI (hR w j b)))) := by
  refine pC_of (by decide) (by simp [Value.category]) (Nat.le_of_ble_eq_true rfl) ?_
  intro h z hp p__ e__ s__ m__ args__ below__ meth__ c__ X hr hlk hname
  obtain ⟨hM, hE⟩ := hp
  have hM0 := hM
  obtain ⟨M0, M1, M2, M3, M4, M5⟩ := hM0
  refine v_aload_n (pc := 0) X (hd := dX7_hasRight_0) (kk := ?_)
  refine v_iload_n (pc := 1) X (hd := dX7_hasRight_1) (kk := ?_)
  refine v_iconst (pc := 2) X (v := nI 3) (hd := dX7_hasRight_2) (kk := ?_)
  refine v_callVp (pc := 3) X (hd := dX7_hasRight_3) (w := wv_X7_51) (hC := c_X7_inBank l E _ _ _ _ _ _ _ _ _ _ _ _ _ (b) 3) (hp := ⟨hM, by omega⟩) (hb := by assumption) (kk := ?_)
  refine v_iload_n (pc := 6) X (hd := dX7_hasRight_6) (kk := ?_)
  refine v_ishr (pc := 7) X (hd := dX7_hasRight_7) (kk := ?_)
  refine v_iconst (pc := 8) X (v := nI 1) (hd := dX7_hasRight_8) (kk := ?_)
  refine v_iand (pc := 9) X (hd := dX7_hasRight_9) (kk := ?_)
  refine v_iconst (pc := 10) X (v := nI 1) (hd := dX7_hasRight_10) (kk := ?_)
  refine v_icmpne (pc := 11) X (tgt := 18) (hd := dX7_hasRight_11) (kt := fun c11 => ?_) (kf := fun c11 => ?_)
  · refine v_iconst (pc := 18) X (v := nI 0) (hd := dX7_hasRight_18) (kk := ?_)
    exact v_endb (pc := 19) X hr hlk (hd := dX7_hasRight_19) (hf := bI_0 c11)
  · refine v_iconst (pc := 14) X (v := nI 1) (hd := dX7_hasRight_14) (kk := ?_)
    refine v_goto (pc := 15) X (tgt := 19) (hd := dX7_hasRight_15) (kk := ?_)
    exact v_endb (pc := 19) X hr hlk (hd := dX7_hasRight_19) (hf := bI_1 (Classical.not_not.mp c11))
set_option maxRecDepth 100000 in
set_option maxHeartbeats 4000000 in
theorem c_X7_ones (l : Launch) (E : pE) (x : Int32) : pC l E yX7_ones cX7_ones 3 (some .int) { frames := 0, cells := 0, slots := 0, locals := 0 } 0 0 [.int x] (fun h _ => True) (pFp ((fOnes x 6))) := by
  refine pC_of (by decide) (by simp [Value.category]) (Nat.le_of_ble_eq_true rfl) ?_
  intro h z hp p__ e__ s__ m__ args__ below__ meth__ c__ X hr hlk hname
  refine v_iconst (pc := 0) X (v := nI 0) (hd := dX7_ones_0) (kk := ?_)
  refine v_istore_n (pc := 1) X (hd := dX7_ones_1) (kk := ?_)
  refine v_iconst (pc := 2) X (v := nI 0) (hd := dX7_ones_2) (kk := ?_)
  refine v_istore_n (pc := 3) X (hd := dX7_ones_3) (kk := ?_)
  refine v_forp (pc := 4) (M := 6) (Lf := fun i => [some (.int x), some (.int (fOnes x i)), some (.int (nI i))]) (hL := by rfl) (step := ?_) (out := ?_)
  · intro i hi kk
    refine v_iload_n (pc := 4) X (hd := dX7_ones_4) (kk := ?_)
    refine v_bipush (pc := 5) X (v := nI 6) (hd := dX7_ones_5) (kk := ?_)
    refine v_icmpge (pc := 7) X (tgt := 24) (hd := dX7_ones_7) (kt := fun c7 => ?_) (kf := fun c7 => ?_)
    · exact absurd c7 (nI_ge hi (by omega))
    · refine v_iload_n (pc := 10) X (hd := dX7_ones_10) (kk := ?_)
      refine v_iload_n (pc := 11) X (hd := dX7_ones_11) (kk := ?_)
      refine v_iload_n (pc := 12) X (hd := dX7_ones_12) (kk := ?_)
      refine v_ishr (pc := 13) X (hd := dX7_ones_13) (kk := ?_)
      refine v_iconst (pc := 14) X (v := nI 1) (hd := dX7_ones_14) (kk := ?_)
      refine v_iand (pc := 15) X (hd := dX7_ones_15) (kk := ?_)
      refine v_iadd (pc := 16) X (hd := dX7_ones_16) (kk := ?_)
      refine v_istore_n (pc := 17) X (hd := dX7_ones_17) (kk := ?_)
      refine v_iincN (pc := 18) X (hd := dX7_ones_18) (kk := ?_)
      refine v_goto (pc := 21) X (tgt := 4) (hd := dX7_ones_21) (kk := ?_)
      exact kk
  · skip
    refine v_iload_n (pc := 4) X (hd := dX7_ones_4) (kk := ?_)
    refine v_bipush (pc := 5) X (v := nI 6) (hd := dX7_ones_5) (kk := ?_)
    refine v_icmpge (pc := 7) X (tgt := 24) (hd := dX7_ones_7) (kt := fun c7 => ?_) (kf := fun c7 => ?_)
    · refine v_iload_n (pc := 24) X (hd := dX7_ones_24) (kk := ?_)
      exact v_endp (pc := 25) X hr hlk (hd := dX7_ones_25) (hf := rfl)
    · exact absurd (Int32.le_refl _) c7
set_option maxRecDepth 100000 in
set_option maxHeartbeats 4000000 in
theorem c_X7_spadesOf (l : Launch) (E : pE) (m : Nat) (w pa he te re : Nat → Int32) (ps rn ty at_ st ki co : Int32) (b nh : Nat) : pC l E yX7_spadesOf cX7_spadesOf 4 (some .int) { frames := 2, cells := 0, slots := 0, locals := 44 } 0 0 [.ref m, .int (nI b)] (fun h _ => MD m w pa he te re ps rn ty at_ st ki co h ∧ b < 4 ∧ nh ≤ 6 ∧ w 1 = nI nh) (pFp ((fSp w b nh))) := by
  refine pC_of (by decide) (by simp [Value.category]) (Nat.le_of_ble_eq_true rfl) ?_
  intro h z hp p__ e__ s__ m__ args__ below__ meth__ c__ X hr hlk hname
  obtain ⟨hM, hE⟩ := hp
  have hM0 := hM
  obtain ⟨M0, M1, M2, M3, M4, M5⟩ := hM0
  obtain ⟨hb, hn6, hn⟩ := hE
  refine v_iconst (pc := 0) X (v := nI 0) (hd := dX7_spadesOf_0) (kk := ?_)
  refine v_istore_n (pc := 1) X (hd := dX7_spadesOf_1) (kk := ?_)
  refine v_iconst (pc := 2) X (v := nI 0) (hd := dX7_spadesOf_2) (kk := ?_)
  refine v_istore_n (pc := 3) X (hd := dX7_spadesOf_3) (kk := ?_)
  refine v_forp (pc := 4) (M := nh) (Lf := fun i => [some (.ref m), some (.int (nI b)), some (.int (fSp w b i)), some (.int (nI i))]) (hL := by rfl) (step := ?_) (out := ?_)
  · intro i hi kk
    refine v_iload_n (pc := 4) X (hd := dX7_spadesOf_4) (kk := ?_)
    refine v_aload_n (pc := 5) X (hd := dX7_spadesOf_5) (kk := ?_)
    refine g_X7_7 (pc := 6) X (hd := dX7_spadesOf_6) (hh := by assumption) (kk := ?_)
    refine v_iconst (pc := 9) X (v := nI 1) (hd := dX7_spadesOf_9) (kk := ?_)
    refine v_ialdN (pc := 10) X (j := 1) (hd := dX7_spadesOf_10) (hh := by assumption) (hi := rfl) (hj := by omega) (kk := ?_)
    rw [hn]
    refine v_icmpge (pc := 11) X (tgt := 42) (hd := dX7_spadesOf_11) (kt := fun c11 => ?_) (kf := fun c11 => ?_)
    · exact absurd c11 (nI_ge hi (by omega))
    · refine v_iload_n (pc := 14) X (hd := dX7_spadesOf_14) (kk := ?_)
      refine v_aload_n (pc := 15) X (hd := dX7_spadesOf_15) (kk := ?_)
      refine v_iload_n (pc := 16) X (hd := dX7_spadesOf_16) (kk := ?_)
      refine v_iload_n (pc := 17) X (hd := dX7_spadesOf_17) (kk := ?_)
      refine v_callVp (pc := 18) X (hd := dX7_spadesOf_18) (w := wv_X7_58) (hC := c_X7_hasRight l E _ _ _ _ _ _ _ _ _ _ _ _ _ (i) (b)) (hp := ⟨hM, by omega⟩) (hb := by assumption) (kk := ?_)
      refine v_ifeqB (pc := 21) X (tgt := 33) (hd := dX7_spadesOf_21) (kt := fun c21 => ?_) (kf := fun c21 => ?_)
      · rw [show fSp w b (i + 1) = fSp w b i + nI 0 from by show fSp w b i + _ = _; rw [if_neg c21]] at kk
        refine v_iconst (pc := 33) X (v := nI 0) (hd := dX7_spadesOf_33) (kk := ?_)
        refine v_iadd (pc := 34) X (hd := dX7_spadesOf_34) (kk := ?_)
        refine v_istore_n (pc := 35) X (hd := dX7_spadesOf_35) (kk := ?_)
        refine v_iincN (pc := 36) X (hd := dX7_spadesOf_36) (kk := ?_)
        refine v_goto (pc := 39) X (tgt := 4) (hd := dX7_spadesOf_39) (kk := ?_)
        exact kk
      · rw [show fSp w b (i + 1) = fSp w b i + w (6 + 3 * i + 0) from by show fSp w b i + _ = _; rw [if_pos c21]] at kk
        refine v_aload_n (pc := 24) X (hd := dX7_spadesOf_24) (kk := ?_)
        refine v_iload_n (pc := 25) X (hd := dX7_spadesOf_25) (kk := ?_)
        refine v_iconst (pc := 26) X (v := nI 0) (hd := dX7_spadesOf_26) (kk := ?_)
        refine v_callVp (pc := 27) X (hd := dX7_spadesOf_27) (w := wv_X7_44) (hC := c_X7_inHouse l E _ _ _ _ _ _ _ _ _ _ _ _ _ (i) 0) (hp := ⟨hM, by omega⟩) (hb := by assumption) (kk := ?_)
        refine v_goto (pc := 30) X (tgt := 34) (hd := dX7_spadesOf_30) (kk := ?_)
        refine v_iadd (pc := 34) X (hd := dX7_spadesOf_34) (kk := ?_)
        refine v_istore_n (pc := 35) X (hd := dX7_spadesOf_35) (kk := ?_)
        refine v_iincN (pc := 36) X (hd := dX7_spadesOf_36) (kk := ?_)
        refine v_goto (pc := 39) X (tgt := 4) (hd := dX7_spadesOf_39) (kk := ?_)
        exact kk
  · skip
    refine v_iload_n (pc := 4) X (hd := dX7_spadesOf_4) (kk := ?_)
    refine v_aload_n (pc := 5) X (hd := dX7_spadesOf_5) (kk := ?_)
    refine g_X7_7 (pc := 6) X (hd := dX7_spadesOf_6) (hh := by assumption) (kk := ?_)
    refine v_iconst (pc := 9) X (v := nI 1) (hd := dX7_spadesOf_9) (kk := ?_)
    refine v_ialdN (pc := 10) X (j := 1) (hd := dX7_spadesOf_10) (hh := by assumption) (hi := rfl) (hj := by omega) (kk := ?_)
    rw [hn]
    refine v_icmpge (pc := 11) X (tgt := 42) (hd := dX7_spadesOf_11) (kt := fun c11 => ?_) (kf := fun c11 => ?_)
    · refine v_iload_n (pc := 42) X (hd := dX7_spadesOf_42) (kk := ?_)
      exact v_endp (pc := 43) X hr hlk (hd := dX7_spadesOf_43) (hf := rfl)
    · exact absurd (Int32.le_refl _) c11
set_option maxRecDepth 100000 in
set_option maxHeartbeats 4000000 in
theorem c_X7_shareOf (l : Launch) (E : pE) (m : Nat) (w pa he te re : Nat → Int32) (ps rn ty at_ st ki co : Int32) (hh b nh : Nat) : pC l E yX7_shareOf cX7_shareOf 7 (some .int) { frames := 3, cells := 0, slots := 0, locals := 67 } 0 0 [.ref m, .int (nI hh), .int (nI b)] (fun h _ => MD m w pa he te re ps rn ty at_ st ki co h ∧ hh < 6 ∧ b < 4 ∧ nh ≤ 6 ∧ w 1 = nI nh ∧ (hR w hh b → ¬ fSp w b nh = 0) ∧ (∀ k, k < nh → hR w k b → ¬ fSp w b nh = 0)) (pFp ((fShare w nh hh b))) := by
  refine pC_of (by decide) (by simp [Value.category]) (Nat.le_of_ble_eq_true rfl) ?_
  intro h z hp p__ e__ s__ m__ args__ below__ meth__ c__ X hr hlk hname
  obtain ⟨hM, hE⟩ := hp
  have hM0 := hM
  obtain ⟨M0, M1, M2, M3, M4, M5⟩ := hM0
  obtain ⟨hh6, hb, hn6, hn, hz1, hz2⟩ := hE
  refine v_aload_n (pc := 0) X (hd := dX7_shareOf_0) (kk := ?_)
  refine v_iload_n (pc := 1) X (hd := dX7_shareOf_1) (kk := ?_)
  refine v_callVp (pc := 2) X (hd := dX7_shareOf_2) (w := wv_X7_62) (hC := c_X7_spadesOf l E _ _ _ _ _ _ _ _ _ _ _ _ _ b nh) (hp := ⟨hM, hb, hn6, hn⟩) (hb := by assumption) (kk := ?_)
  refine v_istore_n (pc := 5) X (hd := dX7_shareOf_5) (kk := ?_)
  refine v_aload_n (pc := 6) X (hd := dX7_shareOf_6) (kk := ?_)
  refine v_iload_n (pc := 7) X (hd := dX7_shareOf_7) (kk := ?_)
  refine v_iload_n (pc := 8) X (hd := dX7_shareOf_8) (kk := ?_)
  refine v_callVp (pc := 9) X (hd := dX7_shareOf_9) (w := wv_X7_58) (hC := c_X7_hasRight l E _ _ _ _ _ _ _ _ _ _ _ _ _ (hh) (b)) (hp := ⟨hM, by omega⟩) (hb := by assumption) (kk := ?_)
  refine v_ifneB (pc := 12) X (tgt := 17) (hd := dX7_shareOf_12) (kt := fun c12 => ?_) (kf := fun c12 => ?_)
  · refine v_aload_n (pc := 17) X (hd := dX7_shareOf_17) (kk := ?_)
    refine v_iload_n (pc := 18) X (hd := dX7_shareOf_18) (kk := ?_)
    refine v_iconst (pc := 19) X (v := nI 0) (hd := dX7_shareOf_19) (kk := ?_)
    refine v_callVp (pc := 20) X (hd := dX7_shareOf_20) (w := wv_X7_51) (hC := c_X7_inBank l E _ _ _ _ _ _ _ _ _ _ _ _ _ (b) 0) (hp := ⟨hM, by omega⟩) (hb := by assumption) (kk := ?_)
    refine v_istore (pc := 23) X (hd := dX7_shareOf_23) (kk := ?_)
    refine v_iconst (pc := 25) X (v := nI 0) (hd := dX7_shareOf_25) (kk := ?_)
    refine v_istore (pc := 26) X (hd := dX7_shareOf_26) (kk := ?_)
    refine v_iconst (pc := 28) X (v := nI 0) (hd := dX7_shareOf_28) (kk := ?_)
    refine v_istore (pc := 29) X (hd := dX7_shareOf_29) (kk := ?_)
    refine v_forp (pc := 31) (M := nh) (Lf := fun i => [some (.ref m), some (.int (nI hh)), some (.int (nI b)), some (.int (fSp w b nh)), some (.int (fLeft w b (fSp w b nh) i)), some (.int (fAhead w b hh i)), some (.int (nI i))]) (hL := by rfl) (step := ?_) (out := ?_)
    · intro i hi kk
      refine v_iload (pc := 31) X (hd := dX7_shareOf_31) (kk := ?_)
      refine v_aload_n (pc := 33) X (hd := dX7_shareOf_33) (kk := ?_)
      refine g_X7_7 (pc := 34) X (hd := dX7_shareOf_34) (hh := by assumption) (kk := ?_)
      refine v_iconst (pc := 37) X (v := nI 1) (hd := dX7_shareOf_37) (kk := ?_)
      refine v_ialdN (pc := 38) X (j := 1) (hd := dX7_shareOf_38) (hh := by assumption) (hi := rfl) (hj := by omega) (kk := ?_)
      rw [hn]
      refine v_icmpge (pc := 39) X (tgt := 109) (hd := dX7_shareOf_39) (kt := fun c39 => ?_) (kf := fun c39 => ?_)
      · exact absurd c39 (nI_ge hi (by omega))
      · refine v_iload (pc := 42) X (hd := dX7_shareOf_42) (kk := ?_)
        refine v_aload_n (pc := 44) X (hd := dX7_shareOf_44) (kk := ?_)
        refine v_iload (pc := 45) X (hd := dX7_shareOf_45) (kk := ?_)
        refine v_iload_n (pc := 47) X (hd := dX7_shareOf_47) (kk := ?_)
        refine v_callVp (pc := 48) X (hd := dX7_shareOf_48) (w := wv_X7_58) (hC := c_X7_hasRight l E _ _ _ _ _ _ _ _ _ _ _ _ _ (i) (b)) (hp := ⟨hM, by omega⟩) (hb := by assumption) (kk := ?_)
        refine v_ifeqB (pc := 51) X (tgt := 73) (hd := dX7_shareOf_51) (kt := fun c51 => ?_) (kf := fun c51 => ?_)
        · rw [show fLeft w b (fSp w b nh) (i + 1) = fLeft w b (fSp w b nh) i - nI 0 from by show fLeft w b (fSp w b nh) i - _ = _; rw [if_neg c51]] at kk
          refine v_iconst (pc := 73) X (v := nI 0) (hd := dX7_shareOf_73) (kk := ?_)
          refine v_isub (pc := 74) X (hd := dX7_shareOf_74) (kk := ?_)
          refine v_istore (pc := 75) X (hd := dX7_shareOf_75) (kk := ?_)
          refine v_iload (pc := 77) X (hd := dX7_shareOf_77) (kk := ?_)
          refine v_iload (pc := 79) X (hd := dX7_shareOf_79) (kk := ?_)
          refine v_iload_n (pc := 81) X (hd := dX7_shareOf_81) (kk := ?_)
          refine v_icmpge (pc := 82) X (tgt := 99) (hd := dX7_shareOf_82) (kt := fun c82 => ?_) (kf := fun c82 => ?_)
          · rw [show fAhead w b hh (i + 1) = fAhead w b hh i + nI 0 from by show fAhead w b hh i + _ = _; rw [if_neg (fun q => by have q1 := q.1; exact absurd c82 (nI_ge q1 (by omega)))]] at kk
            refine v_iconst (pc := 99) X (v := nI 0) (hd := dX7_shareOf_99) (kk := ?_)
            refine v_iadd (pc := 100) X (hd := dX7_shareOf_100) (kk := ?_)
            refine v_istore (pc := 101) X (hd := dX7_shareOf_101) (kk := ?_)
            refine v_iincN (pc := 103) X (hd := dX7_shareOf_103) (kk := ?_)
            refine v_goto (pc := 106) X (tgt := 31) (hd := dX7_shareOf_106) (kk := ?_)
            exact kk
          · have c83 : i < hh := (nI_ltI (by omega) (by omega)).mp (n_nle c82)
            refine v_aload_n (pc := 85) X (hd := dX7_shareOf_85) (kk := ?_)
            refine v_iload (pc := 86) X (hd := dX7_shareOf_86) (kk := ?_)
            refine v_iload_n (pc := 88) X (hd := dX7_shareOf_88) (kk := ?_)
            refine v_callVp (pc := 89) X (hd := dX7_shareOf_89) (w := wv_X7_58) (hC := c_X7_hasRight l E _ _ _ _ _ _ _ _ _ _ _ _ _ (i) (b)) (hp := ⟨hM, by omega⟩) (hb := by assumption) (kk := ?_)
            refine v_ifeqB (pc := 92) X (tgt := 99) (hd := dX7_shareOf_92) (kt := fun c92 => ?_) (kf := fun c92 => ?_)
            · rw [show fAhead w b hh (i + 1) = fAhead w b hh i + nI 0 from by show fAhead w b hh i + _ = _; rw [if_neg (fun q => c92 q.2)]] at kk
              refine v_iconst (pc := 99) X (v := nI 0) (hd := dX7_shareOf_99) (kk := ?_)
              refine v_iadd (pc := 100) X (hd := dX7_shareOf_100) (kk := ?_)
              refine v_istore (pc := 101) X (hd := dX7_shareOf_101) (kk := ?_)
              refine v_iincN (pc := 103) X (hd := dX7_shareOf_103) (kk := ?_)
              refine v_goto (pc := 106) X (tgt := 31) (hd := dX7_shareOf_106) (kk := ?_)
              exact kk
            · rw [show fAhead w b hh (i + 1) = fAhead w b hh i + nI 1 from by show fAhead w b hh i + _ = _; rw [if_pos ⟨c83, c92⟩]] at kk
              refine v_iconst (pc := 95) X (v := nI 1) (hd := dX7_shareOf_95) (kk := ?_)
              refine v_goto (pc := 96) X (tgt := 100) (hd := dX7_shareOf_96) (kk := ?_)
              refine v_iadd (pc := 100) X (hd := dX7_shareOf_100) (kk := ?_)
              refine v_istore (pc := 101) X (hd := dX7_shareOf_101) (kk := ?_)
              refine v_iincN (pc := 103) X (hd := dX7_shareOf_103) (kk := ?_)
              refine v_goto (pc := 106) X (tgt := 31) (hd := dX7_shareOf_106) (kk := ?_)
              exact kk
        · rw [show fLeft w b (fSp w b nh) (i + 1) = fLeft w b (fSp w b nh) i - w (24 + 7 * b + 0) * w (6 + 3 * i + 0) / fSp w b nh from by show fLeft w b (fSp w b nh) i - _ = _; rw [if_pos c51]] at kk
          refine v_aload_n (pc := 54) X (hd := dX7_shareOf_54) (kk := ?_)
          refine v_iload_n (pc := 55) X (hd := dX7_shareOf_55) (kk := ?_)
          refine v_iconst (pc := 56) X (v := nI 0) (hd := dX7_shareOf_56) (kk := ?_)
          refine v_callVp (pc := 57) X (hd := dX7_shareOf_57) (w := wv_X7_51) (hC := c_X7_inBank l E _ _ _ _ _ _ _ _ _ _ _ _ _ (b) 0) (hp := ⟨hM, by omega⟩) (hb := by assumption) (kk := ?_)
          refine v_aload_n (pc := 60) X (hd := dX7_shareOf_60) (kk := ?_)
          refine v_iload (pc := 61) X (hd := dX7_shareOf_61) (kk := ?_)
          refine v_iconst (pc := 63) X (v := nI 0) (hd := dX7_shareOf_63) (kk := ?_)
          refine v_callVp (pc := 64) X (hd := dX7_shareOf_64) (w := wv_X7_44) (hC := c_X7_inHouse l E _ _ _ _ _ _ _ _ _ _ _ _ _ (i) 0) (hp := ⟨hM, by omega⟩) (hb := by assumption) (kk := ?_)
          refine v_imul (pc := 67) X (hd := dX7_shareOf_67) (kk := ?_)
          refine v_iload_n (pc := 68) X (hd := dX7_shareOf_68) (kk := ?_)
          refine v_idiv (pc := 69) X (hd := dX7_shareOf_69) (hne := hz2 i hi c51) (kk := ?_)
          refine v_goto (pc := 70) X (tgt := 74) (hd := dX7_shareOf_70) (kk := ?_)
          refine v_isub (pc := 74) X (hd := dX7_shareOf_74) (kk := ?_)
          refine v_istore (pc := 75) X (hd := dX7_shareOf_75) (kk := ?_)
          refine v_iload (pc := 77) X (hd := dX7_shareOf_77) (kk := ?_)
          refine v_iload (pc := 79) X (hd := dX7_shareOf_79) (kk := ?_)
          refine v_iload_n (pc := 81) X (hd := dX7_shareOf_81) (kk := ?_)
          refine v_icmpge (pc := 82) X (tgt := 99) (hd := dX7_shareOf_82) (kt := fun c82 => ?_) (kf := fun c82 => ?_)
          · rw [show fAhead w b hh (i + 1) = fAhead w b hh i + nI 0 from by show fAhead w b hh i + _ = _; rw [if_neg (fun q => by have q1 := q.1; exact absurd c82 (nI_ge q1 (by omega)))]] at kk
            refine v_iconst (pc := 99) X (v := nI 0) (hd := dX7_shareOf_99) (kk := ?_)
            refine v_iadd (pc := 100) X (hd := dX7_shareOf_100) (kk := ?_)
            refine v_istore (pc := 101) X (hd := dX7_shareOf_101) (kk := ?_)
            refine v_iincN (pc := 103) X (hd := dX7_shareOf_103) (kk := ?_)
            refine v_goto (pc := 106) X (tgt := 31) (hd := dX7_shareOf_106) (kk := ?_)
            exact kk
          · have c83 : i < hh := (nI_ltI (by omega) (by omega)).mp (n_nle c82)
            refine v_aload_n (pc := 85) X (hd := dX7_shareOf_85) (kk := ?_)
            refine v_iload (pc := 86) X (hd := dX7_shareOf_86) (kk := ?_)
            refine v_iload_n (pc := 88) X (hd := dX7_shareOf_88) (kk := ?_)
            refine v_callVp (pc := 89) X (hd := dX7_shareOf_89) (w := wv_X7_58) (hC := c_X7_hasRight l E _ _ _ _ _ _ _ _ _ _ _ _ _ (i) (b)) (hp := ⟨hM, by omega⟩) (hb := by assumption) (kk := ?_)
            refine v_ifeqB (pc := 92) X (tgt := 99) (hd := dX7_shareOf_92) (kt := fun c92 => ?_) (kf := fun c92 => ?_)
            · rw [show fAhead w b hh (i + 1) = fAhead w b hh i + nI 0 from by show fAhead w b hh i + _ = _; rw [if_neg (fun q => c92 q.2)]] at kk
              refine v_iconst (pc := 99) X (v := nI 0) (hd := dX7_shareOf_99) (kk := ?_)
              refine v_iadd (pc := 100) X (hd := dX7_shareOf_100) (kk := ?_)
              refine v_istore (pc := 101) X (hd := dX7_shareOf_101) (kk := ?_)
              refine v_iincN (pc := 103) X (hd := dX7_shareOf_103) (kk := ?_)
              refine v_goto (pc := 106) X (tgt := 31) (hd := dX7_shareOf_106) (kk := ?_)
              exact kk
            · rw [show fAhead w b hh (i + 1) = fAhead w b hh i + nI 1 from by show fAhead w b hh i + _ = _; rw [if_pos ⟨c83, c92⟩]] at kk
              refine v_iconst (pc := 95) X (v := nI 1) (hd := dX7_shareOf_95) (kk := ?_)
              refine v_goto (pc := 96) X (tgt := 100) (hd := dX7_shareOf_96) (kk := ?_)
              refine v_iadd (pc := 100) X (hd := dX7_shareOf_100) (kk := ?_)
              refine v_istore (pc := 101) X (hd := dX7_shareOf_101) (kk := ?_)
              refine v_iincN (pc := 103) X (hd := dX7_shareOf_103) (kk := ?_)
              refine v_goto (pc := 106) X (tgt := 31) (hd := dX7_shareOf_106) (kk := ?_)
              exact kk
    · skip
      refine v_iload (pc := 31) X (hd := dX7_shareOf_31) (kk := ?_)
      refine v_aload_n (pc := 33) X (hd := dX7_shareOf_33) (kk := ?_)
      refine g_X7_7 (pc := 34) X (hd := dX7_shareOf_34) (hh := by assumption) (kk := ?_)
      refine v_iconst (pc := 37) X (v := nI 1) (hd := dX7_shareOf_37) (kk := ?_)
      refine v_ialdN (pc := 38) X (j := 1) (hd := dX7_shareOf_38) (hh := by assumption) (hi := rfl) (hj := by omega) (kk := ?_)
      rw [hn]
      refine v_icmpge (pc := 39) X (tgt := 109) (hd := dX7_shareOf_39) (kt := fun c39 => ?_) (kf := fun c39 => ?_)
      · refine v_aload_n (pc := 109) X (hd := dX7_shareOf_109) (kk := ?_)
        refine v_iload_n (pc := 110) X (hd := dX7_shareOf_110) (kk := ?_)
        refine v_iconst (pc := 111) X (v := nI 0) (hd := dX7_shareOf_111) (kk := ?_)
        refine v_callVp (pc := 112) X (hd := dX7_shareOf_112) (w := wv_X7_51) (hC := c_X7_inBank l E _ _ _ _ _ _ _ _ _ _ _ _ _ (b) 0) (hp := ⟨hM, by omega⟩) (hb := by assumption) (kk := ?_)
        refine v_aload_n (pc := 115) X (hd := dX7_shareOf_115) (kk := ?_)
        refine v_iload_n (pc := 116) X (hd := dX7_shareOf_116) (kk := ?_)
        refine v_iconst (pc := 117) X (v := nI 0) (hd := dX7_shareOf_117) (kk := ?_)
        refine v_callVp (pc := 118) X (hd := dX7_shareOf_118) (w := wv_X7_44) (hC := c_X7_inHouse l E _ _ _ _ _ _ _ _ _ _ _ _ _ (hh) 0) (hp := ⟨hM, by omega⟩) (hb := by assumption) (kk := ?_)
        refine v_imul (pc := 121) X (hd := dX7_shareOf_121) (kk := ?_)
        refine v_iload_n (pc := 122) X (hd := dX7_shareOf_122) (kk := ?_)
        refine v_idiv (pc := 123) X (hd := dX7_shareOf_123) (hne := hz1 (by assumption)) (kk := ?_)
        refine v_iload (pc := 124) X (hd := dX7_shareOf_124) (kk := ?_)
        refine v_iload (pc := 126) X (hd := dX7_shareOf_126) (kk := ?_)
        refine v_icmpge (pc := 128) X (tgt := 135) (hd := dX7_shareOf_128) (kt := fun c128 => ?_) (kf := fun c128 => ?_)
        · refine v_iconst (pc := 135) X (v := nI 0) (hd := dX7_shareOf_135) (kk := ?_)
          refine v_iadd (pc := 136) X (hd := dX7_shareOf_136) (kk := ?_)
          exact v_endp (pc := 137) X hr hlk (hd := dX7_shareOf_137) (hf := by unfold fShare; rw [if_pos (by assumption), if_neg (by rw [n_le] at c128; rw [n_lt]; omega)])
        · refine v_iconst (pc := 131) X (v := nI 1) (hd := dX7_shareOf_131) (kk := ?_)
          refine v_goto (pc := 132) X (tgt := 136) (hd := dX7_shareOf_132) (kk := ?_)
          refine v_iadd (pc := 136) X (hd := dX7_shareOf_136) (kk := ?_)
          exact v_endp (pc := 137) X hr hlk (hd := dX7_shareOf_137) (hf := by unfold fShare; rw [if_pos (by assumption), if_pos (n_nle c128)])
      · exact absurd (Int32.le_refl _) c39
  · refine v_iconst (pc := 15) X (v := nI 0) (hd := dX7_shareOf_15) (kk := ?_)
    exact v_endp (pc := 16) X hr hlk (hd := dX7_shareOf_16) (hf := (if_neg c12).symm)
set_option maxRecDepth 100000 in
set_option maxHeartbeats 4000000 in
theorem c_X7_mayCut (l : Launch) (E : pE) (m : Nat) (w pa he te re : Nat → Int32) (ps rn ty at_ st ki co : Int32) (hh b nh : Nat) : pC l E yX7_mayCut cX7_mayCut 4 (some .int) { frames := 4, cells := 0, slots := 0, locals := 93 } 0 0 [.ref m, .int (nI hh), .int (nI b)] (fun h _ => MD m w pa he te re ps rn ty at_ st ki co h ∧ hh < 6 ∧ b < 4 ∧ nh ≤ 6 ∧ w 1 = nI nh ∧ (hR w hh b → ¬ fSp w b nh = 0) ∧ (∀ k, k < nh → hR w k b → ¬ fSp w b nh = 0)) (pFp ((fMay w nh hh b))) := by
  refine pC_of (by decide) (by simp [Value.category]) (Nat.le_of_ble_eq_true rfl) ?_
  intro h z hp p__ e__ s__ m__ args__ below__ meth__ c__ X hr hlk hname
  obtain ⟨hM, hE⟩ := hp
  have hM0 := hM
  obtain ⟨M0, M1, M2, M3, M4, M5⟩ := hM0
  refine v_aload_n (pc := 0) X (hd := dX7_mayCut_0) (kk := ?_)
  refine v_iload_n (pc := 1) X (hd := dX7_mayCut_1) (kk := ?_)
  refine v_iload_n (pc := 2) X (hd := dX7_mayCut_2) (kk := ?_)
  refine v_callVp (pc := 3) X (hd := dX7_mayCut_3) (w := wv_X7_65) (hC := c_X7_shareOf l E _ _ _ _ _ _ _ _ _ _ _ _ _ hh b nh) (hp := ⟨hM, hE⟩) (hb := by assumption) (kk := ?_)
  refine v_aload_n (pc := 6) X (hd := dX7_mayCut_6) (kk := ?_)
  refine g_X7_7 (pc := 7) X (hd := dX7_mayCut_7) (hh := by assumption) (kk := ?_)
  refine v_bipush (pc := 10) X (v := nI 52) (hd := dX7_mayCut_10) (kk := ?_)
  refine v_iconst (pc := 12) X (v := nI 4) (hd := dX7_mayCut_12) (kk := ?_)
  refine v_iload_n (pc := 13) X (hd := dX7_mayCut_13) (kk := ?_)
  refine v_imul (pc := 14) X (hd := dX7_mayCut_14) (kk := ?_)
  refine v_iadd (pc := 15) X (hd := dX7_mayCut_15) (kk := ?_)
  refine v_iload_n (pc := 16) X (hd := dX7_mayCut_16) (kk := ?_)
  refine v_iadd (pc := 17) X (hd := dX7_mayCut_17) (kk := ?_)
  refine v_ialdN (pc := 18) X (j := (52 + 4 * hh + b)) (hd := dX7_mayCut_18) (hh := by assumption) (hi := by rw [pk_mul, nI_add, nI_add]) (hj := by have := hE.1; have := hE.2.1; omega) (kk := ?_)
  refine v_isub (pc := 19) X (hd := dX7_mayCut_19) (kk := ?_)
  refine v_istore_n (pc := 20) X (hd := dX7_mayCut_20) (kk := ?_)
  refine v_iload_n (pc := 21) X (hd := dX7_mayCut_21) (kk := ?_)
  refine v_ifge (pc := 22) X (tgt := 29) (hd := dX7_mayCut_22) (kt := fun c22 => ?_) (kf := fun c22 => ?_)
  · refine v_iload_n (pc := 29) X (hd := dX7_mayCut_29) (kk := ?_)
    exact v_endp (pc := 30) X hr hlk (hd := dX7_mayCut_30) (hf := by unfold fMay; rw [if_neg (by rw [n_le] at c22; rw [n_lt]; omega)])
  · refine v_iconst (pc := 25) X (v := nI 0) (hd := dX7_mayCut_25) (kk := ?_)
    refine v_goto (pc := 26) X (tgt := 30) (hd := dX7_mayCut_26) (kk := ?_)
    exact v_endp (pc := 30) X hr hlk (hd := dX7_mayCut_30) (hf := by unfold fMay; rw [if_pos (n_nle c22)])
set_option maxRecDepth 100000 in
set_option maxHeartbeats 4000000 in
theorem c_X7_isDry (l : Launch) (E : pE) (m : Nat) (w pa he te re : Nat → Int32) (ps rn ty at_ st ki co : Int32) (k9 : Nat) : pC l E yX7_isDry cX7_isDry 2 (some .boolean) { frames := 1, cells := 0, slots := 0, locals := 22 } 0 0 [.ref m, .int (nI k9)] (fun h _ => MD m w pa he te re ps rn ty at_ st ki co h ∧ 76 + 5 * k9 + 3 < 410) (pFp ((bI (w (76 + 5 * k9 + 3) ≤ nI 30000)))) := by
  refine pC_of (by decide) (by simp [Value.category]) (Nat.le_of_ble_eq_true rfl) ?_
  intro h z hp p__ e__ s__ m__ args__ below__ meth__ c__ X hr hlk hname
  obtain ⟨hM, hE⟩ := hp
  have hM0 := hM
  obtain ⟨M0, M1, M2, M3, M4, M5⟩ := hM0
  refine v_aload_n (pc := 0) X (hd := dX7_isDry_0) (kk := ?_)
  refine v_iload_n (pc := 1) X (hd := dX7_isDry_1) (kk := ?_)
  refine v_iconst (pc := 2) X (v := nI 3) (hd := dX7_isDry_2) (kk := ?_)
  refine v_callVp (pc := 3) X (hd := dX7_isDry_3) (w := wv_X7_75) (hC := c_X7_inStack l E _ _ _ _ _ _ _ _ _ _ _ _ _ (k9) 3) (hp := ⟨hM, by omega⟩) (hb := by assumption) (kk := ?_)
  refine v_sipush (pc := 6) X (v := nI 30000) (hd := dX7_isDry_6) (kk := ?_)
  refine v_icmpgt (pc := 9) X (tgt := 16) (hd := dX7_isDry_9) (kt := fun c9 => ?_) (kf := fun c9 => ?_)
  · refine v_iconst (pc := 16) X (v := nI 0) (hd := dX7_isDry_16) (kk := ?_)
    exact v_endb (pc := 17) X hr hlk (hd := dX7_isDry_17) (hf := bI_0 (fun q => by rw [n_le] at q; rw [n_lt] at c9; omega))
  · refine v_iconst (pc := 12) X (v := nI 1) (hd := dX7_isDry_12) (kk := ?_)
    refine v_goto (pc := 13) X (tgt := 17) (hd := dX7_isDry_13) (kk := ?_)
    exact v_endb (pc := 17) X hr hlk (hd := dX7_isDry_17) (hf := bI_1 (n_nlt c9))
set_option maxRecDepth 100000 in
set_option maxHeartbeats 4000000 in
theorem c_X7_weight (l : Launch) (E : pE) (m : Nat) (w pa he te re : Nat → Int32) (ps rn ty at_ st ki co : Int32) (k9 : Nat) : pC l E yX7_weight cX7_weight 2 (some .int) { frames := 1, cells := 0, slots := 0, locals := 22 } 0 0 [.ref m, .int (nI k9)] (fun h _ => MD m w pa he te re ps rn ty at_ st ki co h ∧ 76 + 5 * k9 + 3 < 410) (pFp ((fW (w (76 + 5 * k9 + 3))))) := by
  refine pC_of (by decide) (by simp [Value.category]) (Nat.le_of_ble_eq_true rfl) ?_
  intro h z hp p__ e__ s__ m__ args__ below__ meth__ c__ X hr hlk hname
  obtain ⟨hM, hE⟩ := hp
  have hM0 := hM
  obtain ⟨M0, M1, M2, M3, M4, M5⟩ := hM0
  refine v_sipush (pc := 0) X (v := nI 1000) (hd := dX7_weight_0) (kk := ?_)
  refine v_aload_n (pc := 3) X (hd := dX7_weight_3) (kk := ?_)
  refine v_iload_n (pc := 4) X (hd := dX7_weight_4) (kk := ?_)
  refine v_iconst (pc := 5) X (v := nI 3) (hd := dX7_weight_5) (kk := ?_)
  refine v_callVp (pc := 6) X (hd := dX7_weight_6) (w := wv_X7_75) (hC := c_X7_inStack l E _ _ _ _ _ _ _ _ _ _ _ _ _ (k9) 3) (hp := ⟨hM, by omega⟩) (hb := by assumption) (kk := ?_)
  refine v_bipush (pc := 9) X (v := nI 100) (hd := dX7_weight_9) (kk := ?_)
  refine v_idiv (pc := 11) X (hd := dX7_weight_11) (hne := by decide +kernel) (kk := ?_)
  refine v_iadd (pc := 12) X (hd := dX7_weight_12) (kk := ?_)
  exact v_endp (pc := 13) X hr hlk (hd := dX7_weight_13) (hf := rfl)
set_option maxRecDepth 100000 in
set_option maxHeartbeats 4000000 in
theorem c_X7_load (l : Launch) (E : pE) (m : Nat) (w pa he te re : Nat → Int32) (ps rn ty at_ st ki co : Int32) (k9 : Nat) (t : Int32) : pC l E yX7_load cX7_load 3 (some .int) { frames := 2, cells := 0, slots := 0, locals := 43 } 0 0 [.ref m, .int (nI k9), .int t] (fun h _ => MD m w pa he te re ps rn ty at_ st ki co h ∧ 76 + 5 * k9 + 3 < 410) (pFp ((fLoad (w (76 + 5 * k9 + 3)) t))) := by
  refine pC_of (by decide) (by simp [Value.category]) (Nat.le_of_ble_eq_true rfl) ?_
  intro h z hp p__ e__ s__ m__ args__ below__ meth__ c__ X hr hlk hname
  obtain ⟨hM, hE⟩ := hp
  have hM0 := hM
  obtain ⟨M0, M1, M2, M3, M4, M5⟩ := hM0
  refine v_iload_n (pc := 0) X (hd := dX7_load_0) (kk := ?_)
  refine v_aload_n (pc := 1) X (hd := dX7_load_1) (kk := ?_)
  refine v_iload_n (pc := 2) X (hd := dX7_load_2) (kk := ?_)
  refine v_callVp (pc := 3) X (hd := dX7_load_3) (w := wv_X7_82) (hC := c_X7_weight l E _ _ _ _ _ _ _ _ _ _ _ _ _ k9) (hp := ⟨hM, hE⟩) (hb := by assumption) (kk := ?_)
  refine v_imul (pc := 6) X (hd := dX7_load_6) (kk := ?_)
  refine v_sipush (pc := 7) X (v := nI 999) (hd := dX7_load_7) (kk := ?_)
  refine v_iadd (pc := 10) X (hd := dX7_load_10) (kk := ?_)
  refine v_sipush (pc := 11) X (v := nI 1000) (hd := dX7_load_11) (kk := ?_)
  refine v_idiv (pc := 14) X (hd := dX7_load_14) (hne := by decide +kernel) (kk := ?_)
  exact v_endp (pc := 15) X hr hlk (hd := dX7_load_15) (hf := rfl)
set_option maxRecDepth 100000 in
set_option maxHeartbeats 4000000 in
theorem c_X7_bears (l : Launch) (E : pE) (m : Nat) (w pa he te re : Nat → Int32) (ps rn ty at_ st ki co : Int32) (b : Nat) : pC l E yX7_bears cX7_bears 3 (some .int) { frames := 1, cells := 0, slots := 0, locals := 22 } 0 0 [.ref m, .int (nI b)] (fun h _ => MD m w pa he te re ps rn ty at_ st ki co h ∧ b < 4) (pFp ((fBear (w (24 + 7 * b + 1)) (w 4) (w (24 + 7 * b + 2))))) := by
  refine pC_of (by decide) (by simp [Value.category]) (Nat.le_of_ble_eq_true rfl) ?_
  intro h z hp p__ e__ s__ m__ args__ below__ meth__ c__ X hr hlk hname
  obtain ⟨hM, hE⟩ := hp
  have hM0 := hM
  obtain ⟨M0, M1, M2, M3, M4, M5⟩ := hM0
  refine v_aload_n (pc := 0) X (hd := dX7_bears_0) (kk := ?_)
  refine v_iload_n (pc := 1) X (hd := dX7_bears_1) (kk := ?_)
  refine v_iconst (pc := 2) X (v := nI 1) (hd := dX7_bears_2) (kk := ?_)
  refine v_callVp (pc := 3) X (hd := dX7_bears_3) (w := wv_X7_51) (hC := c_X7_inBank l E _ _ _ _ _ _ _ _ _ _ _ _ _ (b) 1) (hp := ⟨hM, by omega⟩) (hb := by assumption) (kk := ?_)
  refine v_bipush (pc := 6) X (v := nI 40) (hd := dX7_bears_6) (kk := ?_)
  refine v_aload_n (pc := 8) X (hd := dX7_bears_8) (kk := ?_)
  refine g_X7_7 (pc := 9) X (hd := dX7_bears_9) (hh := by assumption) (kk := ?_)
  refine v_iconst (pc := 12) X (v := nI 4) (hd := dX7_bears_12) (kk := ?_)
  refine v_ialdN (pc := 13) X (j := 4) (hd := dX7_bears_13) (hh := by assumption) (hi := rfl) (hj := by omega) (kk := ?_)
  refine v_imul (pc := 14) X (hd := dX7_bears_14) (kk := ?_)
  refine v_isub (pc := 15) X (hd := dX7_bears_15) (kk := ?_)
  refine v_aload_n (pc := 16) X (hd := dX7_bears_16) (kk := ?_)
  refine v_iload_n (pc := 17) X (hd := dX7_bears_17) (kk := ?_)
  refine v_iconst (pc := 18) X (v := nI 2) (hd := dX7_bears_18) (kk := ?_)
  refine v_callVp (pc := 19) X (hd := dX7_bears_19) (w := wv_X7_51) (hC := c_X7_inBank l E _ _ _ _ _ _ _ _ _ _ _ _ _ (b) 2) (hp := ⟨hM, by omega⟩) (hb := by assumption) (kk := ?_)
  refine v_isub (pc := 22) X (hd := dX7_bears_22) (kk := ?_)
  refine v_istore_n (pc := 23) X (hd := dX7_bears_23) (kk := ?_)
  refine v_iload_n (pc := 24) X (hd := dX7_bears_24) (kk := ?_)
  refine v_ifge (pc := 25) X (tgt := 32) (hd := dX7_bears_25) (kt := fun c25 => ?_) (kf := fun c25 => ?_)
  · refine v_iload_n (pc := 32) X (hd := dX7_bears_32) (kk := ?_)
    exact v_endp (pc := 33) X hr hlk (hd := dX7_bears_33) (hf := by unfold fBear; rw [if_neg (by rw [n_le] at c25; rw [n_lt]; omega)])
  · refine v_iconst (pc := 28) X (v := nI 0) (hd := dX7_bears_28) (kk := ?_)
    refine v_goto (pc := 29) X (tgt := 33) (hd := dX7_bears_29) (kk := ?_)
    exact v_endp (pc := 33) X hr hlk (hd := dX7_bears_33) (hf := by unfold fBear; rw [if_pos (n_nle c25)])
set_option maxRecDepth 100000 in
set_option maxHeartbeats 4000000 in
theorem c_X7_dried (l : Launch) (E : pE) (we tn wi ra : Int32) : pC l E yX7_dried cX7_dried 5 (some .int) { frames := 0, cells := 0, slots := 0, locals := 0 } 0 0 [.int we, .int tn, .int wi, .int ra] (fun h _ => True) (pFp ((fDried we tn wi ra))) := by
  refine pC_of (by decide) (by simp [Value.category]) (Nat.le_of_ble_eq_true rfl) ?_
  intro h z hp p__ e__ s__ m__ args__ below__ meth__ c__ X hr hlk hname
  refine v_iload_n (pc := 0) X (hd := dX7_dried_0) (kk := ?_)
  refine v_bipush (pc := 1) X (v := nI 64) (hd := dX7_dried_1) (kk := ?_)
  refine v_iload_n (pc := 3) X (hd := dX7_dried_3) (kk := ?_)
  refine v_iload_n (pc := 4) X (hd := dX7_dried_4) (kk := ?_)
  refine v_iconst (pc := 5) X (v := nI 1) (hd := dX7_dried_5) (kk := ?_)
  refine v_iadd (pc := 6) X (hd := dX7_dried_6) (kk := ?_)
  refine v_imul (pc := 7) X (hd := dX7_dried_7) (kk := ?_)
  refine v_isub (pc := 8) X (hd := dX7_dried_8) (kk := ?_)
  refine v_imul (pc := 9) X (hd := dX7_dried_9) (kk := ?_)
  refine v_bipush (pc := 10) X (v := nI 64) (hd := dX7_dried_10) (kk := ?_)
  refine v_idiv (pc := 12) X (hd := dX7_dried_12) (hne := by decide +kernel) (kk := ?_)
  refine v_sipush (pc := 13) X (v := nI 1500) (hd := dX7_dried_13) (kk := ?_)
  refine v_iload_n (pc := 16) X (hd := dX7_dried_16) (kk := ?_)
  refine v_imul (pc := 17) X (hd := dX7_dried_17) (kk := ?_)
  refine v_iadd (pc := 18) X (hd := dX7_dried_18) (kk := ?_)
  refine v_istore (pc := 19) X (hd := dX7_dried_19) (kk := ?_)
  refine v_iload (pc := 21) X (hd := dX7_dried_21) (kk := ?_)
  refine v_ldc (v := nI 100000) (pc := 23) X (hw := wq_X7_71) (hd := dX7_dried_23) (kk := ?_)
  refine v_icmple (pc := 25) X (tgt := 33) (hd := dX7_dried_25) (kt := fun c25 => ?_) (kf := fun c25 => ?_)
  · refine v_iload (pc := 33) X (hd := dX7_dried_33) (kk := ?_)
    exact v_endp (pc := 35) X hr hlk (hd := dX7_dried_35) (hf := by unfold fDried; rw [if_neg (by rw [n_le] at c25; rw [n_lt]; exact Int.not_lt.mpr c25)])
  · refine v_ldc (v := nI 100000) (pc := 28) X (hw := wq_X7_71) (hd := dX7_dried_28) (kk := ?_)
    refine v_goto (pc := 30) X (tgt := 35) (hd := dX7_dried_30) (kk := ?_)
    exact v_endp (pc := 35) X hr hlk (hd := dX7_dried_35) (hf := by unfold fDried; rw [if_pos (n_nle c25)])
set_option maxRecDepth 100000 in
set_option maxHeartbeats 4000000 in
theorem c_X7_dryStacks (l : Launch) (E : pE) (m : Nat) (w pa he te re : Nat → Int32) (ps rn ty at_ st ki co : Int32) (ns : Nat) : pC l E yX7_dryStacks cX7_dryStacks 3 (some .int) { frames := 2, cells := 0, slots := 0, locals := 43 } 0 0 [.ref m] (fun h _ => MD m w pa he te re ps rn ty at_ st ki co h ∧ ns ≤ 12 ∧ w 3 = nI ns) (pFp ((fDryN w ns))) := by
  refine pC_of (by decide) (by simp [Value.category]) (Nat.le_of_ble_eq_true rfl) ?_
  intro h z hp p__ e__ s__ m__ args__ below__ meth__ c__ X hr hlk hname
  obtain ⟨hM, hE⟩ := hp
  have hM0 := hM
  obtain ⟨M0, M1, M2, M3, M4, M5⟩ := hM0
  obtain ⟨hn6, hn⟩ := hE
  refine v_iconst (pc := 0) X (v := nI 0) (hd := dX7_dryStacks_0) (kk := ?_)
  refine v_istore_n (pc := 1) X (hd := dX7_dryStacks_1) (kk := ?_)
  refine v_iconst (pc := 2) X (v := nI 0) (hd := dX7_dryStacks_2) (kk := ?_)
  refine v_istore_n (pc := 3) X (hd := dX7_dryStacks_3) (kk := ?_)
  refine v_forp (pc := 4) (M := ns) (Lf := fun i => [some (.ref m), some (.int (fDryN w i)), some (.int (nI i))]) (hL := by rfl) (step := ?_) (out := ?_)
  · intro i hi kk
    refine v_iload_n (pc := 4) X (hd := dX7_dryStacks_4) (kk := ?_)
    refine v_aload_n (pc := 5) X (hd := dX7_dryStacks_5) (kk := ?_)
    refine g_X7_7 (pc := 6) X (hd := dX7_dryStacks_6) (hh := by assumption) (kk := ?_)
    refine v_iconst (pc := 9) X (v := nI 3) (hd := dX7_dryStacks_9) (kk := ?_)
    refine v_ialdN (pc := 10) X (j := 3) (hd := dX7_dryStacks_10) (hh := by assumption) (hi := rfl) (hj := by omega) (kk := ?_)
    rw [hn]
    refine v_icmpge (pc := 11) X (tgt := 36) (hd := dX7_dryStacks_11) (kt := fun c11 => ?_) (kf := fun c11 => ?_)
    · exact absurd c11 (nI_ge hi (by omega))
    · refine v_iload_n (pc := 14) X (hd := dX7_dryStacks_14) (kk := ?_)
      refine v_aload_n (pc := 15) X (hd := dX7_dryStacks_15) (kk := ?_)
      refine v_iload_n (pc := 16) X (hd := dX7_dryStacks_16) (kk := ?_)
      refine v_callVp (pc := 17) X (hd := dX7_dryStacks_17) (w := wv_X7_91) (hC := c_X7_isDry l E _ _ _ _ _ _ _ _ _ _ _ _ _ i) (hp := ⟨hM, by omega⟩) (hb := by assumption) (kk := ?_)
      refine v_ifeqB (pc := 20) X (tgt := 27) (hd := dX7_dryStacks_20) (kt := fun c20 => ?_) (kf := fun c20 => ?_)
      · rw [show fDryN w (i + 1) = fDryN w i + nI 0 from by show fDryN w i + _ = _; rw [if_neg c20]] at kk
        refine v_iconst (pc := 27) X (v := nI 0) (hd := dX7_dryStacks_27) (kk := ?_)
        refine v_iadd (pc := 28) X (hd := dX7_dryStacks_28) (kk := ?_)
        refine v_istore_n (pc := 29) X (hd := dX7_dryStacks_29) (kk := ?_)
        refine v_iincN (pc := 30) X (hd := dX7_dryStacks_30) (kk := ?_)
        refine v_goto (pc := 33) X (tgt := 4) (hd := dX7_dryStacks_33) (kk := ?_)
        exact kk
      · rw [show fDryN w (i + 1) = fDryN w i + nI 1 from by show fDryN w i + _ = _; rw [if_pos c20]] at kk
        refine v_iconst (pc := 23) X (v := nI 1) (hd := dX7_dryStacks_23) (kk := ?_)
        refine v_goto (pc := 24) X (tgt := 28) (hd := dX7_dryStacks_24) (kk := ?_)
        refine v_iadd (pc := 28) X (hd := dX7_dryStacks_28) (kk := ?_)
        refine v_istore_n (pc := 29) X (hd := dX7_dryStacks_29) (kk := ?_)
        refine v_iincN (pc := 30) X (hd := dX7_dryStacks_30) (kk := ?_)
        refine v_goto (pc := 33) X (tgt := 4) (hd := dX7_dryStacks_33) (kk := ?_)
        exact kk
  · skip
    refine v_iload_n (pc := 4) X (hd := dX7_dryStacks_4) (kk := ?_)
    refine v_aload_n (pc := 5) X (hd := dX7_dryStacks_5) (kk := ?_)
    refine g_X7_7 (pc := 6) X (hd := dX7_dryStacks_6) (hh := by assumption) (kk := ?_)
    refine v_iconst (pc := 9) X (v := nI 3) (hd := dX7_dryStacks_9) (kk := ?_)
    refine v_ialdN (pc := 10) X (j := 3) (hd := dX7_dryStacks_10) (hh := by assumption) (hi := rfl) (hj := by omega) (kk := ?_)
    rw [hn]
    refine v_icmpge (pc := 11) X (tgt := 36) (hd := dX7_dryStacks_11) (kt := fun c11 => ?_) (kf := fun c11 => ?_)
    · refine v_iload_n (pc := 36) X (hd := dX7_dryStacks_36) (kk := ?_)
      exact v_endp (pc := 37) X hr hlk (hd := dX7_dryStacks_37) (hf := rfl)
    · exact absurd (Int32.le_refl _) c11
set_option maxRecDepth 100000 in
set_option maxHeartbeats 4000000 in
theorem c_X7_banksOf (l : Launch) (E : pE) (m : Nat) (w pa he te re : Nat → Int32) (ps rn ty at_ st ki co : Int32) (hh nb : Nat) : pC l E yX7_banksOf cX7_banksOf 4 (some .int) { frames := 2, cells := 0, slots := 0, locals := 44 } 0 0 [.ref m, .int (nI hh)] (fun h _ => MD m w pa he te re ps rn ty at_ st ki co h ∧ nb ≤ 4 ∧ w 2 = nI nb) (pFp ((fBanksOf w hh nb))) := by
  refine pC_of (by decide) (by simp [Value.category]) (Nat.le_of_ble_eq_true rfl) ?_
  intro h z hp p__ e__ s__ m__ args__ below__ meth__ c__ X hr hlk hname
  obtain ⟨hM, hE⟩ := hp
  have hM0 := hM
  obtain ⟨M0, M1, M2, M3, M4, M5⟩ := hM0
  obtain ⟨hn6, hn⟩ := hE
  refine v_iconst (pc := 0) X (v := nI 0) (hd := dX7_banksOf_0) (kk := ?_)
  refine v_istore_n (pc := 1) X (hd := dX7_banksOf_1) (kk := ?_)
  refine v_iconst (pc := 2) X (v := nI 0) (hd := dX7_banksOf_2) (kk := ?_)
  refine v_istore_n (pc := 3) X (hd := dX7_banksOf_3) (kk := ?_)
  refine v_forp (pc := 4) (M := nb) (Lf := fun i => [some (.ref m), some (.int (nI hh)), some (.int (fBanksOf w hh i)), some (.int (nI i))]) (hL := by rfl) (step := ?_) (out := ?_)
  · intro i hi kk
    refine v_iload_n (pc := 4) X (hd := dX7_banksOf_4) (kk := ?_)
    refine v_aload_n (pc := 5) X (hd := dX7_banksOf_5) (kk := ?_)
    refine g_X7_7 (pc := 6) X (hd := dX7_banksOf_6) (hh := by assumption) (kk := ?_)
    refine v_iconst (pc := 9) X (v := nI 2) (hd := dX7_banksOf_9) (kk := ?_)
    refine v_ialdN (pc := 10) X (j := 2) (hd := dX7_banksOf_10) (hh := by assumption) (hi := rfl) (hj := by omega) (kk := ?_)
    rw [hn]
    refine v_icmpge (pc := 11) X (tgt := 37) (hd := dX7_banksOf_11) (kt := fun c11 => ?_) (kf := fun c11 => ?_)
    · exact absurd c11 (nI_ge hi (by omega))
    · refine v_iload_n (pc := 14) X (hd := dX7_banksOf_14) (kk := ?_)
      refine v_aload_n (pc := 15) X (hd := dX7_banksOf_15) (kk := ?_)
      refine v_iload_n (pc := 16) X (hd := dX7_banksOf_16) (kk := ?_)
      refine v_iload_n (pc := 17) X (hd := dX7_banksOf_17) (kk := ?_)
      refine v_callVp (pc := 18) X (hd := dX7_banksOf_18) (w := wv_X7_58) (hC := c_X7_hasRight l E _ _ _ _ _ _ _ _ _ _ _ _ _ (hh) (i)) (hp := ⟨hM, by omega⟩) (hb := by assumption) (kk := ?_)
      refine v_ifeqB (pc := 21) X (tgt := 28) (hd := dX7_banksOf_21) (kt := fun c21 => ?_) (kf := fun c21 => ?_)
      · rw [show fBanksOf w hh (i + 1) = fBanksOf w hh i + nI 0 from by show fBanksOf w hh i + _ = _; rw [if_neg c21]] at kk
        refine v_iconst (pc := 28) X (v := nI 0) (hd := dX7_banksOf_28) (kk := ?_)
        refine v_iadd (pc := 29) X (hd := dX7_banksOf_29) (kk := ?_)
        refine v_istore_n (pc := 30) X (hd := dX7_banksOf_30) (kk := ?_)
        refine v_iincN (pc := 31) X (hd := dX7_banksOf_31) (kk := ?_)
        refine v_goto (pc := 34) X (tgt := 4) (hd := dX7_banksOf_34) (kk := ?_)
        exact kk
      · rw [show fBanksOf w hh (i + 1) = fBanksOf w hh i + nI 1 from by show fBanksOf w hh i + _ = _; rw [if_pos c21]] at kk
        refine v_iconst (pc := 24) X (v := nI 1) (hd := dX7_banksOf_24) (kk := ?_)
        refine v_goto (pc := 25) X (tgt := 29) (hd := dX7_banksOf_25) (kk := ?_)
        refine v_iadd (pc := 29) X (hd := dX7_banksOf_29) (kk := ?_)
        refine v_istore_n (pc := 30) X (hd := dX7_banksOf_30) (kk := ?_)
        refine v_iincN (pc := 31) X (hd := dX7_banksOf_31) (kk := ?_)
        refine v_goto (pc := 34) X (tgt := 4) (hd := dX7_banksOf_34) (kk := ?_)
        exact kk
  · skip
    refine v_iload_n (pc := 4) X (hd := dX7_banksOf_4) (kk := ?_)
    refine v_aload_n (pc := 5) X (hd := dX7_banksOf_5) (kk := ?_)
    refine g_X7_7 (pc := 6) X (hd := dX7_banksOf_6) (hh := by assumption) (kk := ?_)
    refine v_iconst (pc := 9) X (v := nI 2) (hd := dX7_banksOf_9) (kk := ?_)
    refine v_ialdN (pc := 10) X (j := 2) (hd := dX7_banksOf_10) (hh := by assumption) (hi := rfl) (hj := by omega) (kk := ?_)
    rw [hn]
    refine v_icmpge (pc := 11) X (tgt := 37) (hd := dX7_banksOf_11) (kt := fun c11 => ?_) (kf := fun c11 => ?_)
    · refine v_iload_n (pc := 37) X (hd := dX7_banksOf_37) (kk := ?_)
      exact v_endp (pc := 38) X hr hlk (hd := dX7_banksOf_38) (hf := rfl)
    · exact absurd (Int32.le_refl _) c11
set_option maxRecDepth 100000 in
set_option maxHeartbeats 4000000 in
theorem c_X7_turfsAt (l : Launch) (E : pE) (m : Nat) (w pa he te re : Nat → Int32) (ps rn ty at_ st ki co : Int32) (b : Int32) (ns : Nat) : pC l E yX7_turfsAt cX7_turfsAt 4 (some .int) { frames := 1, cells := 0, slots := 0, locals := 22 } 0 0 [.ref m, .int b] (fun h _ => MD m w pa he te re ps rn ty at_ st ki co h ∧ ns ≤ 12 ∧ w 3 = nI ns) (pFp ((fTurfsAt w b ns))) := by
  refine pC_of (by decide) (by simp [Value.category]) (Nat.le_of_ble_eq_true rfl) ?_
  intro h z hp p__ e__ s__ m__ args__ below__ meth__ c__ X hr hlk hname
  obtain ⟨hM, hE⟩ := hp
  have hM0 := hM
  obtain ⟨M0, M1, M2, M3, M4, M5⟩ := hM0
  obtain ⟨hn6, hn⟩ := hE
  refine v_iconst (pc := 0) X (v := nI 0) (hd := dX7_turfsAt_0) (kk := ?_)
  refine v_istore_n (pc := 1) X (hd := dX7_turfsAt_1) (kk := ?_)
  refine v_iconst (pc := 2) X (v := nI 0) (hd := dX7_turfsAt_2) (kk := ?_)
  refine v_istore_n (pc := 3) X (hd := dX7_turfsAt_3) (kk := ?_)
  refine v_forp (pc := 4) (M := ns) (Lf := fun i => [some (.ref m), some (.int b), some (.int (fTurfsAt w b i)), some (.int (nI i))]) (hL := by rfl) (step := ?_) (out := ?_)
  · intro i hi kk
    refine v_iload_n (pc := 4) X (hd := dX7_turfsAt_4) (kk := ?_)
    refine v_aload_n (pc := 5) X (hd := dX7_turfsAt_5) (kk := ?_)
    refine g_X7_7 (pc := 6) X (hd := dX7_turfsAt_6) (hh := by assumption) (kk := ?_)
    refine v_iconst (pc := 9) X (v := nI 3) (hd := dX7_turfsAt_9) (kk := ?_)
    refine v_ialdN (pc := 10) X (j := 3) (hd := dX7_turfsAt_10) (hh := by assumption) (hi := rfl) (hj := by omega) (kk := ?_)
    rw [hn]
    refine v_icmpge (pc := 11) X (tgt := 43) (hd := dX7_turfsAt_11) (kt := fun c11 => ?_) (kf := fun c11 => ?_)
    · exact absurd c11 (nI_ge hi (by omega))
    · refine v_iload_n (pc := 14) X (hd := dX7_turfsAt_14) (kk := ?_)
      refine v_aload_n (pc := 15) X (hd := dX7_turfsAt_15) (kk := ?_)
      refine v_iload_n (pc := 16) X (hd := dX7_turfsAt_16) (kk := ?_)
      refine v_iconst (pc := 17) X (v := nI 1) (hd := dX7_turfsAt_17) (kk := ?_)
      refine v_callVp (pc := 18) X (hd := dX7_turfsAt_18) (w := wv_X7_75) (hC := c_X7_inStack l E _ _ _ _ _ _ _ _ _ _ _ _ _ (i) 1) (hp := ⟨hM, by omega⟩) (hb := by assumption) (kk := ?_)
      refine v_iload_n (pc := 21) X (hd := dX7_turfsAt_21) (kk := ?_)
      refine v_icmpne (pc := 22) X (tgt := 34) (hd := dX7_turfsAt_22) (kt := fun c22 => ?_) (kf := fun c22 => ?_)
      · rw [show fTurfsAt w b (i + 1) = fTurfsAt w b i + nI 0 from by show fTurfsAt w b i + _ = _; rw [if_neg c22]] at kk
        refine v_iconst (pc := 34) X (v := nI 0) (hd := dX7_turfsAt_34) (kk := ?_)
        refine v_iadd (pc := 35) X (hd := dX7_turfsAt_35) (kk := ?_)
        refine v_istore_n (pc := 36) X (hd := dX7_turfsAt_36) (kk := ?_)
        refine v_iincN (pc := 37) X (hd := dX7_turfsAt_37) (kk := ?_)
        refine v_goto (pc := 40) X (tgt := 4) (hd := dX7_turfsAt_40) (kk := ?_)
        exact kk
      · rw [show fTurfsAt w b (i + 1) = fTurfsAt w b i + w (76 + 5 * i + 2) from by show fTurfsAt w b i + _ = _; rw [if_pos (Classical.not_not.mp c22)]] at kk
        refine v_aload_n (pc := 25) X (hd := dX7_turfsAt_25) (kk := ?_)
        refine v_iload_n (pc := 26) X (hd := dX7_turfsAt_26) (kk := ?_)
        refine v_iconst (pc := 27) X (v := nI 2) (hd := dX7_turfsAt_27) (kk := ?_)
        refine v_callVp (pc := 28) X (hd := dX7_turfsAt_28) (w := wv_X7_75) (hC := c_X7_inStack l E _ _ _ _ _ _ _ _ _ _ _ _ _ (i) 2) (hp := ⟨hM, by omega⟩) (hb := by assumption) (kk := ?_)
        refine v_goto (pc := 31) X (tgt := 35) (hd := dX7_turfsAt_31) (kk := ?_)
        refine v_iadd (pc := 35) X (hd := dX7_turfsAt_35) (kk := ?_)
        refine v_istore_n (pc := 36) X (hd := dX7_turfsAt_36) (kk := ?_)
        refine v_iincN (pc := 37) X (hd := dX7_turfsAt_37) (kk := ?_)
        refine v_goto (pc := 40) X (tgt := 4) (hd := dX7_turfsAt_40) (kk := ?_)
        exact kk
  · skip
    refine v_iload_n (pc := 4) X (hd := dX7_turfsAt_4) (kk := ?_)
    refine v_aload_n (pc := 5) X (hd := dX7_turfsAt_5) (kk := ?_)
    refine g_X7_7 (pc := 6) X (hd := dX7_turfsAt_6) (hh := by assumption) (kk := ?_)
    refine v_iconst (pc := 9) X (v := nI 3) (hd := dX7_turfsAt_9) (kk := ?_)
    refine v_ialdN (pc := 10) X (j := 3) (hd := dX7_turfsAt_10) (hh := by assumption) (hi := rfl) (hj := by omega) (kk := ?_)
    rw [hn]
    refine v_icmpge (pc := 11) X (tgt := 43) (hd := dX7_turfsAt_11) (kt := fun c11 => ?_) (kf := fun c11 => ?_)
    · refine v_iload_n (pc := 43) X (hd := dX7_turfsAt_43) (kk := ?_)
      exact v_endp (pc := 44) X hr hlk (hd := dX7_turfsAt_44) (hf := rfl)
    · exact absurd (Int32.le_refl _) c11
set_option maxRecDepth 100000 in
set_option maxHeartbeats 4000000 in
theorem c_X7_stacksOf (l : Launch) (E : pE) (m : Nat) (w pa he te re : Nat → Int32) (ps rn ty at_ st ki co : Int32) (hh : Int32) (tf : Bool) (ns : Nat) : pC l E yX7_stacksOf cX7_stacksOf 5 (some .int) { frames := 1, cells := 0, slots := 0, locals := 22 } 0 0 [.ref m, .int hh, .int (bI (tf = true))] (fun h _ => MD m w pa he te re ps rn ty at_ st ki co h ∧ ns ≤ 12 ∧ w 3 = nI ns) (pFp ((fStacksOf w hh tf ns))) := by
  refine pC_of (by decide) (by simp [Value.category]) (Nat.le_of_ble_eq_true rfl) ?_
  intro h z hp p__ e__ s__ m__ args__ below__ meth__ c__ X hr hlk hname
  obtain ⟨hM, hE⟩ := hp
  have hM0 := hM
  obtain ⟨M0, M1, M2, M3, M4, M5⟩ := hM0
  obtain ⟨hn6, hn⟩ := hE
  refine v_iconst (pc := 0) X (v := nI 0) (hd := dX7_stacksOf_0) (kk := ?_)
  refine v_istore_n (pc := 1) X (hd := dX7_stacksOf_1) (kk := ?_)
  refine v_iconst (pc := 2) X (v := nI 0) (hd := dX7_stacksOf_2) (kk := ?_)
  refine v_istore (pc := 3) X (hd := dX7_stacksOf_3) (kk := ?_)
  refine v_forp (pc := 5) (M := ns) (Lf := fun i => [some (.ref m), some (.int hh), some (.int (bI (tf = true))), some (.int (fStacksOf w hh tf i)), some (.int (nI i))]) (hL := by rfl) (step := ?_) (out := ?_)
  · intro i hi kk
    refine v_iload (pc := 5) X (hd := dX7_stacksOf_5) (kk := ?_)
    refine v_aload_n (pc := 7) X (hd := dX7_stacksOf_7) (kk := ?_)
    refine g_X7_7 (pc := 8) X (hd := dX7_stacksOf_8) (hh := by assumption) (kk := ?_)
    refine v_iconst (pc := 11) X (v := nI 3) (hd := dX7_stacksOf_11) (kk := ?_)
    refine v_ialdN (pc := 12) X (j := 3) (hd := dX7_stacksOf_12) (hh := by assumption) (hi := rfl) (hj := by omega) (kk := ?_)
    rw [hn]
    refine v_icmpge (pc := 13) X (tgt := 55) (hd := dX7_stacksOf_13) (kt := fun c13 => ?_) (kf := fun c13 => ?_)
    · exact absurd c13 (nI_ge hi (by omega))
    · refine v_iload_n (pc := 16) X (hd := dX7_stacksOf_16) (kk := ?_)
      refine v_aload_n (pc := 17) X (hd := dX7_stacksOf_17) (kk := ?_)
      refine v_iload (pc := 18) X (hd := dX7_stacksOf_18) (kk := ?_)
      refine v_iconst (pc := 20) X (v := nI 0) (hd := dX7_stacksOf_20) (kk := ?_)
      refine v_callVp (pc := 21) X (hd := dX7_stacksOf_21) (w := wv_X7_75) (hC := c_X7_inStack l E _ _ _ _ _ _ _ _ _ _ _ _ _ (i) 0) (hp := ⟨hM, by omega⟩) (hb := by assumption) (kk := ?_)
      refine v_iload_n (pc := 24) X (hd := dX7_stacksOf_24) (kk := ?_)
      refine v_icmpeq (pc := 25) X (tgt := 32) (hd := dX7_stacksOf_25) (kt := fun c25 => ?_) (kf := fun c25 => ?_)
      · refine v_iload_n (pc := 32) X (hd := dX7_stacksOf_32) (kk := ?_)
        refine v_ifeqB (pc := 33) X (tgt := 46) (hd := dX7_stacksOf_33) (kt := fun c33 => ?_) (kf := fun c33 => ?_)
        · rw [show fStacksOf w hh tf (i + 1) = fStacksOf w hh tf i + nI 1 from by show fStacksOf w hh tf i + _ = _; rw [if_pos c25, if_neg c33]] at kk
          refine v_iconst (pc := 46) X (v := nI 1) (hd := dX7_stacksOf_46) (kk := ?_)
          refine v_iadd (pc := 47) X (hd := dX7_stacksOf_47) (kk := ?_)
          refine v_istore_n (pc := 48) X (hd := dX7_stacksOf_48) (kk := ?_)
          refine v_iincN (pc := 49) X (hd := dX7_stacksOf_49) (kk := ?_)
          refine v_goto (pc := 52) X (tgt := 5) (hd := dX7_stacksOf_52) (kk := ?_)
          exact kk
        · rw [show fStacksOf w hh tf (i + 1) = fStacksOf w hh tf i + w (76 + 5 * i + 2) from by show fStacksOf w hh tf i + _ = _; rw [if_pos c25, if_pos c33]] at kk
          refine v_aload_n (pc := 36) X (hd := dX7_stacksOf_36) (kk := ?_)
          refine v_iload (pc := 37) X (hd := dX7_stacksOf_37) (kk := ?_)
          refine v_iconst (pc := 39) X (v := nI 2) (hd := dX7_stacksOf_39) (kk := ?_)
          refine v_callVp (pc := 40) X (hd := dX7_stacksOf_40) (w := wv_X7_75) (hC := c_X7_inStack l E _ _ _ _ _ _ _ _ _ _ _ _ _ (i) 2) (hp := ⟨hM, by omega⟩) (hb := by assumption) (kk := ?_)
          refine v_goto (pc := 43) X (tgt := 47) (hd := dX7_stacksOf_43) (kk := ?_)
          refine v_iadd (pc := 47) X (hd := dX7_stacksOf_47) (kk := ?_)
          refine v_istore_n (pc := 48) X (hd := dX7_stacksOf_48) (kk := ?_)
          refine v_iincN (pc := 49) X (hd := dX7_stacksOf_49) (kk := ?_)
          refine v_goto (pc := 52) X (tgt := 5) (hd := dX7_stacksOf_52) (kk := ?_)
          exact kk
      · rw [show fStacksOf w hh tf (i + 1) = fStacksOf w hh tf i + nI 0 from by show fStacksOf w hh tf i + _ = _; rw [if_neg c25]] at kk
        refine v_iconst (pc := 28) X (v := nI 0) (hd := dX7_stacksOf_28) (kk := ?_)
        refine v_goto (pc := 29) X (tgt := 47) (hd := dX7_stacksOf_29) (kk := ?_)
        refine v_iadd (pc := 47) X (hd := dX7_stacksOf_47) (kk := ?_)
        refine v_istore_n (pc := 48) X (hd := dX7_stacksOf_48) (kk := ?_)
        refine v_iincN (pc := 49) X (hd := dX7_stacksOf_49) (kk := ?_)
        refine v_goto (pc := 52) X (tgt := 5) (hd := dX7_stacksOf_52) (kk := ?_)
        exact kk
  · skip
    refine v_iload (pc := 5) X (hd := dX7_stacksOf_5) (kk := ?_)
    refine v_aload_n (pc := 7) X (hd := dX7_stacksOf_7) (kk := ?_)
    refine g_X7_7 (pc := 8) X (hd := dX7_stacksOf_8) (hh := by assumption) (kk := ?_)
    refine v_iconst (pc := 11) X (v := nI 3) (hd := dX7_stacksOf_11) (kk := ?_)
    refine v_ialdN (pc := 12) X (j := 3) (hd := dX7_stacksOf_12) (hh := by assumption) (hi := rfl) (hj := by omega) (kk := ?_)
    rw [hn]
    refine v_icmpge (pc := 13) X (tgt := 55) (hd := dX7_stacksOf_13) (kt := fun c13 => ?_) (kf := fun c13 => ?_)
    · refine v_iload_n (pc := 55) X (hd := dX7_stacksOf_55) (kk := ?_)
      exact v_endp (pc := 56) X hr hlk (hd := dX7_stacksOf_56) (hf := rfl)
    · exact absurd (Int32.le_refl _) c13
set_option maxRecDepth 100000 in
set_option maxHeartbeats 4000000 in
theorem c_X7_most (l : Launch) (E : pE) (m : Nat) (w pa he te re : Nat → Int32) (ps rn ty at_ st ki co : Int32) (k9 : Nat) (t b : Int32) : pC l E yX7_most cX7_most 5 (some .int) { frames := 2, cells := 0, slots := 0, locals := 43 } 0 0 [.ref m, .int (nI k9), .int t, .int b] (fun h _ => MD m w pa he te re ps rn ty at_ st ki co h ∧ 76 + 5 * k9 + 3 < 410 ∧ ¬ fW (w (76 + 5 * k9 + 3)) = 0) (pFp ((fMost (w (76 + 5 * k9 + 3)) t b))) := by
  refine pC_of (by decide) (by simp [Value.category]) (Nat.le_of_ble_eq_true rfl) ?_
  intro h z hp p__ e__ s__ m__ args__ below__ meth__ c__ X hr hlk hname
  obtain ⟨hM, hE⟩ := hp
  have hM0 := hM
  obtain ⟨M0, M1, M2, M3, M4, M5⟩ := hM0
  refine v_iload_n (pc := 0) X (hd := dX7_most_0) (kk := ?_)
  refine v_sipush (pc := 1) X (v := nI 1000) (hd := dX7_most_1) (kk := ?_)
  refine v_imul (pc := 4) X (hd := dX7_most_4) (kk := ?_)
  refine v_aload_n (pc := 5) X (hd := dX7_most_5) (kk := ?_)
  refine v_iload_n (pc := 6) X (hd := dX7_most_6) (kk := ?_)
  refine v_callVp (pc := 7) X (hd := dX7_most_7) (w := wv_X7_82) (hC := c_X7_weight l E _ _ _ _ _ _ _ _ _ _ _ _ _ k9) (hp := ⟨hM, hE.1⟩) (hb := by assumption) (kk := ?_)
  refine v_idiv (pc := 10) X (hd := dX7_most_10) (hne := hE.2) (kk := ?_)
  refine v_istore (pc := 11) X (hd := dX7_most_11) (kk := ?_)
  refine v_iload (pc := 13) X (hd := dX7_most_13) (kk := ?_)
  refine v_iload_n (pc := 15) X (hd := dX7_most_15) (kk := ?_)
  refine v_icmpge (pc := 16) X (tgt := 24) (hd := dX7_most_16) (kt := fun c16 => ?_) (kf := fun c16 => ?_)
  · refine v_iload_n (pc := 24) X (hd := dX7_most_24) (kk := ?_)
    refine v_istore (pc := 25) X (hd := dX7_most_25) (kk := ?_)
    refine v_iload (pc := 27) X (hd := dX7_most_27) (kk := ?_)
    refine v_sipush (pc := 29) X (v := nI 1000) (hd := dX7_most_29) (kk := ?_)
    refine v_icmpge (pc := 32) X (tgt := 40) (hd := dX7_most_32) (kt := fun c32 => ?_) (kf := fun c32 => ?_)
    · refine v_sipush (pc := 40) X (v := nI 1000) (hd := dX7_most_40) (kk := ?_)
      exact v_endp (pc := 43) X hr hlk (hd := dX7_most_43) (hf := by unfold fMost; rw [fMn_f c16, fMn_f c32])
    · refine v_iload (pc := 35) X (hd := dX7_most_35) (kk := ?_)
      refine v_goto (pc := 37) X (tgt := 43) (hd := dX7_most_37) (kk := ?_)
      exact v_endp (pc := 43) X hr hlk (hd := dX7_most_43) (hf := by unfold fMost; rw [fMn_f c16, fMn_t c32])
  · refine v_iload (pc := 19) X (hd := dX7_most_19) (kk := ?_)
    refine v_goto (pc := 21) X (tgt := 25) (hd := dX7_most_21) (kk := ?_)
    refine v_istore (pc := 25) X (hd := dX7_most_25) (kk := ?_)
    refine v_iload (pc := 27) X (hd := dX7_most_27) (kk := ?_)
    refine v_sipush (pc := 29) X (v := nI 1000) (hd := dX7_most_29) (kk := ?_)
    refine v_icmpge (pc := 32) X (tgt := 40) (hd := dX7_most_32) (kt := fun c32 => ?_) (kf := fun c32 => ?_)
    · refine v_sipush (pc := 40) X (v := nI 1000) (hd := dX7_most_40) (kk := ?_)
      exact v_endp (pc := 43) X hr hlk (hd := dX7_most_43) (hf := by unfold fMost; rw [fMn_t c16, fMn_f c32])
    · refine v_iload (pc := 35) X (hd := dX7_most_35) (kk := ?_)
      refine v_goto (pc := 37) X (tgt := 43) (hd := dX7_most_37) (kk := ?_)
      exact v_endp (pc := 43) X hr hlk (hd := dX7_most_43) (hf := by unfold fMost; rw [fMn_t c16, fMn_t c32])
end
section
/-! what holds of a parish's row of numbers -/
def nx (x : Int32) : Nat := x.toNatClampNeg
theorem nx_nI {j : Nat} (h : j < 2 ^ 31) : nx (nI j) = j := nI_clamp h
def isN (x : Int32) (lo hi : Nat) : Prop := ∃ j : Nat, lo ≤ j ∧ j ≤ hi ∧ x = nI j
def sT (v : Nat → Int32) : Nat → Nat
  | 0 => 0
  | k + 1 => sT v k + nx (v (76 + 5 * k + 2))
def sC (v : Nat → Int32) : Nat → Nat
  | 0 => 0
  | k + 1 => sC v k + nx (v (52 + k))
def isSt (v : Nat → Int32) (nh nb k : Nat) : Prop := ∃ o b t we tn : Nat, o < nh ∧ b < nb ∧ 1 ≤ t ∧ t < 2 ^ 31 ∧ we ≤ 100000 ∧ tn ≤ 3 ∧ v (76 + 5 * k + 0) = nI o ∧ v (76 + 5 * k + 1) = nI b ∧ v (76 + 5 * k + 2) = nI t ∧ v (76 + 5 * k + 3) = nI we ∧ v (76 + 5 * k + 4) = nI tn
def Iv (v : Nat → Int32) (nh nb ns : Nat) : Prop :=
  (nh ≤ 6 ∧ nb ≤ 4 ∧ ns ≤ 12 ∧ v 1 = nI nh ∧ v 2 = nI nb ∧ v 3 = nI ns) ∧ (isN (v 0) 0 999 ∧ isN (v 4) 0 9) ∧
  (∀ j, j < nh → isN (v (6 + 3 * j + 0)) 1 9) ∧ (∀ j, nh ≤ j → j < 6 → v (6 + 3 * j + 0) = nI 0 ∧ v (6 + 3 * j + 1) = nI 0 ∧ v (6 + 3 * j + 2) = nI 0) ∧
  (∀ b, b < nb → isN (v (24 + 7 * b + 0)) 0 5000 ∧ isN (v (24 + 7 * b + 1)) 100 3000 ∧ isN (v (24 + 7 * b + 2)) 0 3000) ∧ (∀ b, b < 4 → isN (v (24 + 7 * b + 3)) 0 63) ∧ (∀ b, nb ≤ b → b < 4 → ∀ q, q < 7 → v (24 + 7 * b + q) = nI 0) ∧
  (∀ j b, j < 6 → b < 4 → isN (v (52 + 4 * j + b)) 0 45001 ∧ (nh ≤ j ∨ nb ≤ b → v (52 + 4 * j + b) = nI 0)) ∧
  (∀ k, k < ns → isSt v nh nb k) ∧ sT v ns ≤ sC v 24
theorem Iv.sp {v : Nat → Int32} {nh nb ns b : Nat} (I : Iv v nh nb ns) : ∀ n, n ≤ nh → ∃ s, s ≤ 9 * n ∧ fSp v b n = nI s ∧ ∀ k, k < n → hR v k b → 1 ≤ s := by
  intro n
  induction n with
  | zero => intro _; exact ⟨0, Nat.le_refl _, rfl, fun k hk => absurd hk (Nat.not_lt_zero _)⟩
  | succ n ih =>
    intro hn
    obtain ⟨s, h1, h2, h3⟩ := ih (by omega)
    obtain ⟨j, g1, g2, g3⟩ := I.2.2.1 n (by omega)
    by_cases hr : hR v n b
    · refine ⟨s + j, by omega, ?_, fun k hk hq => by omega⟩
      show fSp v b n + _ = _
      rw [if_pos hr, h2, g3, nI_add]
    · refine ⟨s, by omega, ?_, fun k hk hq => ?_⟩
      · show fSp v b n + _ = _
        rw [if_neg hr, h2, nI_add]
        rfl
      · by_cases e : k = n
        · exact absurd (e ▸ hq) hr
        · exact h3 k (by omega) hq
theorem Iv.spz {v : Nat → Int32} {nh nb ns b k : Nat} (I : Iv v nh nb ns) (hk : k < nh) (hr : hR v k b) : ¬ fSp v b nh = 0 := by
  obtain ⟨s, h1, h2, h3⟩ := I.sp (b := b) nh (Nat.le_refl _)
  have h4 := h3 k hk hr
  rw [h2]
  exact nI_ne0 h4 (by have := I.1.1; omega)
theorem Iv.w0 {v : Nat → Int32} {nh nb ns k : Nat} (I : Iv v nh nb ns) (hk : k < ns) : ∃ we, we ≤ 100000 ∧ v (76 + 5 * k + 3) = nI we ∧ fW (v (76 + 5 * k + 3)) = nI (1000 + we / 100) := by
  obtain ⟨o, b, t, we, tn, h1, h2, h3, h4, h5, h6, e0, e1, e2, e3, e4⟩ := I.2.2.2.2.2.2.2.2.1 k hk
  refine ⟨we, h5, e3, ?_⟩
  unfold fW
  rw [e3, pk_div (by omega) (by omega) (by omega), nI_add]
theorem Iv.wz {v : Nat → Int32} {nh nb ns k : Nat} (I : Iv v nh nb ns) (hk : k < ns) : ¬ fW (v (76 + 5 * k + 3)) = 0 ∧ 0 < fW (v (76 + 5 * k + 3)) := by
  obtain ⟨we, h1, h2, h3⟩ := I.w0 hk
  rw [h3]
  exact ⟨nI_ne0 (by omega) (by omega), by have := nI_lt (a := 0) (b := 1000 + we / 100) (by omega) (by omega); rw [nI_z] at this; exact this⟩
theorem gH_j {n : Int32} {k : Nat} {x : Int32} (hn : n = nI k) (hk : k < 2 ^ 31) (h : gH n x) : ∃ j, j < k ∧ x = nI j ∧ nx x = j := by
  obtain ⟨j, hj, rfl⟩ := nI_of (x := x) (fun q => by have := h.1; rw [n_lt] at q; rw [n_le] at this; omega)
  have h2 := h.2
  rw [hn] at h2
  have h3 := (nI_ltI hj hk).mp h2
  exact ⟨j, h3, rfl, nx_nI hj⟩
theorem gI_j {lo hi : Nat} {x : Int32} (hh : hi < 2 ^ 31) (hl : lo ≤ hi) (h : gI x (nI lo) (nI hi)) : ∃ j, lo ≤ j ∧ j ≤ hi ∧ x = nI j ∧ nx x = j := by
  obtain ⟨j, hj, rfl⟩ := nI_of (x := x) (fun q => by have h1 := h.1; rw [n_lt] at q; rw [n_le, nI_toInt (by omega)] at h1; rw [Int32.toInt_zero] at q; omega)
  exact ⟨j, (nI_leI (by omega) hj).mp h.1, (nI_leI hj hh).mp h.2, rfl, nx_nI hj⟩
/-! the reference's rows change -/
section MDS
variable {m : Nat} {w pa he te re w1 : Nat → Int32} {ps rn ty at_ st ki co ps1 rn1 ty1 at1 st1 ki1 co1 : Int32} {h : pH}
theorem MD.sw (M : MD m w pa he te re ps rn ty at_ st ki co h) (w1 : Nat → Int32) : MD m w1 pa he te re ps rn ty at_ st ki co (pset h (m + 1) (ai 1 410 w1)) :=
  ⟨(pset_n (by omega)).trans M.1, pset_s _ _ _, (pset_n (by omega)).trans M.2.2.1, (pset_n (by omega)).trans M.2.2.2.1, (pset_n (by omega)).trans M.2.2.2.2.1, (pset_n (by omega)).trans M.2.2.2.2.2⟩
theorem MD.spa (M : MD m w pa he te re ps rn ty at_ st ki co h) (w1 : Nat → Int32) : MD m w w1 he te re ps rn ty at_ st ki co (pset h (m + 2) (ai 1 2050 w1)) :=
  ⟨(pset_n (by omega)).trans M.1, (pset_n (by omega)).trans M.2.1, pset_s _ _ _, (pset_n (by omega)).trans M.2.2.2.1, (pset_n (by omega)).trans M.2.2.2.2.1, (pset_n (by omega)).trans M.2.2.2.2.2⟩
theorem MD.she (M : MD m w pa he te re ps rn ty at_ st ki co h) (w1 : Nat → Int32) : MD m w pa w1 te re ps rn ty at_ st ki co (pset h (m + 3) (ai 1 410 w1)) :=
  ⟨(pset_n (by omega)).trans M.1, (pset_n (by omega)).trans M.2.1, (pset_n (by omega)).trans M.2.2.1, pset_s _ _ _, (pset_n (by omega)).trans M.2.2.2.2.1, (pset_n (by omega)).trans M.2.2.2.2.2⟩
theorem MD.ste (M : MD m w pa he te re ps rn ty at_ st ki co h) (w1 : Nat → Int32) : MD m w pa he w1 re ps rn ty at_ st ki co (pset h (m + 4) (ai 1 140 w1)) :=
  ⟨(pset_n (by omega)).trans M.1, (pset_n (by omega)).trans M.2.1, (pset_n (by omega)).trans M.2.2.1, (pset_n (by omega)).trans M.2.2.2.1, pset_s _ _ _, (pset_n (by omega)).trans M.2.2.2.2.2⟩
theorem MD.sre (M : MD m w pa he te re ps rn ty at_ st ki co h) (w1 : Nat → Int32) : MD m w pa he te w1 ps rn ty at_ st ki co (pset h (m + 5) (ai 1 3 w1)) :=
  ⟨(pset_n (by omega)).trans M.1, (pset_n (by omega)).trans M.2.1, (pset_n (by omega)).trans M.2.2.1, (pset_n (by omega)).trans M.2.2.2.1, (pset_n (by omega)).trans M.2.2.2.2.1, pset_s _ _ _⟩
theorem MD.sob (M : MD m w pa he te re ps rn ty at_ st ki co h) : MD m w pa he te re ps1 rn1 ty1 at1 st1 ki1 co1 (pset h m (ob 7 [.ref (m + 1), .ref (m + 2), .ref (m + 3), .int ps1, .int rn1, .ref (m + 4), .int ty1, .int at1, .int st1, .int ki1, .ref (m + 5), .int co1])) :=
  ⟨pset_s _ _ _, (pset_n (by omega)).trans M.2.1, (pset_n (by omega)).trans M.2.2.1, (pset_n (by omega)).trans M.2.2.2.1, (pset_n (by omega)).trans M.2.2.2.2.1, (pset_n (by omega)).trans M.2.2.2.2.2⟩
end MDS
/-! the history's row -/
def shP (pa : Nat → Int32) (i : Nat) : Nat → Int32 := fun k => if k < i then pa (k + 410) else pa k
def cpP (pa w : Nat → Int32) (np i : Nat) : Nat → Int32 := fun k => if 410 * np ≤ k ∧ k < 410 * np + i then w (k - 410 * np) else pa k
def aPa (rr : Bool) (np : Nat) (w pa : Nat → Int32) : Nat → Int32 := if rr = true then pa else if np = 5 then cpP (shP pa 1640) w 4 410 else cpP pa w np 410
def aNp (rr : Bool) (np : Nat) : Nat := if rr = true then np else if np = 5 then 5 else np + 1
theorem shP_s (pa : Nat → Int32) (i : Nat) : upd (shP pa i) i (shP pa i (i + 410)) = shP pa (i + 1) := by
  funext k
  unfold upd shP
  by_cases e : k = i
  · rw [if_pos e, if_neg (by omega), if_pos (by omega), e]
  · rw [if_neg e]
    by_cases e2 : k < i
    · rw [if_pos e2, if_pos (by omega)]
    · rw [if_neg e2, if_neg (by omega)]
theorem cpP_s (pa w : Nat → Int32) (np i : Nat) : upd (cpP pa w np i) (410 * np + i) (w i) = cpP pa w np (i + 1) := by
  funext k
  unfold upd cpP
  by_cases e : k = 410 * np + i
  · rw [if_pos e, if_pos (by omega), e]
    congr 1
    omega
  · rw [if_neg e]
    by_cases e2 : 410 * np ≤ k ∧ k < 410 * np + i
    · rw [if_pos e2, if_pos (by omega)]
    · rw [if_neg e2, if_neg (by omega)]
theorem cpP_0 (pa w : Nat → Int32) (np : Nat) : cpP pa w np 0 = pa := by
  funext k
  unfold cpP
  rw [if_neg (by omega)]
theorem shP_0 (pa : Nat → Int32) : shP pa 0 = pa := by
  funext k
  unfold shP
  rw [if_neg (by omega)]
def okA (m : Nat) (w pa he te re : Nat → Int32) (np : Nat) (rr : Bool) (ty at_ st ki co : Int32) (w1 : Nat → Int32) (h h1 : pH) : Prop := MD m w1 (aPa rr np w pa) he te re (nI (aNp rr np)) (bI (rr = true)) ty at_ st ki co h1 ∧ pO m (m + 6) h h1
set_option maxRecDepth 100000 in
set_option maxHeartbeats 4000000 in
theorem c_X7_acts (l : Launch) (E : pE) (m : Nat) (w pa he te re : Nat → Int32) (np : Nat) (rr : Bool) (ty at_ st ki co : Int32) : pC l E yX7_acts cX7_acts 2 none { frames := 0, cells := 0, slots := 0, locals := 0 } 0 0 [.ref m] (fun h _ => MD m w pa he te re (nI np) (bI (rr = true)) ty at_ st ki co h ∧ np ≤ 5) (pFv (okA m w pa he te re np rr ty at_ st ki co w)) := by
  refine pC_of (by decide) (by simp [Value.category]) (Nat.le_of_ble_eq_true rfl) ?_
  intro h z hp p__ e__ s__ m__ args__ below__ meth__ c__ X hr hlk hname
  obtain ⟨hM, hE⟩ := hp
  have hM0 := hM
  obtain ⟨M0, M1, M2, M3, M4, M5⟩ := hM0
  have K : ∀ (n0 : Nat) (p0 : Nat → Int32) (h1 : pH), n0 < 5 → MD m w p0 he te re (nI n0) (bI (rr = true)) ty at_ st ki co h1 → pO m (m + 6) h h1 → cpP p0 w n0 410 = aPa rr np w pa → n0 + 1 = aNp rr np → (pV p__ l e__ { frames := 0, cells := 0, slots := 0, locals := 0 } s__ m__ args__ below__ meth__ c__ 2 E (pA h z) (MQ below__ (pQ E (pFv (okA m w pa he te re np rr ty at_ st ki co w)) h z) args__ s__ 0 0 (pA h z)) z h1 0 0 57 [some (.ref m), none] []) := by
    intro n0 p0 h1 hn0 hM1 hO e1 e2
    have hM2 := hM1
    obtain ⟨N0, N1, N2, N3, N4, N5⟩ := hM2
    refine v_iconst (pc := 57) X (v := nI 0) (hd := dX7_acts_57) (kk := ?_)
    refine v_istore_n (pc := 58) X (hd := dX7_acts_58) (kk := ?_)
    refine v_for (pc := 59) (M := 410) (Lf := fun i => [some (.ref m), some (.int (nI i))]) (I := fun i h2 => h2 = pset h1 (m + 2) (ai 1 2050 (cpP p0 w n0 i))) (h0 := by rw [cpP_0]; exact pset_id N2) (hL := by rfl) (step := ?_) (out := ?_)
    · intro i h2 hi hI kk
      subst hI
      refine v_iload_n (pc := 59) X (hd := dX7_acts_59) (kk := ?_)
      refine v_sipush (pc := 60) X (v := nI 410) (hd := dX7_acts_60) (kk := ?_)
      refine v_icmpge (pc := 63) X (tgt := 93) (hd := dX7_acts_63) (kt := fun c63 => ?_) (kf := fun c63 => ?_)
      · exact absurd c63 (nI_ge hi (by omega))
      · refine v_aload_n (pc := 66) X (hd := dX7_acts_66) (kk := ?_)
        refine g_X7_13 (pc := 67) X (hd := dX7_acts_67) (hh := by first | assumption | exact pset_s _ _ _ | exact (pset_n (by omega)).trans (by assumption)) (kk := ?_)
        refine v_sipush (pc := 70) X (v := nI 410) (hd := dX7_acts_70) (kk := ?_)
        refine v_aload_n (pc := 73) X (hd := dX7_acts_73) (kk := ?_)
        refine g_X7_29 (pc := 74) X (hd := dX7_acts_74) (hh := by first | assumption | exact pset_s _ _ _ | exact (pset_n (by omega)).trans (by assumption)) (kk := ?_)
        refine v_imul (pc := 77) X (hd := dX7_acts_77) (kk := ?_)
        refine v_iload_n (pc := 78) X (hd := dX7_acts_78) (kk := ?_)
        refine v_iadd (pc := 79) X (hd := dX7_acts_79) (kk := ?_)
        refine v_aload_n (pc := 80) X (hd := dX7_acts_80) (kk := ?_)
        refine g_X7_7 (pc := 81) X (hd := dX7_acts_81) (hh := by first | assumption | exact pset_s _ _ _ | exact (pset_n (by omega)).trans (by assumption)) (kk := ?_)
        refine v_iload_n (pc := 84) X (hd := dX7_acts_84) (kk := ?_)
        refine v_ialdN (pc := 85) X (j := i) (hd := dX7_acts_85) (hh := by first | assumption | exact pset_s _ _ _ | exact (pset_n (by omega)).trans (by assumption)) (hi := rfl) (hj := by omega) (kk := ?_)
        refine v_iastN (pc := 86) X (j := (410 * n0 + i)) (hd := dX7_acts_86) (hh := by first | assumption | exact pset_s _ _ _ | exact (pset_n (by omega)).trans (by assumption)) (hi := by rw [pk_mul, nI_add]) (hj := by omega) (kk := ?_)
        rw [pset_pset]
        refine v_iincN (pc := 87) X (hd := dX7_acts_87) (kk := ?_)
        refine v_goto (pc := 90) X (tgt := 59) (hd := dX7_acts_90) (kk := ?_)
        refine kk _ ?_
        rw [cpP_s]
    · intro h2 hI
      subst hI
      refine v_iload_n (pc := 59) X (hd := dX7_acts_59) (kk := ?_)
      refine v_sipush (pc := 60) X (v := nI 410) (hd := dX7_acts_60) (kk := ?_)
      refine v_icmpge (pc := 63) X (tgt := 93) (hd := dX7_acts_63) (kt := fun c63 => ?_) (kf := fun c63 => ?_)
      · refine v_aload_n (pc := 93) X (hd := dX7_acts_93) (kk := ?_)
        refine v_dup (pc := 94) X (hd := dX7_acts_94) (kk := ?_)
        refine g_X7_29 (pc := 95) X (hd := dX7_acts_95) (hh := by first | assumption | exact pset_s _ _ _ | exact (pset_n (by omega)).trans (by assumption)) (kk := ?_)
        refine v_iconst (pc := 98) X (v := nI 1) (hd := dX7_acts_98) (kk := ?_)
        refine v_iadd (pc := 99) X (hd := dX7_acts_99) (kk := ?_)
        refine p_X7_29 (pc := 100) X (hd := dX7_acts_100) (hh := by first | assumption | exact pset_s _ _ _ | exact (pset_n (by omega)).trans (by assumption)) (kk := ?_)
        exact v_endv (pc := 103) X hr hlk (hd := dX7_acts_103) (hf := ⟨by rw [← e1, ← e2, ← nI_add]; exact (hM1.spa _).sob, (hO.set (by omega) (by omega)).set (by omega) (by omega)⟩)
      · exact absurd (Int32.le_refl _) c63
  refine v_aload_n (pc := 0) X (hd := dX7_acts_0) (kk := ?_)
  refine g_X7_25 (pc := 1) X (hd := dX7_acts_1) (hh := by assumption) (kk := ?_)
  refine v_ifeqB (pc := 4) X (tgt := 8) (hd := dX7_acts_4) (kt := fun c4 => ?_) (kf := fun c4 => ?_)
  · refine v_aload_n (pc := 8) X (hd := dX7_acts_8) (kk := ?_)
    refine g_X7_29 (pc := 9) X (hd := dX7_acts_9) (hh := by assumption) (kk := ?_)
    refine v_iconst (pc := 12) X (v := nI 5) (hd := dX7_acts_12) (kk := ?_)
    refine v_icmpne (pc := 13) X (tgt := 57) (hd := dX7_acts_13) (kt := fun c13 => ?_) (kf := fun c13 => ?_)
    · have c14 : ¬ np = 5 := fun q => c13 (by rw [q])
      exact v_sub [some (.ref m), none] (by intro i v hv; match i, hv with | 0, hv => exact hv | 1, hv => simp at hv | i + 2, hv => simp at hv) (K np pa h (by omega) hM pO.rf (by unfold aPa; rw [if_neg c4, if_neg c14]) (by unfold aNp; rw [if_neg c4, if_neg c14]))
    · have c14 : np = 5 := (nI_eq (by omega) (by omega)).mp (Classical.not_not.mp c13)
      subst c14
      refine v_iconst (pc := 16) X (v := nI 0) (hd := dX7_acts_16) (kk := ?_)
      refine v_istore_n (pc := 17) X (hd := dX7_acts_17) (kk := ?_)
      refine v_for (pc := 18) (M := 1640) (Lf := fun i => [some (.ref m), some (.int (nI i))]) (I := fun i h1 => h1 = pset h (m + 2) (ai 1 2050 (shP pa i))) (h0 := by rw [shP_0]; exact pset_id M2) (hL := by rfl) (step := ?_) (out := ?_)
      · intro i h1 hi hI kk
        subst hI
        refine v_iload_n (pc := 18) X (hd := dX7_acts_18) (kk := ?_)
        refine v_sipush (pc := 19) X (v := nI 1640) (hd := dX7_acts_19) (kk := ?_)
        refine v_icmpge (pc := 22) X (tgt := 47) (hd := dX7_acts_22) (kt := fun c22 => ?_) (kf := fun c22 => ?_)
        · exact absurd c22 (nI_ge hi (by omega))
        · refine v_aload_n (pc := 25) X (hd := dX7_acts_25) (kk := ?_)
          refine g_X7_13 (pc := 26) X (hd := dX7_acts_26) (hh := by first | assumption | exact pset_s _ _ _ | exact (pset_n (by omega)).trans (by assumption)) (kk := ?_)
          refine v_iload_n (pc := 29) X (hd := dX7_acts_29) (kk := ?_)
          refine v_aload_n (pc := 30) X (hd := dX7_acts_30) (kk := ?_)
          refine g_X7_13 (pc := 31) X (hd := dX7_acts_31) (hh := by first | assumption | exact pset_s _ _ _ | exact (pset_n (by omega)).trans (by assumption)) (kk := ?_)
          refine v_iload_n (pc := 34) X (hd := dX7_acts_34) (kk := ?_)
          refine v_sipush (pc := 35) X (v := nI 410) (hd := dX7_acts_35) (kk := ?_)
          refine v_iadd (pc := 38) X (hd := dX7_acts_38) (kk := ?_)
          refine v_ialdN (pc := 39) X (j := (i + 410)) (hd := dX7_acts_39) (hh := by first | assumption | exact pset_s _ _ _ | exact (pset_n (by omega)).trans (by assumption)) (hi := nI_add _ _) (hj := by omega) (kk := ?_)
          refine v_iastN (pc := 40) X (j := i) (hd := dX7_acts_40) (hh := by first | assumption | exact pset_s _ _ _ | exact (pset_n (by omega)).trans (by assumption)) (hi := rfl) (hj := by omega) (kk := ?_)
          rw [pset_pset]
          refine v_iincN (pc := 41) X (hd := dX7_acts_41) (kk := ?_)
          refine v_goto (pc := 44) X (tgt := 18) (hd := dX7_acts_44) (kk := ?_)
          refine kk _ ?_
          rw [shP_s]
      · intro h1 hI
        subst hI
        refine v_iload_n (pc := 18) X (hd := dX7_acts_18) (kk := ?_)
        refine v_sipush (pc := 19) X (v := nI 1640) (hd := dX7_acts_19) (kk := ?_)
        refine v_icmpge (pc := 22) X (tgt := 47) (hd := dX7_acts_22) (kt := fun c22 => ?_) (kf := fun c22 => ?_)
        · refine v_aload_n (pc := 47) X (hd := dX7_acts_47) (kk := ?_)
          refine v_dup (pc := 48) X (hd := dX7_acts_48) (kk := ?_)
          refine g_X7_29 (pc := 49) X (hd := dX7_acts_49) (hh := by first | assumption | exact pset_s _ _ _ | exact (pset_n (by omega)).trans (by assumption)) (kk := ?_)
          refine v_iconst (pc := 52) X (v := nI 1) (hd := dX7_acts_52) (kk := ?_)
          refine v_isub (pc := 53) X (hd := dX7_acts_53) (kk := ?_)
          refine p_X7_29 (pc := 54) X (hd := dX7_acts_54) (hh := by first | assumption | exact pset_s _ _ _ | exact (pset_n (by omega)).trans (by assumption)) (kk := ?_)
          refine v_sub [some (.ref m), none] (by intro i v hv; match i, hv with | 0, hv => exact hv | 1, hv => simp at hv | i + 2, hv => simp at hv) ?_
          rw [show nI 5 - nI 1 = nI 4 from rfl]
          exact K 4 (shP pa 1640) _ (by omega) (hM.spa _).sob ((pO.rf.set (by omega) (by omega)).set (by omega) (by omega)) (by unfold aPa; rw [if_neg c4, if_pos rfl]) (by unfold aNp; rw [if_neg c4, if_pos rfl])
        · exact absurd (Int32.le_refl _) c22
  · exact v_endv (pc := 7) X hr hlk (hd := dX7_acts_7) (hf := ⟨by unfold aPa aNp; rw [if_pos c4, if_pos c4]; exact hM, pO.rf⟩)
end
