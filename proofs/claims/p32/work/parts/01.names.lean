-- ===== PART A: goes FIRST, ahead of the names: the tables' words, and 'selects' of the private methods out of them =====
/-- a private method of a class that the tables say can be made, by its rows of tables_1 -/
def lw_okq (q : MethodName × Nat) : Prop := (q.1.cls ≠ "java/lang/invoke/MethodHandle" ∧ q.1.cls ≠ "java/lang/invoke/VarHandle") ∧ Cond.instantiable q.1.cls q.2 ∈ tables_1 ∧ Cond.privateMethod q.1 ∈ tables_1 ∧ Cond.instanceMethod q.1 ∈ tables_1
theorem lw_p0 : lw_okq (⟨"PurserLedgers", "newTrial", "()LPurserLedgers$Books;"⟩, 5) := ⟨⟨by decide +kernel, by decide +kernel⟩, List.mem_of_getElem? (i := 13) (by decide +kernel), List.mem_of_getElem? (i := 275) (by decide +kernel), List.mem_of_getElem? (i := 276) (by decide +kernel)⟩
theorem lw_p1 : lw_okq (⟨"PurserLedgers", "settleTrial", "(I)I"⟩, 5) := ⟨⟨by decide +kernel, by decide +kernel⟩, List.mem_of_getElem? (i := 13) (by decide +kernel), List.mem_of_getElem? (i := 340) (by decide +kernel), List.mem_of_getElem? (i := 341) (by decide +kernel)⟩
theorem lw_p2 : lw_okq (⟨"PurserLedgers$Books", "reasonAgainst", "(LPurserLedgers$Sailor;LPurserLedgers$Item;I)I"⟩, 10) := ⟨⟨by decide +kernel, by decide +kernel⟩, List.mem_of_getElem? (i := 21) (by decide +kernel), List.mem_of_getElem? (i := 409) (by decide +kernel), List.mem_of_getElem? (i := 410) (by decide +kernel)⟩
def lw_privs_1 : List (MethodName × Nat) := [(⟨"PurserLedgers", "newTrial", "()LPurserLedgers$Books;"⟩, 5), (⟨"PurserLedgers", "settleTrial", "(I)I"⟩, 5), (⟨"PurserLedgers$Books", "reasonAgainst", "(LPurserLedgers$Sailor;LPurserLedgers$Item;I)I"⟩, 10)]
theorem lw_r1 : ∀ q ∈ lw_privs_1, lw_okq q := List.forall_mem_cons.mpr ⟨lw_p0, List.forall_mem_cons.mpr ⟨lw_p1, List.forall_mem_cons.mpr ⟨lw_p2, fun _ h => absurd h List.not_mem_nil⟩⟩⟩
def lw_privs : List (MethodName × Nat) := lw_privs_1
def lw_tbl : List Cond := k2_sels lw_privs ++ tables_1
theorem lw_privs_ok : ∀ q ∈ lw_privs, lw_okq q := lw_r1
/-- the streams that the claim lets the run draw from -/
abbrev lw_cs : List Choice := [Jvm.Choice.named "NaN.bits"]
theorem lw_bits : nanBits ∈ lw_cs := by first | decide | exact List.mem_cons_self | simp [lw_cs, nanBits]
-- ===== end of PART A; then your names; then what follows =====
def RX0 : String := "PurserLedgers$Books"
def TX0 : u_T := fun k => match k with
  | 0 => ("PurserLedgers$Books", "crew", "[LPurserLedgers$Sailor;", true)
  | 1 => ("PurserLedgers$Books", "chest", "[LPurserLedgers$Item;", true)
  | 2 => ("PurserLedgers$Books", "settings", "[I", true)
  | 3 => ("PurserLedgers$Books", "entries", "LPurserLedgers$Entries;", true)
  | 4 => ("PurserLedgers$Books", "totals", "LPurserLedgers$Totals;", true)
  | 5 => ("PurserLedgers$Books", "signed", "I", false)
  | 6 => ("PurserLedgers$Books", "voyage", "I", false)
  | 7 => ("PurserLedgers$Books", "voyageDays", "I", false)
  | 8 => ("PurserLedgers$Books", "ports", "I", false)
  | _ => ("PurserLedgers$Books", "atSea", "Z", false)
def tyX0 : Nat → FieldType := fun k => match k with
  | 0 => .array (.object "PurserLedgers$Sailor")
  | 1 => .array (.object "PurserLedgers$Item")
  | 2 => .array .int
  | 3 => .object "PurserLedgers$Entries"
  | 4 => .object "PurserLedgers$Totals"
  | 5 => .int
  | 6 => .int
  | 7 => .int
  | 8 => .int
  | _ => .boolean
abbrev wsX00 : List Cond := u_ws RX0 TX0 10
theorem nmX0 : ∀ a, a < 10 → ∀ b, b < 10 → a ≠ b → (TX0 a).2.1 ≠ (TX0 b).2.1 := by decide +kernel
theorem tyX0_ok : ∀ k, k < 10 → parseFieldDescriptor (TX0 k).2.2.1 = some (tyX0 k) := by decide +kernel
abbrev cX0_init : ByteArray := prog_2_method_1_code
def yX0_init : MethodName := ⟨RX0, "<init>", "()V"⟩
abbrev cX0_copyFrom : ByteArray := prog_2_method_2_code
def yX0_copyFrom : MethodName := ⟨RX0, "copyFrom", "(LPurserLedgers$Books;)V"⟩
abbrev cX0_findSailor : ByteArray := prog_2_method_3_code
def yX0_findSailor : MethodName := ⟨RX0, "findSailor", "(I)LPurserLedgers$Sailor;"⟩
abbrev cX0_findItem : ByteArray := prog_2_method_4_code
def yX0_findItem : MethodName := ⟨RX0, "findItem", "(I)LPurserLedgers$Item;"⟩
abbrev cX0_setting : ByteArray := prog_2_method_5_code
def yX0_setting : MethodName := ⟨RX0, "setting", "(I)I"⟩
abbrev cX0_signOn : ByteArray := prog_2_method_6_code
def yX0_signOn : MethodName := ⟨RX0, "signOn", "(II)I"⟩
abbrev cX0_buyForChest : ByteArray := prog_2_method_7_code
def yX0_buyForChest : MethodName := ⟨RX0, "buyForChest", "(III)I"⟩
abbrev cX0_sellFromChest : ByteArray := prog_2_method_8_code
def yX0_sellFromChest : MethodName := ⟨RX0, "sellFromChest", "(III)I"⟩
abbrev cX0_reasonNotToSell : ByteArray := prog_2_method_9_code
def yX0_reasonNotToSell : MethodName := ⟨RX0, "reasonNotToSell", "(III)I"⟩
abbrev cX0_reasonAgainst : ByteArray := prog_2_method_10_code
def yX0_reasonAgainst : MethodName := ⟨RX0, "reasonAgainst", "(LPurserLedgers$Sailor;LPurserLedgers$Item;I)I"⟩
abbrev cX0_couldBuy : ByteArray := prog_2_method_11_code
def yX0_couldBuy : MethodName := ⟨RX0, "couldBuy", "(II)I"⟩
abbrev cX0_advanceTo : ByteArray := prog_2_method_12_code
def yX0_advanceTo : MethodName := ⟨RX0, "advanceTo", "(II)I"⟩
abbrev cX0_fineOne : ByteArray := prog_2_method_13_code
def yX0_fineOne : MethodName := ⟨RX0, "fineOne", "(II)I"⟩
abbrev cX0_chargeFine : ByteArray := prog_2_method_14_code
def yX0_chargeFine : MethodName := ⟨RX0, "chargeFine", "(ILPurserLedgers$Sailor;I)V"⟩
abbrev cX0_fineAll : ByteArray := prog_2_method_15_code
def yX0_fineAll : MethodName := ⟨RX0, "fineAll", "(II)I"⟩
abbrev cX0_couldAllBeFined : ByteArray := prog_2_method_16_code
def yX0_couldAllBeFined : MethodName := ⟨RX0, "couldAllBeFined", "(III)Z"⟩
abbrev cX0_sizeOfWatch : ByteArray := prog_2_method_17_code
def yX0_sizeOfWatch : MethodName := ⟨RX0, "sizeOfWatch", "(I)I"⟩
abbrev cX0_letAshore : ByteArray := prog_2_method_18_code
def yX0_letAshore : MethodName := ⟨RX0, "letAshore", "(I)I"⟩
abbrev cX0_comeBack : ByteArray := prog_2_method_19_code
def yX0_comeBack : MethodName := ⟨RX0, "comeBack", "(II)I"⟩
abbrev cX0_putToSea : ByteArray := prog_2_method_20_code
def yX0_putToSea : MethodName := ⟨RX0, "putToSea", "()I"⟩
abbrev cX0_comeIntoPort : ByteArray := prog_2_method_21_code
def yX0_comeIntoPort : MethodName := ⟨RX0, "comeIntoPort", "()I"⟩
abbrev cX0_passDays : ByteArray := prog_2_method_22_code
def yX0_passDays : MethodName := ⟨RX0, "passDays", "(I)I"⟩
abbrev cX0_sendAway : ByteArray := prog_2_method_23_code
def yX0_sendAway : MethodName := ⟨RX0, "sendAway", "(I)I"⟩
abbrev cX0_payTo : ByteArray := prog_2_method_24_code
def yX0_payTo : MethodName := ⟨RX0, "payTo", "(ILPurserLedgers$Sailor;I)V"⟩
abbrev cX0_endVoyage : ByteArray := prog_2_method_25_code
def yX0_endVoyage : MethodName := ⟨RX0, "endVoyage", "()I"⟩
abbrev cX0_changeSetting : ByteArray := prog_2_method_26_code
def yX0_changeSetting : MethodName := ⟨RX0, "changeSetting", "(II)I"⟩
abbrev cX0_daysUntilClear : ByteArray := prog_2_method_27_code
def yX0_daysUntilClear : MethodName := ⟨RX0, "daysUntilClear", "(I)I"⟩
abbrev cX0_tellPayingOff : ByteArray := prog_2_method_28_code
def yX0_tellPayingOff : MethodName := ⟨RX0, "tellPayingOff", "(I)I"⟩
abbrev cX0_wouldBePaid : ByteArray := prog_2_method_29_code
def yX0_wouldBePaid : MethodName := ⟨RX0, "wouldBePaid", "()I"⟩
abbrev cX0_debtsTogether : ByteArray := prog_2_method_30_code
def yX0_debtsTogether : MethodName := ⟨RX0, "debtsTogether", "()I"⟩
abbrev cX0_setOfDebtors : ByteArray := prog_2_method_31_code
def yX0_setOfDebtors : MethodName := ⟨RX0, "setOfDebtors", "()I"⟩
abbrev cX0_setOf : ByteArray := prog_2_method_32_code
def yX0_setOf : MethodName := ⟨RX0, "setOf", "(I)I"⟩
abbrev cX0_sailorByBalance : ByteArray := prog_2_method_33_code
def yX0_sailorByBalance : MethodName := ⟨RX0, "sailorByBalance", "(I)I"⟩
abbrev cX0_poorerThan : ByteArray := prog_2_method_34_code
def yX0_poorerThan : MethodName := ⟨RX0, "poorerThan", "(II)I"⟩
abbrev cX0_chargedShare : ByteArray := prog_2_method_35_code
def yX0_chargedShare : MethodName := ⟨RX0, "chargedShare", "()I"⟩
abbrev cX0_tell : ByteArray := prog_2_method_36_code
def yX0_tell : MethodName := ⟨RX0, "tell", "(I)I"⟩
abbrev cX0_tellCoins : ByteArray := prog_2_method_37_code
def yX0_tellCoins : MethodName := ⟨RX0, "tellCoins", "(I)I"⟩
def RX1 : String := "PurserLedgers$Entries"
def TX1 : u_T := fun k => match k with
  | 0 => ("PurserLedgers$Entries", "sailors", "[I", true)
  | 1 => ("PurserLedgers$Entries", "kinds", "[I", true)
  | 2 => ("PurserLedgers$Entries", "coins", "[I", true)
  | _ => ("PurserLedgers$Entries", "kept", "I", false)
def tyX1 : Nat → FieldType := fun k => match k with
  | 0 => .array .int
  | 1 => .array .int
  | 2 => .array .int
  | _ => .int
abbrev wsX10 : List Cond := u_ws RX1 TX1 4
theorem nmX1 : ∀ a, a < 4 → ∀ b, b < 4 → a ≠ b → (TX1 a).2.1 ≠ (TX1 b).2.1 := by decide +kernel
theorem tyX1_ok : ∀ k, k < 4 → parseFieldDescriptor (TX1 k).2.2.1 = some (tyX1 k) := by decide +kernel
abbrev cX1_init : ByteArray := prog_3_method_1_code
def yX1_init : MethodName := ⟨RX1, "<init>", "()V"⟩
abbrev cX1_copyFrom : ByteArray := prog_3_method_2_code
def yX1_copyFrom : MethodName := ⟨RX1, "copyFrom", "(LPurserLedgers$Entries;)V"⟩
abbrev cX1_enter : ByteArray := prog_3_method_3_code
def yX1_enter : MethodName := ⟨RX1, "enter", "(III)V"⟩
abbrev cX1_putAhead : ByteArray := prog_3_method_4_code
def yX1_putAhead : MethodName := ⟨RX1, "putAhead", "([II)V"⟩
abbrev cX1_tell : ByteArray := prog_3_method_5_code
def yX1_tell : MethodName := ⟨RX1, "tell", "(II)I"⟩
abbrev cX1_numberAt : ByteArray := prog_3_method_6_code
def yX1_numberAt : MethodName := ⟨RX1, "numberAt", "([II)I"⟩
def RX2 : String := "PurserLedgers$History"
def TX2 : u_T := fun k => match k with
  | 0 => ("PurserLedgers$History", "states", "[LPurserLedgers$Books;", true)
  | _ => ("PurserLedgers$History", "kept", "I", false)
def tyX2 : Nat → FieldType := fun k => match k with
  | 0 => .array (.object "PurserLedgers$Books")
  | _ => .int
abbrev wsX20 : List Cond := u_ws RX2 TX2 2
theorem nmX2 : ∀ a, a < 2 → ∀ b, b < 2 → a ≠ b → (TX2 a).2.1 ≠ (TX2 b).2.1 := by decide +kernel
theorem tyX2_ok : ∀ k, k < 2 → parseFieldDescriptor (TX2 k).2.2.1 = some (tyX2 k) := by decide +kernel
abbrev cX2_init : ByteArray := prog_4_method_1_code
def yX2_init : MethodName := ⟨RX2, "<init>", "()V"⟩
abbrev cX2_record : ByteArray := prog_4_method_2_code
def yX2_record : MethodName := ⟨RX2, "record", "(LPurserLedgers$Books;)V"⟩
abbrev cX2_restoreInto : ByteArray := prog_4_method_3_code
def yX2_restoreInto : MethodName := ⟨RX2, "restoreInto", "(LPurserLedgers$Books;)I"⟩
def RX3 : String := "PurserLedgers$Item"
def TX3 : u_T := fun k => match k with
  | 0 => ("PurserLedgers$Item", "inStock", "I", false)
  | 1 => ("PurserLedgers$Item", "price", "I", false)
  | 2 => ("PurserLedgers$Item", "bought", "I", false)
  | 3 => ("PurserLedgers$Item", "sold", "I", false)
  | _ => ("PurserLedgers$Item", "charged", "I", false)
def tyX3 : Nat → FieldType := fun k => match k with
  | 0 => .int
  | 1 => .int
  | 2 => .int
  | 3 => .int
  | _ => .int
abbrev wsX30 : List Cond := u_ws RX3 TX3 5
theorem nmX3 : ∀ a, a < 5 → ∀ b, b < 5 → a ≠ b → (TX3 a).2.1 ≠ (TX3 b).2.1 := by decide +kernel
theorem tyX3_ok : ∀ k, k < 5 → parseFieldDescriptor (TX3 k).2.2.1 = some (tyX3 k) := by decide +kernel
abbrev cX3_init : ByteArray := prog_5_method_1_code
def yX3_init : MethodName := ⟨RX3, "<init>", "()V"⟩
abbrev cX3_copyFrom : ByteArray := prog_5_method_2_code
def yX3_copyFrom : MethodName := ⟨RX3, "copyFrom", "(LPurserLedgers$Item;)V"⟩
abbrev cX3_takeIn : ByteArray := prog_5_method_3_code
def yX3_takeIn : MethodName := ⟨RX3, "takeIn", "(II)V"⟩
abbrev cX3_giveOut : ByteArray := prog_5_method_4_code
def yX3_giveOut : MethodName := ⟨RX3, "giveOut", "(II)V"⟩
abbrev cX3_tell : ByteArray := prog_5_method_5_code
def yX3_tell : MethodName := ⟨RX3, "tell", "(I)I"⟩
def RX4 : String := "PurserLedgers$Order"
def TX4 : u_T := fun k => match k with
  | 0 => ("PurserLedgers$Order", "numbers", "[I", true)
  | 1 => ("PurserLedgers$Order", "letter", "I", false)
  | _ => ("PurserLedgers$Order", "place", "I", false)
def tyX4 : Nat → FieldType := fun k => match k with
  | 0 => .array .int
  | 1 => .int
  | _ => .int
abbrev wsX40 : List Cond := u_ws RX4 TX4 3
theorem nmX4 : ∀ a, a < 3 → ∀ b, b < 3 → a ≠ b → (TX4 a).2.1 ≠ (TX4 b).2.1 := by decide +kernel
theorem tyX4_ok : ∀ k, k < 3 → parseFieldDescriptor (TX4 k).2.2.1 = some (tyX4 k) := by decide +kernel
abbrev cX4_init : ByteArray := prog_6_method_1_code
def yX4_init : MethodName := ⟨RX4, "<init>", "()V"⟩
def RX5 : String := "PurserLedgers$Rehearsal"
def TX5 : u_T := fun k => match k with
  | 0 => ("PurserLedgers$Rehearsal", "order", "LPurserLedgers$Order;", true)
  | 1 => ("PurserLedgers$Rehearsal", "done", "I", false)
  | 2 => ("PurserLedgers$Rehearsal", "position", "I", false)
  | 3 => ("PurserLedgers$Rehearsal", "reason", "I", false)
  | _ => ("PurserLedgers$Rehearsal", "cause", "I", false)
def tyX5 : Nat → FieldType := fun k => match k with
  | 0 => .object "PurserLedgers$Order"
  | 1 => .int
  | 2 => .int
  | 3 => .int
  | _ => .int
abbrev wsX50 : List Cond := u_ws RX5 TX5 5
theorem nmX5 : ∀ a, a < 5 → ∀ b, b < 5 → a ≠ b → (TX5 a).2.1 ≠ (TX5 b).2.1 := by decide +kernel
theorem tyX5_ok : ∀ k, k < 5 → parseFieldDescriptor (TX5 k).2.2.1 = some (tyX5 k) := by decide +kernel
abbrev cX5_init : ByteArray := prog_7_method_1_code
def yX5_init : MethodName := ⟨RX5, "<init>", "()V"⟩
def RX6 : String := "PurserLedgers$Sailor"
def TX6 : u_T := fun k => match k with
  | 0 => ("PurserLedgers$Sailor", "rank", "I", false)
  | 1 => ("PurserLedgers$Sailor", "watch", "I", false)
  | 2 => ("PurserLedgers$Sailor", "whereabouts", "I", false)
  | 3 => ("PurserLedgers$Sailor", "seaDays", "I", false)
  | 4 => ("PurserLedgers$Sailor", "portDays", "I", false)
  | 5 => ("PurserLedgers$Sailor", "bought", "I", false)
  | 6 => ("PurserLedgers$Sailor", "fines", "I", false)
  | 7 => ("PurserLedgers$Sailor", "advances", "I", false)
  | 8 => ("PurserLedgers$Sailor", "debt", "I", false)
  | _ => ("PurserLedgers$Sailor", "paid", "I", false)
def tyX6 : Nat → FieldType := fun k => match k with
  | 0 => .int
  | 1 => .int
  | 2 => .int
  | 3 => .int
  | 4 => .int
  | 5 => .int
  | 6 => .int
  | 7 => .int
  | 8 => .int
  | _ => .int
abbrev wsX60 : List Cond := u_ws RX6 TX6 10
theorem nmX6 : ∀ a, a < 10 → ∀ b, b < 10 → a ≠ b → (TX6 a).2.1 ≠ (TX6 b).2.1 := by decide +kernel
theorem tyX6_ok : ∀ k, k < 10 → parseFieldDescriptor (TX6 k).2.2.1 = some (tyX6 k) := by decide +kernel
abbrev cX6_init : ByteArray := prog_8_method_1_code
def yX6_init : MethodName := ⟨RX6, "<init>", "()V"⟩
abbrev cX6_copyFrom : ByteArray := prog_8_method_2_code
def yX6_copyFrom : MethodName := ⟨RX6, "copyFrom", "(LPurserLedgers$Sailor;)V"⟩
abbrev cX6_comeAboard : ByteArray := prog_8_method_3_code
def yX6_comeAboard : MethodName := ⟨RX6, "comeAboard", "(II)V"⟩
abbrev cX6_beginVoyage : ByteArray := prog_8_method_4_code
def yX6_beginVoyage : MethodName := ⟨RX6, "beginVoyage", "(I)V"⟩
abbrev cX6_goAway : ByteArray := prog_8_method_5_code
def yX6_goAway : MethodName := ⟨RX6, "goAway", "()V"⟩
abbrev cX6_isGone : ByteArray := prog_8_method_6_code
def yX6_isGone : MethodName := ⟨RX6, "isGone", "()Z"⟩
abbrev cX6_isOfWatch : ByteArray := prog_8_method_7_code
def yX6_isOfWatch : MethodName := ⟨RX6, "isOfWatch", "(I)Z"⟩
abbrev cX6_passDays : ByteArray := prog_8_method_8_code
def yX6_passDays : MethodName := ⟨RX6, "passDays", "(IZ)V"⟩
abbrev cX6_earned : ByteArray := prog_8_method_9_code
def yX6_earned : MethodName := ⟨RX6, "earned", "()I"⟩
abbrev cX6_earnedAfter : ByteArray := prog_8_method_10_code
def yX6_earnedAfter : MethodName := ⟨RX6, "earnedAfter", "(IZ)I"⟩
abbrev cX6_wages : ByteArray := prog_8_method_11_code
def yX6_wages : MethodName := ⟨RX6, "wages", "(II)I"⟩
abbrev cX6_charged : ByteArray := prog_8_method_12_code
def yX6_charged : MethodName := ⟨RX6, "charged", "()I"⟩
abbrev cX6_balance : ByteArray := prog_8_method_13_code
def yX6_balance : MethodName := ⟨RX6, "balance", "()I"⟩
abbrev cX6_couldBeFined : ByteArray := prog_8_method_14_code
def yX6_couldBeFined : MethodName := ⟨RX6, "couldBeFined", "(I)Z"⟩
abbrev cX6_tell : ByteArray := prog_8_method_15_code
def yX6_tell : MethodName := ⟨RX6, "tell", "(I)I"⟩
def RX7 : String := "PurserLedgers$Text"
def TX7 : u_T := fun k => match k with
  | 0 => ("PurserLedgers$Text", "characters", "[I", true)
  | _ => ("PurserLedgers$Text", "length", "I", false)
def tyX7 : Nat → FieldType := fun k => match k with
  | 0 => .array .int
  | _ => .int
abbrev wsX70 : List Cond := u_ws RX7 TX7 2
theorem nmX7 : ∀ a, a < 2 → ∀ b, b < 2 → a ≠ b → (TX7 a).2.1 ≠ (TX7 b).2.1 := by decide +kernel
theorem tyX7_ok : ∀ k, k < 2 → parseFieldDescriptor (TX7 k).2.2.1 = some (tyX7 k) := by decide +kernel
abbrev cX7_init : ByteArray := prog_9_method_1_code
def yX7_init : MethodName := ⟨RX7, "<init>", "()V"⟩
def RX8 : String := "PurserLedgers$Totals"
def TX8 : u_T := fun k => match k with
  | 0 => ("PurserLedgers$Totals", "cash", "I", false)
  | 1 => ("PurserLedgers$Totals", "drawn", "I", false)
  | 2 => ("PurserLedgers$Totals", "spent", "I", false)
  | 3 => ("PurserLedgers$Totals", "advanced", "I", false)
  | 4 => ("PurserLedgers$Totals", "paid", "I", false)
  | 5 => ("PurserLedgers$Totals", "charged", "I", false)
  | 6 => ("PurserLedgers$Totals", "fines", "I", false)
  | _ => ("PurserLedgers$Totals", "forfeit", "I", false)
def tyX8 : Nat → FieldType := fun k => match k with
  | 0 => .int
  | 1 => .int
  | 2 => .int
  | 3 => .int
  | 4 => .int
  | 5 => .int
  | 6 => .int
  | _ => .int
abbrev wsX80 : List Cond := u_ws RX8 TX8 8
theorem nmX8 : ∀ a, a < 8 → ∀ b, b < 8 → a ≠ b → (TX8 a).2.1 ≠ (TX8 b).2.1 := by decide +kernel
theorem tyX8_ok : ∀ k, k < 8 → parseFieldDescriptor (TX8 k).2.2.1 = some (tyX8 k) := by decide +kernel
abbrev cX8_init : ByteArray := prog_10_method_1_code
def yX8_init : MethodName := ⟨RX8, "<init>", "()V"⟩
abbrev cX8_copyFrom : ByteArray := prog_10_method_2_code
def yX8_copyFrom : MethodName := ⟨RX8, "copyFrom", "(LPurserLedgers$Totals;)V"⟩
abbrev cX8_missingFor : ByteArray := prog_10_method_3_code
def yX8_missingFor : MethodName := ⟨RX8, "missingFor", "(I)I"⟩
abbrev cX8_takeCash : ByteArray := prog_10_method_4_code
def yX8_takeCash : MethodName := ⟨RX8, "takeCash", "(I)V"⟩
def RX9 : String := "PurserLedgers"
def TX9 : u_T := fun k => match k with
  | 0 => ("PurserLedgers", "now", "LPurserLedgers$Books;", true)
  | 1 => ("PurserLedgers", "trial", "LPurserLedgers$Books;", true)
  | 2 => ("PurserLedgers", "history", "LPurserLedgers$History;", true)
  | 3 => ("PurserLedgers", "text", "LPurserLedgers$Text;", true)
  | _ => ("PurserLedgers", "rehearsal", "LPurserLedgers$Rehearsal;", true)
def tyX9 : Nat → FieldType := fun k => match k with
  | 0 => .object "PurserLedgers$Books"
  | 1 => .object "PurserLedgers$Books"
  | 2 => .object "PurserLedgers$History"
  | 3 => .object "PurserLedgers$Text"
  | _ => .object "PurserLedgers$Rehearsal"
abbrev wsX90 : List Cond := u_ws RX9 TX9 5
theorem nmX9 : ∀ a, a < 5 → ∀ b, b < 5 → a ≠ b → (TX9 a).2.1 ≠ (TX9 b).2.1 := by decide +kernel
theorem tyX9_ok : ∀ k, k < 5 → parseFieldDescriptor (TX9 k).2.2.1 = some (tyX9 k) := by decide +kernel
abbrev cX9_init : ByteArray := prog_1_method_1_code
def yX9_init : MethodName := ⟨RX9, "<init>", "()V"⟩
abbrev cX9_sign : ByteArray := prog_1_method_2_code
def yX9_sign : MethodName := ⟨RX9, "sign", "(II)I"⟩
abbrev cX9_stock : ByteArray := prog_1_method_3_code
def yX9_stock : MethodName := ⟨RX9, "stock", "(III)I"⟩
abbrev cX9_sell : ByteArray := prog_1_method_4_code
def yX9_sell : MethodName := ⟨RX9, "sell", "(III)I"⟩
abbrev cX9_advance : ByteArray := prog_1_method_5_code
def yX9_advance : MethodName := ⟨RX9, "advance", "(II)I"⟩
abbrev cX9_fine : ByteArray := prog_1_method_6_code
def yX9_fine : MethodName := ⟨RX9, "fine", "(II)I"⟩
abbrev cX9_fineWatch : ByteArray := prog_1_method_7_code
def yX9_fineWatch : MethodName := ⟨RX9, "fineWatch", "(II)I"⟩
abbrev cX9_leave : ByteArray := prog_1_method_8_code
def yX9_leave : MethodName := ⟨RX9, "leave", "(I)I"⟩
abbrev cX9_back : ByteArray := prog_1_method_9_code
def yX9_back : MethodName := ⟨RX9, "back", "(II)I"⟩
abbrev cX9_sail : ByteArray := prog_1_method_10_code
def yX9_sail : MethodName := ⟨RX9, "sail", "()I"⟩
abbrev cX9_port : ByteArray := prog_1_method_11_code
def yX9_port : MethodName := ⟨RX9, "port", "()I"⟩
abbrev cX9_days : ByteArray := prog_1_method_12_code
def yX9_days : MethodName := ⟨RX9, "days", "(I)I"⟩
abbrev cX9_dismiss : ByteArray := prog_1_method_13_code
def yX9_dismiss : MethodName := ⟨RX9, "dismiss", "(I)I"⟩
abbrev cX9_payOff : ByteArray := prog_1_method_14_code
def yX9_payOff : MethodName := ⟨RX9, "payOff", "()I"⟩
abbrev cX9_set : ByteArray := prog_1_method_15_code
def yX9_set : MethodName := ⟨RX9, "set", "(II)I"⟩
abbrev cX9_sailor : ByteArray := prog_1_method_16_code
def yX9_sailor : MethodName := ⟨RX9, "sailor", "(II)I"⟩
abbrev cX9_item : ByteArray := prog_1_method_17_code
def yX9_item : MethodName := ⟨RX9, "item", "(II)I"⟩
abbrev cX9_book : ByteArray := prog_1_method_18_code
def yX9_book : MethodName := ⟨RX9, "book", "(II)I"⟩
abbrev cX9_why : ByteArray := prog_1_method_19_code
def yX9_why : MethodName := ⟨RX9, "why", "(III)I"⟩
abbrev cX9_most : ByteArray := prog_1_method_20_code
def yX9_most : MethodName := ⟨RX9, "most", "(II)I"⟩
abbrev cX9_clearIn : ByteArray := prog_1_method_21_code
def yX9_clearIn : MethodName := ⟨RX9, "clearIn", "(I)I"⟩
abbrev cX9_ifPaidOff : ByteArray := prog_1_method_22_code
def yX9_ifPaidOff : MethodName := ⟨RX9, "ifPaidOff", "(I)I"⟩
abbrev cX9_poorest : ByteArray := prog_1_method_23_code
def yX9_poorest : MethodName := ⟨RX9, "poorest", "(I)I"⟩
abbrev cX9_share : ByteArray := prog_1_method_24_code
def yX9_share : MethodName := ⟨RX9, "share", "()I"⟩
abbrev cX9_count : ByteArray := prog_1_method_25_code
def yX9_count : MethodName := ⟨RX9, "count", "(I)I"⟩
abbrev cX9_undo : ByteArray := prog_1_method_26_code
def yX9_undo : MethodName := ⟨RX9, "undo", "()I"⟩
abbrev cX9_newTrial : ByteArray := prog_1_method_31_code
def yX9_newTrial : MethodName := ⟨RX9, "newTrial", "()LPurserLedgers$Books;"⟩
abbrev cX9_settleTrial : ByteArray := prog_1_method_32_code
def yX9_settleTrial : MethodName := ⟨RX9, "settleTrial", "(I)I"⟩
abbrev cX9_within : ByteArray := prog_1_method_33_code
def yX9_within : MethodName := ⟨RX9, "within", "(III)Z"⟩
abbrev cX9_copyNumbers : ByteArray := prog_1_method_34_code
def yX9_copyNumbers : MethodName := ⟨RX9, "copyNumbers", "([I[I)V"⟩
abbrev cX9_bitsOf : ByteArray := prog_1_method_35_code
def yX9_bitsOf : MethodName := ⟨RX9, "bitsOf", "(F)I"⟩
def RX10 : String := "PurserLedgersModel"
def TX10 : u_T := fun k => match k with
  | _ => ("", "", "", false)
def tyX10 : Nat → FieldType := fun k => match k with
  | _ => .int
abbrev wsX100 : List Cond := u_ws RX10 TX10 0
theorem nmX10 : ∀ a, a < 0 → ∀ b, b < 0 → a ≠ b → (TX10 a).2.1 ≠ (TX10 b).2.1 := by decide +kernel
theorem tyX10_ok : ∀ k, k < 0 → parseFieldDescriptor (TX10 k).2.2.1 = some (tyX10 k) := by decide +kernel
def RJ9 : String := "java/lang/Math"
def TJ9 : u_T := fun k => match k with
  | _ => ("", "", "", false)
def tyJ9 : Nat → FieldType := fun k => match k with
  | _ => .int
theorem nmJ9 : ∀ a, a < 0 → ∀ b, b < 0 → a ≠ b → (TJ9 a).2.1 ≠ (TJ9 b).2.1 := by decide +kernel
theorem tyJ9_ok : ∀ k, k < 0 → parseFieldDescriptor (TJ9 k).2.2.1 = some (tyJ9 k) := by decide +kernel
abbrev cJ9_max_7cf53 : ByteArray := prog_13_method_65_code
def yJ9_max_7cf53 : MethodName := ⟨RJ9, "max", "(II)I"⟩
abbrev cJ9_min_7cf53 : ByteArray := prog_13_method_69_code
def yJ9_min_7cf53 : MethodName := ⟨RJ9, "min", "(II)I"⟩
def RL : String := "PurserLedgersLaw"
abbrev cL_cell : ByteArray := method_2_code
def yL_cell : MethodName := ⟨RL, "cell", "([II)I"⟩
abbrev cL_low : ByteArray := method_3_code
def yL_low : MethodName := ⟨RL, "low", "(II)I"⟩
abbrev cL_earned : ByteArray := method_4_code
def yL_earned : MethodName := ⟨RL, "earned", "([I[II)I"⟩
abbrev cL_balance : ByteArray := method_5_code
def yL_balance : MethodName := ⟨RL, "balance", "([I[I[II)I"⟩
abbrev cL_spend : ByteArray := method_6_code
def yL_spend : MethodName := ⟨RL, "spend", "([II)V"⟩
abbrev cL_write : ByteArray := method_7_code
def yL_write : MethodName := ⟨RL, "write", "([I[IIII)V"⟩
abbrev cL_fine : ByteArray := method_8_code
def yL_fine : MethodName := ⟨RL, "fine", "([I[I[III)V"⟩
abbrev cL_pay : ByteArray := method_9_code
def yL_pay : MethodName := ⟨RL, "pay", "([I[I[III)V"⟩
abbrev cL_clear : ByteArray := method_10_code
def yL_clear : MethodName := ⟨RL, "clear", "([I[III)V"⟩
abbrev cL_why : ByteArray := method_11_code
def yL_why : MethodName := ⟨RL, "why", "([I[I[I[I[IIII)I"⟩
abbrev cL_people : ByteArray := method_12_code
def yL_people : MethodName := ⟨RL, "people", "(LPurserLedgers;II[I[I[I[I[I[I)Z"⟩
abbrev cL_ship : ByteArray := method_13_code
def yL_ship : MethodName := ⟨RL, "ship", "(LPurserLedgers;II[I[I[I[I[I[I)Z"⟩
abbrev cL_bits : ByteArray := method_14_code
def yL_bits : MethodName := ⟨RL, "bits", "(II)I"⟩
abbrev cL_areSailors : ByteArray := method_15_code
def yL_areSailors : MethodName := ⟨RL, "areSailors", "(LPurserLedgers;[I[I[I[I[I)Z"⟩
abbrev cL_isClear : ByteArray := method_16_code
def yL_isClear : MethodName := ⟨RL, "isClear", "(LPurserLedgers;I[I[I[I[I)Z"⟩
abbrev cL_isSo : ByteArray := method_17_code
def yL_isSo : MethodName := ⟨RL, "isSo", "(LPurserLedgers;[I[I[I[I[I[I)Z"⟩
abbrev cL_law : ByteArray := code
def yL_law : MethodName := ⟨RL, "law", "([I)Z"⟩
abbrev vwCl : List vw_C := [(RX0, TX0, 10), (RX1, TX1, 4), (RX2, TX2, 2), (RX3, TX3, 5), (RX4, TX4, 3), (RX5, TX5, 5), (RX6, TX6, 10), (RX7, TX7, 2), (RX8, TX8, 8), (RX9, TX9, 5)]
def wsL_law_r1 : List Cond := [Cond.classLink RL 31 RX9, Cond.instantiable RX9 5, Cond.initialized RX9, Cond.arrayClass .int, Cond.constant RL 33 (-1000002), Cond.constant RL 34 (-1000001), Cond.methodLink RL 137 yX9_init, Cond.instanceMethod yX9_init, Cond.code yX9_init cX9_init 1 none, Cond.methodLink RX9 1 objectInit, Cond.instanceMethod objectInit, Cond.code objectInit ⟨#[0xb1]⟩ 1 none, Cond.classLink RX9 7 RX0, Cond.instantiable RX0 10, Cond.initialized RX0, Cond.fieldLink RX9 10 "PurserLedgers" "now" "LPurserLedgers$Books;", Cond.fieldLink RX9 16 "PurserLedgers" "trial" "LPurserLedgers$Books;", Cond.classLink RX9 19 RX2, Cond.instantiable RX2 2, Cond.initialized RX2, Cond.fieldLink RX9 22 "PurserLedgers" "history" "LPurserLedgers$History;", Cond.classLink RX9 26 RX7, Cond.instantiable RX7 2, Cond.initialized RX7]
def wsL_law_r2 : List Cond := [Cond.fieldLink RX9 29 "PurserLedgers" "text" "LPurserLedgers$Text;", Cond.classLink RX9 33 RX5, Cond.instantiable RX5 5, Cond.initialized RX5, Cond.fieldLink RX9 36 "PurserLedgers" "rehearsal" "LPurserLedgers$Rehearsal;", Cond.methodLink RX9 9 yX0_init, Cond.instanceMethod yX0_init, Cond.code yX0_init cX0_init 2 none, Cond.methodLink RX0 3 objectInit, Cond.classLink RX0 9 RX6, Cond.fieldLink RX0 11 "PurserLedgers$Books" "crew" "[LPurserLedgers$Sailor;", Cond.instantiable RX6 10, Cond.initialized RX6, Cond.classLink RX0 18 RX3, Cond.fieldLink RX0 20 "PurserLedgers$Books" "chest" "[LPurserLedgers$Item;", Cond.instantiable RX3 5, Cond.initialized RX3, Cond.fieldLink RX0 29 "PurserLedgers$Books" "settings" "[I", Cond.classLink RX0 36 RX1, Cond.instantiable RX1 4, Cond.initialized RX1, Cond.fieldLink RX0 39 "PurserLedgers$Books" "entries" "LPurserLedgers$Entries;", Cond.classLink RX0 43 RX8, Cond.instantiable RX8 8]
def wsL_law_r3 : List Cond := [Cond.initialized RX8, Cond.fieldLink RX0 46 "PurserLedgers$Books" "totals" "LPurserLedgers$Totals;", Cond.instanceMethod yX6_init, Cond.code yX6_init cX6_init 1 none, Cond.methodLink RX6 3 objectInit, Cond.instanceMethod yX3_init, Cond.code yX3_init cX3_init 1 none, Cond.methodLink RX3 3 objectInit, Cond.static yX9_copyNumbers, Cond.code yX9_copyNumbers cX9_copyNumbers 3 none, Cond.methodLink RX0 38 yX1_init, Cond.instanceMethod yX1_init, Cond.code yX1_init cX1_init 1 none, Cond.methodLink RX1 3 objectInit, Cond.fieldLink RX1 9 "PurserLedgers$Entries" "sailors" "[I", Cond.fieldLink RX1 15 "PurserLedgers$Entries" "kinds" "[I", Cond.fieldLink RX1 18 "PurserLedgers$Entries" "coins" "[I", Cond.methodLink RX0 45 yX8_init, Cond.instanceMethod yX8_init, Cond.code yX8_init cX8_init 1 none, Cond.methodLink RX8 3 objectInit, Cond.fieldLink RX8 9 "PurserLedgers$Totals" "cash" "I", Cond.methodLink RX9 21 yX2_init, Cond.instanceMethod yX2_init]
def wsL_law_r4 : List Cond := [Cond.code yX2_init cX2_init 2 none, Cond.methodLink RX2 3 objectInit, Cond.classLink RX2 9 RX0, Cond.fieldLink RX2 11 "PurserLedgers$History" "states" "[LPurserLedgers$Books;", Cond.methodLink RX2 17 yX0_init, Cond.methodLink RX9 28 yX7_init, Cond.instanceMethod yX7_init, Cond.code yX7_init cX7_init 1 none, Cond.methodLink RX7 3 objectInit, Cond.fieldLink RX7 9 "PurserLedgers$Text" "characters" "[I", Cond.methodLink RX9 35 yX5_init, Cond.instanceMethod yX5_init, Cond.code yX5_init cX5_init 1 none, Cond.methodLink RX5 3 objectInit, Cond.classLink RX5 9 RX4, Cond.instantiable RX4 3, Cond.initialized RX4, Cond.fieldLink RX5 12 "PurserLedgers$Rehearsal" "order" "LPurserLedgers$Order;", Cond.methodLink RX5 11 yX4_init, Cond.instanceMethod yX4_init, Cond.code yX4_init cX4_init 1 none, Cond.methodLink RX4 3 objectInit, Cond.fieldLink RX4 9 "PurserLedgers$Order" "numbers" "[I", Cond.methodLink RL 138 yL_isSo]
def wsL_law_r5 : List Cond := [Cond.static yL_isSo, Cond.initialized RL, Cond.code yL_isSo cL_isSo 9 (some .boolean), Cond.constant RL 136 (100000), Cond.constant RL 113 (-1000004), Cond.methodLink RL 123 yX9_count, Cond.instanceMethod yX9_count, Cond.selects RX9 yX9_count yX9_count, Cond.code yX9_count cX9_count 2 (some .int), Cond.fieldLink RX9 136 "PurserLedgers$History" "kept" "I", Cond.fieldLink RX9 140 "PurserLedgers$Text" "length" "I", Cond.methodLink RX9 143 yX0_tell, Cond.instanceMethod yX0_tell, Cond.selects RX0 yX0_tell yX0_tell, Cond.code yX0_tell cX0_tell 2 (some .int), Cond.fieldLink RX0 67 "PurserLedgers$Books" "voyage" "I", Cond.fieldLink RX0 76 "PurserLedgers$Books" "atSea" "Z", Cond.fieldLink RX0 70 "PurserLedgers$Books" "voyageDays" "I", Cond.fieldLink RX0 73 "PurserLedgers$Books" "ports" "I", Cond.fieldLink RX0 63 "PurserLedgers$Books" "signed" "I", Cond.fieldLink RX0 244 "PurserLedgers$Entries" "kept" "I", Cond.methodLink RX0 183 yX0_setOf, Cond.instanceMethod yX0_setOf, Cond.selects RX0 yX0_setOf yX0_setOf]
def wsL_law_r6 : List Cond := [Cond.code yX0_setOf cX0_setOf 4 (some .int), Cond.fieldLink RX0 136 "PurserLedgers$Sailor" "whereabouts" "I", Cond.methodLink RX0 105 yX0_setting, Cond.instanceMethod yX0_setting, Cond.selects RX0 yX0_setting yX0_setting, Cond.code yX0_setting cX0_setting 2 (some .int), Cond.methodLink RX0 247 yX0_tellCoins, Cond.instanceMethod yX0_tellCoins, Cond.selects RX0 yX0_tellCoins yX0_tellCoins, Cond.code yX0_tellCoins cX0_tellCoins 2 (some .int), Cond.fieldLink RX0 159 "PurserLedgers$Totals" "cash" "I", Cond.fieldLink RX0 250 "PurserLedgers$Totals" "drawn" "I", Cond.fieldLink RX0 98 "PurserLedgers$Totals" "spent" "I", Cond.fieldLink RX0 156 "PurserLedgers$Totals" "advanced" "I", Cond.fieldLink RX0 202 "PurserLedgers$Totals" "paid" "I", Cond.fieldLink RX0 129 "PurserLedgers$Totals" "charged" "I", Cond.fieldLink RX0 173 "PurserLedgers$Totals" "fines" "I", Cond.constant RX0 253 (100000), Cond.fieldLink RX0 186 "PurserLedgers$Totals" "forfeit" "I", Cond.constant RX0 84 (-1000001), Cond.methodLink RL 126 yX9_item, Cond.instanceMethod yX9_item, Cond.selects RX9 yX9_item yX9_item, Cond.code yX9_item cX9_item 4 (some .int)]
def wsL_law_r7 : List Cond := [Cond.constant RX9 97 (-1000001), Cond.methodLink RX9 103 yX0_findItem, Cond.instanceMethod yX0_findItem, Cond.selects RX0 yX0_findItem yX0_findItem, Cond.code yX0_findItem cX0_findItem 2 (some (.object "PurserLedgers$Item")), Cond.methodLink RX9 107 yX3_tell, Cond.instanceMethod yX3_tell, Cond.selects RX3 yX3_tell yX3_tell, Cond.code yX3_tell cX3_tell 2 (some .int), Cond.fieldLink RX3 9 "PurserLedgers$Item" "inStock" "I", Cond.fieldLink RX3 15 "PurserLedgers$Item" "price" "I", Cond.fieldLink RX3 18 "PurserLedgers$Item" "bought" "I", Cond.fieldLink RX3 21 "PurserLedgers$Item" "sold" "I", Cond.fieldLink RX3 24 "PurserLedgers$Item" "charged" "I", Cond.constant RX3 27 (-1000001), Cond.methodLink RL 129 yX9_book, Cond.instanceMethod yX9_book, Cond.selects RX9 yX9_book yX9_book, Cond.code yX9_book cX9_book 3 (some .int), Cond.fieldLink RX9 110 "PurserLedgers$Books" "entries" "LPurserLedgers$Entries;", Cond.methodLink RX9 114 yX1_tell, Cond.instanceMethod yX1_tell, Cond.selects RX1 yX1_tell yX1_tell, Cond.code yX1_tell cX1_tell 3 (some .int)]
def wsL_law_r8 : List Cond := [Cond.constant RX1 37 (-1000001), Cond.fieldLink RX1 25 "PurserLedgers$Entries" "kept" "I", Cond.constant RX1 38 (-1000004), Cond.static yX9_within, Cond.code yX9_within cX9_within 3 (some .boolean), Cond.methodLink RX1 39 yX1_numberAt, Cond.static yX1_numberAt, Cond.code yX1_numberAt cX1_numberAt 2 (some .int), Cond.methodLink RL 132 yL_areSailors, Cond.static yL_areSailors, Cond.code yL_areSailors cL_areSailors 17 (some .boolean), Cond.methodLink RL 23 yL_balance, Cond.static yL_balance, Cond.code yL_balance cL_balance 4 (some .int), Cond.methodLink RL 9 yL_earned, Cond.static yL_earned, Cond.code yL_earned cL_earned 5 (some .int), Cond.methodLink RL 101 yX9_sailor, Cond.instanceMethod yX9_sailor, Cond.selects RX9 yX9_sailor yX9_sailor, Cond.code yX9_sailor cX9_sailor 4 (some .int), Cond.methodLink RX9 93 yX0_findSailor, Cond.instanceMethod yX0_findSailor, Cond.selects RX0 yX0_findSailor yX0_findSailor]
def wsL_law_r9 : List Cond := [Cond.code yX0_findSailor cX0_findSailor 2 (some (.object "PurserLedgers$Sailor")), Cond.methodLink RX9 98 yX6_tell, Cond.instanceMethod yX6_tell, Cond.selects RX6 yX6_tell yX6_tell, Cond.code yX6_tell cX6_tell 2 (some .int), Cond.fieldLink RX6 9 "PurserLedgers$Sailor" "rank" "I", Cond.fieldLink RX6 15 "PurserLedgers$Sailor" "watch" "I", Cond.fieldLink RX6 18 "PurserLedgers$Sailor" "whereabouts" "I", Cond.fieldLink RX6 21 "PurserLedgers$Sailor" "seaDays" "I", Cond.fieldLink RX6 24 "PurserLedgers$Sailor" "portDays" "I", Cond.fieldLink RX6 27 "PurserLedgers$Sailor" "bought" "I", Cond.fieldLink RX6 30 "PurserLedgers$Sailor" "fines" "I", Cond.fieldLink RX6 33 "PurserLedgers$Sailor" "advances" "I", Cond.fieldLink RX6 36 "PurserLedgers$Sailor" "debt" "I", Cond.fieldLink RX6 39 "PurserLedgers$Sailor" "paid" "I", Cond.constant RX6 64 (-1000001), Cond.methodLink RX6 58 yX6_balance, Cond.instanceMethod yX6_balance, Cond.selects RX6 yX6_balance yX6_balance, Cond.code yX6_balance cX6_balance 1 (some .int), Cond.methodLink RX6 50 yX6_wages, Cond.instanceMethod yX6_wages, Cond.selects RX6 yX6_wages yX6_wages, Cond.code yX6_wages cX6_wages 3 (some .int)]
def wsL_law_r10 : List Cond := [Cond.methodLink RX6 54 yX6_charged, Cond.instanceMethod yX6_charged, Cond.selects RX6 yX6_charged yX6_charged, Cond.code yX6_charged cX6_charged 1 (some .int), Cond.methodLink RX6 61 yX6_earned, Cond.instanceMethod yX6_earned, Cond.selects RX6 yX6_earned yX6_earned, Cond.code yX6_earned cX6_earned 1 (some .int), Cond.methodLink RL 43 yL_why, Cond.static yL_why, Cond.code yL_why cL_why 8 (some .int), Cond.methodLink RL 104 yX9_most, Cond.instanceMethod yX9_most, Cond.selects RX9 yX9_most yX9_most, Cond.code yX9_most cX9_most 3 (some .int), Cond.methodLink RX9 121 yX0_couldBuy, Cond.instanceMethod yX0_couldBuy, Cond.selects RX0 yX0_couldBuy yX0_couldBuy, Cond.code yX0_couldBuy cX0_couldBuy 6 (some .int), Cond.fieldLink RX0 112 "PurserLedgers$Item" "price" "I", Cond.fieldLink RX0 95 "PurserLedgers$Item" "inStock" "I", Cond.methodLink RX0 143 Lib.Math.min.name, Cond.static Lib.Math.min.name, Cond.initialized "java/lang/Math"]
def wsL_law_r11 : List Cond := [Cond.code Lib.Math.min.name Lib.Math.min.code 2 (some .int), Cond.methodLink RX0 115 yX0_findSailor, Cond.methodLink RX0 91 yX0_findItem, Cond.methodLink RX0 139 yX6_balance, Cond.methodLink RL 107 yX9_poorest, Cond.instanceMethod yX9_poorest, Cond.selects RX9 yX9_poorest yX9_poorest, Cond.code yX9_poorest cX9_poorest 2 (some .int), Cond.methodLink RX9 130 yX0_sailorByBalance, Cond.instanceMethod yX0_sailorByBalance, Cond.selects RX0 yX0_sailorByBalance yX0_sailorByBalance, Cond.code yX0_sailorByBalance cX0_sailorByBalance 3 (some .int), Cond.constant RX0 218 (-1000004), Cond.methodLink RX0 149 yX6_isGone, Cond.instanceMethod yX6_isGone, Cond.selects RX6 yX6_isGone yX6_isGone, Cond.code yX6_isGone cX6_isGone 1 (some .boolean), Cond.methodLink RX0 234 yX0_poorerThan, Cond.instanceMethod yX0_poorerThan, Cond.selects RX0 yX0_poorerThan yX0_poorerThan, Cond.code yX0_poorerThan cX0_poorerThan 6 (some .int), Cond.methodLink RL 110 yX9_share, Cond.instanceMethod yX9_share, Cond.selects RX9 yX9_share yX9_share]
def wsL_law_r12 : List Cond := [Cond.code yX9_share cX9_share 1 (some .int), Cond.methodLink RX9 133 yX0_chargedShare, Cond.instanceMethod yX0_chargedShare, Cond.selects RX0 yX0_chargedShare yX0_chargedShare, Cond.code yX0_chargedShare cX0_chargedShare 4 (some .int), Cond.methodLink RX0 237 yX6_earned, Cond.methodLink RX0 212 yX6_charged, Cond.static yX9_bitsOf, Cond.code yX9_bitsOf cX9_bitsOf 4 (some .int), Cond.constantFloat RX9 180 (1258291200), Cond.methodLink RL 114 yL_bits, Cond.static yL_bits, Cond.code yL_bits cL_bits 7 (some .int), Cond.constantLong RL 97 (8388608), Cond.constantLong RL 99 (2), Cond.methodLink RL 117 yX9_ifPaidOff, Cond.instanceMethod yX9_ifPaidOff, Cond.selects RX9 yX9_ifPaidOff yX9_ifPaidOff, Cond.code yX9_ifPaidOff cX9_ifPaidOff 2 (some .int), Cond.methodLink RX9 127 yX0_tellPayingOff, Cond.instanceMethod yX0_tellPayingOff, Cond.selects RX0 yX0_tellPayingOff yX0_tellPayingOff, Cond.code yX0_tellPayingOff cX0_tellPayingOff 2 (some .int), Cond.methodLink RX0 219 yX0_wouldBePaid]
def wsL_law_r13 : List Cond := [Cond.instanceMethod yX0_wouldBePaid, Cond.selects RX0 yX0_wouldBePaid yX0_wouldBePaid, Cond.code yX0_wouldBePaid cX0_wouldBePaid 3 (some .int), Cond.methodLink RX0 231 Lib.Math.max.name, Cond.static Lib.Math.max.name, Cond.code Lib.Math.max.name Lib.Math.max.code 2 (some .int), Cond.methodLink RX0 222 yX8_missingFor, Cond.instanceMethod yX8_missingFor, Cond.selects RX8 yX8_missingFor yX8_missingFor, Cond.code yX8_missingFor cX8_missingFor 2 (some .int), Cond.methodLink RX0 225 yX0_debtsTogether, Cond.instanceMethod yX0_debtsTogether, Cond.selects RX0 yX0_debtsTogether yX0_debtsTogether, Cond.code yX0_debtsTogether cX0_debtsTogether 3 (some .int), Cond.methodLink RX0 228 yX0_setOfDebtors, Cond.instanceMethod yX0_setOfDebtors, Cond.selects RX0 yX0_setOfDebtors yX0_setOfDebtors, Cond.code yX0_setOfDebtors cX0_setOfDebtors 3 (some .int), Cond.methodLink RL 142 yX9_undo, Cond.instanceMethod yX9_undo, Cond.selects RX9 yX9_undo yX9_undo, Cond.code yX9_undo cX9_undo 1 (some .int), Cond.methodLink RX9 144 yX2_restoreInto, Cond.instanceMethod yX2_restoreInto]
def wsL_law_r14 : List Cond := [Cond.selects RX2 yX2_restoreInto yX2_restoreInto, Cond.code yX2_restoreInto cX2_restoreInto 5 (some .int), Cond.fieldLink RX2 22 "PurserLedgers$History" "kept" "I", Cond.constant RX2 26 (-1000002), Cond.methodLink RX2 18 yX0_copyFrom, Cond.instanceMethod yX0_copyFrom, Cond.selects RX0 yX0_copyFrom yX0_copyFrom, Cond.code yX0_copyFrom cX0_copyFrom 3 none, Cond.methodLink RX0 50 yX6_copyFrom, Cond.instanceMethod yX6_copyFrom, Cond.selects RX6 yX6_copyFrom yX6_copyFrom, Cond.code yX6_copyFrom cX6_copyFrom 2 none, Cond.methodLink RX0 54 yX3_copyFrom, Cond.instanceMethod yX3_copyFrom, Cond.selects RX3 yX3_copyFrom yX3_copyFrom, Cond.code yX3_copyFrom cX3_copyFrom 2 none, Cond.methodLink RX0 57 yX1_copyFrom, Cond.instanceMethod yX1_copyFrom, Cond.selects RX1 yX1_copyFrom yX1_copyFrom, Cond.code yX1_copyFrom cX1_copyFrom 2 none, Cond.methodLink RX0 60 yX8_copyFrom, Cond.instanceMethod yX8_copyFrom, Cond.selects RX8 yX8_copyFrom yX8_copyFrom, Cond.code yX8_copyFrom cX8_copyFrom 2 none]
def wsL_law_r15 : List Cond := [Cond.fieldLink RX8 15 "PurserLedgers$Totals" "drawn" "I", Cond.fieldLink RX8 18 "PurserLedgers$Totals" "spent" "I", Cond.fieldLink RX8 21 "PurserLedgers$Totals" "advanced" "I", Cond.fieldLink RX8 24 "PurserLedgers$Totals" "paid" "I", Cond.fieldLink RX8 27 "PurserLedgers$Totals" "charged" "I", Cond.fieldLink RX8 30 "PurserLedgers$Totals" "fines" "I", Cond.fieldLink RX8 33 "PurserLedgers$Totals" "forfeit" "I", Cond.methodLink RL 91 yX9_payOff, Cond.instanceMethod yX9_payOff, Cond.selects RX9 yX9_payOff yX9_payOff, Cond.code yX9_payOff cX9_payOff 1 (some .int), Cond.methodLink RX9 40 yX9_newTrial, Cond.instanceMethod yX9_newTrial, Cond.selects RX9 yX9_newTrial yX9_newTrial, Cond.code yX9_newTrial cX9_newTrial 1 (some (.object "PurserLedgers$Books")), Cond.methodLink RX9 173 yX0_copyFrom, Cond.methodLink RX9 87 yX0_endVoyage, Cond.instanceMethod yX0_endVoyage, Cond.selects RX0 yX0_endVoyage yX0_endVoyage, Cond.code yX0_endVoyage cX0_endVoyage 4 (some .int), Cond.constant RX0 85 (-1000002), Cond.methodLink RX0 196 yX0_payTo, Cond.instanceMethod yX0_payTo, Cond.selects RX0 yX0_payTo yX0_payTo]
def wsL_law_r16 : List Cond := [Cond.code yX0_payTo cX0_payTo 4 none, Cond.fieldLink RX0 199 "PurserLedgers$Sailor" "paid" "I", Cond.methodLink RX0 101 yX8_takeCash, Cond.instanceMethod yX8_takeCash, Cond.selects RX8 yX8_takeCash yX8_takeCash, Cond.code yX8_takeCash cX8_takeCash 3 none, Cond.methodLink RX8 36 yX8_missingFor, Cond.methodLink RX0 132 yX1_enter, Cond.instanceMethod yX1_enter, Cond.selects RX1 yX1_enter yX1_enter, Cond.code yX1_enter cX1_enter 4 none, Cond.methodLink RX1 29 yX1_putAhead, Cond.static yX1_putAhead, Cond.code yX1_putAhead cX1_putAhead 3 none, Cond.methodLink RX0 203 yX6_beginVoyage, Cond.instanceMethod yX6_beginVoyage, Cond.selects RX6 yX6_beginVoyage yX6_beginVoyage, Cond.code yX6_beginVoyage cX6_beginVoyage 2 none, Cond.methodLink RX9 48 yX9_settleTrial, Cond.instanceMethod yX9_settleTrial, Cond.selects RX9 yX9_settleTrial yX9_settleTrial, Cond.code yX9_settleTrial cX9_settleTrial 2 (some .int), Cond.methodLink RX9 177 yX2_record, Cond.instanceMethod yX2_record]
def wsL_law_r17 : List Cond := [Cond.selects RX2 yX2_record yX2_record, Cond.code yX2_record cX2_record 5 none, Cond.methodLink RL 145 yL_cell, Cond.static yL_cell, Cond.code yL_cell cL_cell 2 (some .int), Cond.constant RL 7 (-1101764913), Cond.methodLink RL 149 yL_ship, Cond.static yL_ship, Cond.code yL_ship cL_ship 16 (some .boolean), Cond.constant RL 38 (-1000003), Cond.methodLink RL 27 yL_low, Cond.static yL_low, Cond.code yL_low cL_low 2 (some .int), Cond.constant RL 8 (2147483647), Cond.methodLink RL 75 yX9_stock, Cond.instanceMethod yX9_stock, Cond.selects RX9 yX9_stock yX9_stock, Cond.code yX9_stock cX9_stock 4 (some .int), Cond.methodLink RX9 52 yX0_buyForChest, Cond.instanceMethod yX0_buyForChest, Cond.selects RX0 yX0_buyForChest yX0_buyForChest, Cond.code yX0_buyForChest cX0_buyForChest 5 (some .int), Cond.constant RX0 86 (-1000003), Cond.methodLink RX0 109 yX3_takeIn]
def wsL_law_r18 : List Cond := [Cond.instanceMethod yX3_takeIn, Cond.selects RX3 yX3_takeIn yX3_takeIn, Cond.code yX3_takeIn cX3_takeIn 3 none, Cond.methodLink RL 19 yL_spend, Cond.static yL_spend, Cond.code yL_spend cL_spend 3 none, Cond.methodLink RL 78 yX9_days, Cond.instanceMethod yX9_days, Cond.selects RX9 yX9_days yX9_days, Cond.code yX9_days cX9_days 2 (some .int), Cond.methodLink RX9 81 yX0_passDays, Cond.instanceMethod yX0_passDays, Cond.selects RX0 yX0_passDays yX0_passDays, Cond.code yX0_passDays cX0_passDays 3 (some .int), Cond.methodLink RX0 192 yX6_passDays, Cond.instanceMethod yX6_passDays, Cond.selects RX6 yX6_passDays yX6_passDays, Cond.code yX6_passDays cX6_passDays 3 none, Cond.methodLink RL 81 yX9_leave, Cond.instanceMethod yX9_leave, Cond.selects RX9 yX9_leave yX9_leave, Cond.code yX9_leave cX9_leave 2 (some .int), Cond.methodLink RX9 68 yX0_letAshore, Cond.instanceMethod yX0_letAshore]
def wsL_law_r19 : List Cond := [Cond.selects RX0 yX0_letAshore yX0_letAshore, Cond.code yX0_letAshore cX0_letAshore 4 (some .int), Cond.methodLink RX0 180 yX6_isOfWatch, Cond.instanceMethod yX6_isOfWatch, Cond.selects RX6 yX6_isOfWatch yX6_isOfWatch, Cond.code yX6_isOfWatch cX6_isOfWatch 2 (some .boolean), Cond.methodLink RX6 46 yX6_isGone, Cond.methodLink RL 84 yX9_sail, Cond.instanceMethod yX9_sail, Cond.selects RX9 yX9_sail yX9_sail, Cond.code yX9_sail cX9_sail 1 (some .int), Cond.methodLink RX9 74 yX0_putToSea, Cond.instanceMethod yX0_putToSea, Cond.selects RX0 yX0_putToSea yX0_putToSea, Cond.code yX0_putToSea cX0_putToSea 3 (some .int), Cond.methodLink RX0 189 yX6_goAway, Cond.instanceMethod yX6_goAway, Cond.selects RX6 yX6_goAway yX6_goAway, Cond.code yX6_goAway cX6_goAway 1 none, Cond.methodLink RX6 42 yX6_beginVoyage, Cond.methodLink RL 88 yX9_port, Cond.instanceMethod yX9_port, Cond.selects RX9 yX9_port yX9_port, Cond.code yX9_port cX9_port 1 (some .int)]
def wsL_law_r20 : List Cond := [Cond.methodLink RX9 78 yX0_comeIntoPort, Cond.instanceMethod yX0_comeIntoPort, Cond.selects RX0 yX0_comeIntoPort yX0_comeIntoPort, Cond.code yX0_comeIntoPort cX0_comeIntoPort 1 (some .int), Cond.methodLink RL 39 yL_clear, Cond.static yL_clear, Cond.code yL_clear cL_clear 5 none, Cond.methodLink RL 69 yL_pay, Cond.static yL_pay, Cond.code yL_pay cL_pay 5 none, Cond.methodLink RL 15 yL_write, Cond.static yL_write, Cond.code yL_write cL_write 6 none, Cond.methodLink RL 94 yX9_set, Cond.instanceMethod yX9_set, Cond.selects RX9 yX9_set yX9_set, Cond.code yX9_set cX9_set 3 (some .int), Cond.methodLink RX9 90 yX0_changeSetting, Cond.instanceMethod yX0_changeSetting, Cond.selects RX0 yX0_changeSetting yX0_changeSetting, Cond.code yX0_changeSetting cX0_changeSetting 4 (some .int), Cond.methodLink RL 153 yL_people, Cond.static yL_people, Cond.code yL_people cL_people 21 (some .boolean)]
def wsL_law_r21 : List Cond := [Cond.methodLink RL 35 yX9_sign, Cond.instanceMethod yX9_sign, Cond.selects RX9 yX9_sign yX9_sign, Cond.code yX9_sign cX9_sign 3 (some .int), Cond.methodLink RX9 44 yX0_signOn, Cond.instanceMethod yX0_signOn, Cond.selects RX0 yX0_signOn yX0_signOn, Cond.code yX0_signOn cX0_signOn 4 (some .int), Cond.methodLink RX0 87 yX6_comeAboard, Cond.instanceMethod yX6_comeAboard, Cond.selects RX6 yX6_comeAboard yX6_comeAboard, Cond.code yX6_comeAboard cX6_comeAboard 3 none, Cond.methodLink RL 47 yX9_sell, Cond.instanceMethod yX9_sell, Cond.selects RX9 yX9_sell yX9_sell, Cond.code yX9_sell cX9_sell 4 (some .int), Cond.methodLink RX9 56 yX0_sellFromChest, Cond.instanceMethod yX0_sellFromChest, Cond.selects RX0 yX0_sellFromChest yX0_sellFromChest, Cond.code yX0_sellFromChest cX0_sellFromChest 7 (some .int), Cond.fieldLink RX0 126 "PurserLedgers$Sailor" "bought" "I", Cond.methodLink RX0 119 yX0_reasonAgainst, Cond.instanceMethod yX0_reasonAgainst, Cond.selects RX0 yX0_reasonAgainst yX0_reasonAgainst]
def wsL_law_r22 : List Cond := [Cond.code yX0_reasonAgainst cX0_reasonAgainst 4 (some .int), Cond.methodLink RX0 123 yX3_giveOut, Cond.instanceMethod yX3_giveOut, Cond.selects RX3 yX3_giveOut yX3_giveOut, Cond.code yX3_giveOut cX3_giveOut 3 none, Cond.methodLink RL 51 yX9_why, Cond.instanceMethod yX9_why, Cond.selects RX9 yX9_why yX9_why, Cond.code yX9_why cX9_why 4 (some .int), Cond.methodLink RX9 118 yX0_reasonNotToSell, Cond.instanceMethod yX0_reasonNotToSell, Cond.selects RX0 yX0_reasonNotToSell yX0_reasonNotToSell, Cond.code yX0_reasonNotToSell cX0_reasonNotToSell 6 (some .int), Cond.methodLink RL 53 yX9_advance, Cond.instanceMethod yX9_advance, Cond.selects RX9 yX9_advance yX9_advance, Cond.code yX9_advance cX9_advance 3 (some .int), Cond.methodLink RX9 59 yX0_advanceTo, Cond.instanceMethod yX0_advanceTo, Cond.selects RX0 yX0_advanceTo yX0_advanceTo, Cond.code yX0_advanceTo cX0_advanceTo 4 (some .int), Cond.fieldLink RX0 153 "PurserLedgers$Sailor" "advances" "I", Cond.methodLink RL 56 yX9_fine, Cond.instanceMethod yX9_fine]
def wsL_law_r23 : List Cond := [Cond.selects RX9 yX9_fine yX9_fine, Cond.code yX9_fine cX9_fine 3 (some .int), Cond.methodLink RX9 62 yX0_fineOne, Cond.instanceMethod yX0_fineOne, Cond.selects RX0 yX0_fineOne yX0_fineOne, Cond.code yX0_fineOne cX0_fineOne 4 (some .int), Cond.methodLink RX0 162 yX6_couldBeFined, Cond.instanceMethod yX6_couldBeFined, Cond.selects RX6 yX6_couldBeFined yX6_couldBeFined, Cond.code yX6_couldBeFined cX6_couldBeFined 2 (some .boolean), Cond.methodLink RX0 166 yX0_chargeFine, Cond.instanceMethod yX0_chargeFine, Cond.selects RX0 yX0_chargeFine yX0_chargeFine, Cond.code yX0_chargeFine cX0_chargeFine 4 none, Cond.fieldLink RX0 170 "PurserLedgers$Sailor" "fines" "I", Cond.methodLink RL 59 yL_fine, Cond.static yL_fine, Cond.code yL_fine cL_fine 5 none, Cond.methodLink RL 62 yX9_fineWatch, Cond.instanceMethod yX9_fineWatch, Cond.selects RX9 yX9_fineWatch yX9_fineWatch, Cond.code yX9_fineWatch cX9_fineWatch 3 (some .int), Cond.methodLink RX9 65 yX0_fineAll, Cond.instanceMethod yX0_fineAll]
def wsL_law_r24 : List Cond := [Cond.selects RX0 yX0_fineAll yX0_fineAll, Cond.code yX0_fineAll cX0_fineAll 7 (some .int), Cond.methodLink RX0 174 yX0_sizeOfWatch, Cond.instanceMethod yX0_sizeOfWatch, Cond.selects RX0 yX0_sizeOfWatch yX0_sizeOfWatch, Cond.code yX0_sizeOfWatch cX0_sizeOfWatch 4 (some .int), Cond.methodLink RX0 177 yX0_couldAllBeFined, Cond.instanceMethod yX0_couldAllBeFined, Cond.selects RX0 yX0_couldAllBeFined yX0_couldAllBeFined, Cond.code yX0_couldAllBeFined cX0_couldAllBeFined 6 (some .boolean), Cond.methodLink RL 65 yX9_dismiss, Cond.instanceMethod yX9_dismiss, Cond.selects RX9 yX9_dismiss yX9_dismiss, Cond.code yX9_dismiss cX9_dismiss 2 (some .int), Cond.methodLink RX9 84 yX0_sendAway, Cond.instanceMethod yX0_sendAway, Cond.selects RX0 yX0_sendAway yX0_sendAway, Cond.code yX0_sendAway cX0_sendAway 4 (some .int), Cond.methodLink RL 72 yX9_back, Cond.instanceMethod yX9_back, Cond.selects RX9 yX9_back yX9_back, Cond.code yX9_back cX9_back 3 (some .int), Cond.methodLink RX9 71 yX0_comeBack, Cond.instanceMethod yX0_comeBack]
def wsL_law_r25 : List Cond := [Cond.selects RX0 yX0_comeBack yX0_comeBack, Cond.code yX0_comeBack cX0_comeBack 5 (some .int), Cond.methodLink RL 156 yL_isClear, Cond.static yL_isClear, Cond.code yL_isClear cL_isClear 9 (some .boolean), Cond.methodLink RL 120 yX9_clearIn, Cond.instanceMethod yX9_clearIn, Cond.selects RX9 yX9_clearIn yX9_clearIn, Cond.code yX9_clearIn cX9_clearIn 2 (some .int), Cond.methodLink RX9 124 yX0_daysUntilClear, Cond.instanceMethod yX0_daysUntilClear, Cond.selects RX0 yX0_daysUntilClear yX0_daysUntilClear, Cond.code yX0_daysUntilClear cX0_daysUntilClear 5 (some .int), Cond.fieldLink RX0 209 "PurserLedgers$Sailor" "debt" "I", Cond.methodLink RX0 214 yX6_earnedAfter, Cond.instanceMethod yX6_earnedAfter, Cond.selects RX6 yX6_earnedAfter yX6_earnedAfter, Cond.code yX6_earnedAfter cX6_earnedAfter 3 (some .int)]
def wsL_law : List Cond := (wsL_law_r1 ++ (wsL_law_r2 ++ (wsL_law_r3 ++ (wsL_law_r4 ++ (wsL_law_r5 ++ (wsL_law_r6 ++ (wsL_law_r7 ++ (wsL_law_r8 ++ (wsL_law_r9 ++ (wsL_law_r10 ++ (wsL_law_r11 ++ (wsL_law_r12 ++ (wsL_law_r13 ++ (wsL_law_r14 ++ (wsL_law_r15 ++ (wsL_law_r16 ++ (wsL_law_r17 ++ (wsL_law_r18 ++ (wsL_law_r19 ++ (wsL_law_r20 ++ (wsL_law_r21 ++ (wsL_law_r22 ++ (wsL_law_r23 ++ (wsL_law_r24 ++ wsL_law_r25)))))))))))))))))))))))) ++ wsX90 ++ wsX00 ++ wsX20 ++ wsX70 ++ wsX50 ++ wsX60 ++ wsX30 ++ wsX10 ++ wsX80 ++ wsX40 ++ ([] : List Cond)
theorem inlX0 : ∀ w ∈ wsX00, w ∈ wsL_law := fun _ h => List.mem_append_left _ (List.mem_append_left _ (List.mem_append_left _ (List.mem_append_left _ (List.mem_append_left _ (List.mem_append_left _ (List.mem_append_left _ (List.mem_append_left _ (List.mem_append_left _ (List.mem_append_right _ h)))))))))
theorem inlX1 : ∀ w ∈ wsX10, w ∈ wsL_law := fun _ h => List.mem_append_left _ (List.mem_append_left _ (List.mem_append_left _ (List.mem_append_right _ h)))
theorem inlX2 : ∀ w ∈ wsX20, w ∈ wsL_law := fun _ h => List.mem_append_left _ (List.mem_append_left _ (List.mem_append_left _ (List.mem_append_left _ (List.mem_append_left _ (List.mem_append_left _ (List.mem_append_left _ (List.mem_append_left _ (List.mem_append_right _ h))))))))
theorem inlX3 : ∀ w ∈ wsX30, w ∈ wsL_law := fun _ h => List.mem_append_left _ (List.mem_append_left _ (List.mem_append_left _ (List.mem_append_left _ (List.mem_append_right _ h))))
theorem inlX4 : ∀ w ∈ wsX40, w ∈ wsL_law := fun _ h => List.mem_append_left _ (List.mem_append_right _ h)
theorem inlX5 : ∀ w ∈ wsX50, w ∈ wsL_law := fun _ h => List.mem_append_left _ (List.mem_append_left _ (List.mem_append_left _ (List.mem_append_left _ (List.mem_append_left _ (List.mem_append_left _ (List.mem_append_right _ h))))))
theorem inlX6 : ∀ w ∈ wsX60, w ∈ wsL_law := fun _ h => List.mem_append_left _ (List.mem_append_left _ (List.mem_append_left _ (List.mem_append_left _ (List.mem_append_left _ (List.mem_append_right _ h)))))
theorem inlX7 : ∀ w ∈ wsX70, w ∈ wsL_law := fun _ h => List.mem_append_left _ (List.mem_append_left _ (List.mem_append_left _ (List.mem_append_left _ (List.mem_append_left _ (List.mem_append_left _ (List.mem_append_left _ (List.mem_append_right _ h)))))))
theorem inlX8 : ∀ w ∈ wsX80, w ∈ wsL_law := fun _ h => List.mem_append_left _ (List.mem_append_left _ (List.mem_append_right _ h))
theorem inlX9 : ∀ w ∈ wsX90, w ∈ wsL_law := fun _ h => List.mem_append_left _ (List.mem_append_left _ (List.mem_append_left _ (List.mem_append_left _ (List.mem_append_left _ (List.mem_append_left _ (List.mem_append_left _ (List.mem_append_left _ (List.mem_append_left _ (List.mem_append_left _ (List.mem_append_right _ h))))))))))
theorem in_r1 : ∀ w ∈ wsL_law_r1, w ∈ wsL_law := fun _ h => (List.mem_append_left _ (List.mem_append_left _ (List.mem_append_left _ (List.mem_append_left _ (List.mem_append_left _ (List.mem_append_left _ (List.mem_append_left _ (List.mem_append_left _ (List.mem_append_left _ (List.mem_append_left _ (List.mem_append_left _ (List.mem_append_left _ h))))))))))))
theorem in_r2 : ∀ w ∈ wsL_law_r2, w ∈ wsL_law := fun _ h => (List.mem_append_left _ (List.mem_append_left _ (List.mem_append_left _ (List.mem_append_left _ (List.mem_append_left _ (List.mem_append_left _ (List.mem_append_left _ (List.mem_append_left _ (List.mem_append_left _ (List.mem_append_left _ (List.mem_append_left _ (List.mem_append_right _ (List.mem_append_left _ h)))))))))))))
theorem in_r3 : ∀ w ∈ wsL_law_r3, w ∈ wsL_law := fun _ h => (List.mem_append_left _ (List.mem_append_left _ (List.mem_append_left _ (List.mem_append_left _ (List.mem_append_left _ (List.mem_append_left _ (List.mem_append_left _ (List.mem_append_left _ (List.mem_append_left _ (List.mem_append_left _ (List.mem_append_left _ (List.mem_append_right _ (List.mem_append_right _ (List.mem_append_left _ h))))))))))))))
theorem in_r4 : ∀ w ∈ wsL_law_r4, w ∈ wsL_law := fun _ h => (List.mem_append_left _ (List.mem_append_left _ (List.mem_append_left _ (List.mem_append_left _ (List.mem_append_left _ (List.mem_append_left _ (List.mem_append_left _ (List.mem_append_left _ (List.mem_append_left _ (List.mem_append_left _ (List.mem_append_left _ (List.mem_append_right _ (List.mem_append_right _ (List.mem_append_right _ (List.mem_append_left _ h)))))))))))))))
theorem in_r5 : ∀ w ∈ wsL_law_r5, w ∈ wsL_law := fun _ h => (List.mem_append_left _ (List.mem_append_left _ (List.mem_append_left _ (List.mem_append_left _ (List.mem_append_left _ (List.mem_append_left _ (List.mem_append_left _ (List.mem_append_left _ (List.mem_append_left _ (List.mem_append_left _ (List.mem_append_left _ (List.mem_append_right _ (List.mem_append_right _ (List.mem_append_right _ (List.mem_append_right _ (List.mem_append_left _ h))))))))))))))))
theorem in_r6 : ∀ w ∈ wsL_law_r6, w ∈ wsL_law := fun _ h => (List.mem_append_left _ (List.mem_append_left _ (List.mem_append_left _ (List.mem_append_left _ (List.mem_append_left _ (List.mem_append_left _ (List.mem_append_left _ (List.mem_append_left _ (List.mem_append_left _ (List.mem_append_left _ (List.mem_append_left _ (List.mem_append_right _ (List.mem_append_right _ (List.mem_append_right _ (List.mem_append_right _ (List.mem_append_right _ (List.mem_append_left _ h)))))))))))))))))
theorem in_r7 : ∀ w ∈ wsL_law_r7, w ∈ wsL_law := fun _ h => (List.mem_append_left _ (List.mem_append_left _ (List.mem_append_left _ (List.mem_append_left _ (List.mem_append_left _ (List.mem_append_left _ (List.mem_append_left _ (List.mem_append_left _ (List.mem_append_left _ (List.mem_append_left _ (List.mem_append_left _ (List.mem_append_right _ (List.mem_append_right _ (List.mem_append_right _ (List.mem_append_right _ (List.mem_append_right _ (List.mem_append_right _ (List.mem_append_left _ h))))))))))))))))))
theorem in_r8 : ∀ w ∈ wsL_law_r8, w ∈ wsL_law := fun _ h => (List.mem_append_left _ (List.mem_append_left _ (List.mem_append_left _ (List.mem_append_left _ (List.mem_append_left _ (List.mem_append_left _ (List.mem_append_left _ (List.mem_append_left _ (List.mem_append_left _ (List.mem_append_left _ (List.mem_append_left _ (List.mem_append_right _ (List.mem_append_right _ (List.mem_append_right _ (List.mem_append_right _ (List.mem_append_right _ (List.mem_append_right _ (List.mem_append_right _ (List.mem_append_left _ h)))))))))))))))))))
theorem in_r9 : ∀ w ∈ wsL_law_r9, w ∈ wsL_law := fun _ h => (List.mem_append_left _ (List.mem_append_left _ (List.mem_append_left _ (List.mem_append_left _ (List.mem_append_left _ (List.mem_append_left _ (List.mem_append_left _ (List.mem_append_left _ (List.mem_append_left _ (List.mem_append_left _ (List.mem_append_left _ (List.mem_append_right _ (List.mem_append_right _ (List.mem_append_right _ (List.mem_append_right _ (List.mem_append_right _ (List.mem_append_right _ (List.mem_append_right _ (List.mem_append_right _ (List.mem_append_left _ h))))))))))))))))))))
theorem in_r10 : ∀ w ∈ wsL_law_r10, w ∈ wsL_law := fun _ h => (List.mem_append_left _ (List.mem_append_left _ (List.mem_append_left _ (List.mem_append_left _ (List.mem_append_left _ (List.mem_append_left _ (List.mem_append_left _ (List.mem_append_left _ (List.mem_append_left _ (List.mem_append_left _ (List.mem_append_left _ (List.mem_append_right _ (List.mem_append_right _ (List.mem_append_right _ (List.mem_append_right _ (List.mem_append_right _ (List.mem_append_right _ (List.mem_append_right _ (List.mem_append_right _ (List.mem_append_right _ (List.mem_append_left _ h)))))))))))))))))))))
theorem in_r11 : ∀ w ∈ wsL_law_r11, w ∈ wsL_law := fun _ h => (List.mem_append_left _ (List.mem_append_left _ (List.mem_append_left _ (List.mem_append_left _ (List.mem_append_left _ (List.mem_append_left _ (List.mem_append_left _ (List.mem_append_left _ (List.mem_append_left _ (List.mem_append_left _ (List.mem_append_left _ (List.mem_append_right _ (List.mem_append_right _ (List.mem_append_right _ (List.mem_append_right _ (List.mem_append_right _ (List.mem_append_right _ (List.mem_append_right _ (List.mem_append_right _ (List.mem_append_right _ (List.mem_append_right _ (List.mem_append_left _ h))))))))))))))))))))))
theorem in_r12 : ∀ w ∈ wsL_law_r12, w ∈ wsL_law := fun _ h => (List.mem_append_left _ (List.mem_append_left _ (List.mem_append_left _ (List.mem_append_left _ (List.mem_append_left _ (List.mem_append_left _ (List.mem_append_left _ (List.mem_append_left _ (List.mem_append_left _ (List.mem_append_left _ (List.mem_append_left _ (List.mem_append_right _ (List.mem_append_right _ (List.mem_append_right _ (List.mem_append_right _ (List.mem_append_right _ (List.mem_append_right _ (List.mem_append_right _ (List.mem_append_right _ (List.mem_append_right _ (List.mem_append_right _ (List.mem_append_right _ (List.mem_append_left _ h)))))))))))))))))))))))
theorem in_r13 : ∀ w ∈ wsL_law_r13, w ∈ wsL_law := fun _ h => (List.mem_append_left _ (List.mem_append_left _ (List.mem_append_left _ (List.mem_append_left _ (List.mem_append_left _ (List.mem_append_left _ (List.mem_append_left _ (List.mem_append_left _ (List.mem_append_left _ (List.mem_append_left _ (List.mem_append_left _ (List.mem_append_right _ (List.mem_append_right _ (List.mem_append_right _ (List.mem_append_right _ (List.mem_append_right _ (List.mem_append_right _ (List.mem_append_right _ (List.mem_append_right _ (List.mem_append_right _ (List.mem_append_right _ (List.mem_append_right _ (List.mem_append_right _ (List.mem_append_left _ h))))))))))))))))))))))))
theorem in_r14 : ∀ w ∈ wsL_law_r14, w ∈ wsL_law := fun _ h => (List.mem_append_left _ (List.mem_append_left _ (List.mem_append_left _ (List.mem_append_left _ (List.mem_append_left _ (List.mem_append_left _ (List.mem_append_left _ (List.mem_append_left _ (List.mem_append_left _ (List.mem_append_left _ (List.mem_append_left _ (List.mem_append_right _ (List.mem_append_right _ (List.mem_append_right _ (List.mem_append_right _ (List.mem_append_right _ (List.mem_append_right _ (List.mem_append_right _ (List.mem_append_right _ (List.mem_append_right _ (List.mem_append_right _ (List.mem_append_right _ (List.mem_append_right _ (List.mem_append_right _ (List.mem_append_left _ h)))))))))))))))))))))))))
theorem in_r15 : ∀ w ∈ wsL_law_r15, w ∈ wsL_law := fun _ h => (List.mem_append_left _ (List.mem_append_left _ (List.mem_append_left _ (List.mem_append_left _ (List.mem_append_left _ (List.mem_append_left _ (List.mem_append_left _ (List.mem_append_left _ (List.mem_append_left _ (List.mem_append_left _ (List.mem_append_left _ (List.mem_append_right _ (List.mem_append_right _ (List.mem_append_right _ (List.mem_append_right _ (List.mem_append_right _ (List.mem_append_right _ (List.mem_append_right _ (List.mem_append_right _ (List.mem_append_right _ (List.mem_append_right _ (List.mem_append_right _ (List.mem_append_right _ (List.mem_append_right _ (List.mem_append_right _ (List.mem_append_left _ h))))))))))))))))))))))))))
theorem in_r16 : ∀ w ∈ wsL_law_r16, w ∈ wsL_law := fun _ h => (List.mem_append_left _ (List.mem_append_left _ (List.mem_append_left _ (List.mem_append_left _ (List.mem_append_left _ (List.mem_append_left _ (List.mem_append_left _ (List.mem_append_left _ (List.mem_append_left _ (List.mem_append_left _ (List.mem_append_left _ (List.mem_append_right _ (List.mem_append_right _ (List.mem_append_right _ (List.mem_append_right _ (List.mem_append_right _ (List.mem_append_right _ (List.mem_append_right _ (List.mem_append_right _ (List.mem_append_right _ (List.mem_append_right _ (List.mem_append_right _ (List.mem_append_right _ (List.mem_append_right _ (List.mem_append_right _ (List.mem_append_right _ (List.mem_append_left _ h)))))))))))))))))))))))))))
theorem in_r17 : ∀ w ∈ wsL_law_r17, w ∈ wsL_law := fun _ h => (List.mem_append_left _ (List.mem_append_left _ (List.mem_append_left _ (List.mem_append_left _ (List.mem_append_left _ (List.mem_append_left _ (List.mem_append_left _ (List.mem_append_left _ (List.mem_append_left _ (List.mem_append_left _ (List.mem_append_left _ (List.mem_append_right _ (List.mem_append_right _ (List.mem_append_right _ (List.mem_append_right _ (List.mem_append_right _ (List.mem_append_right _ (List.mem_append_right _ (List.mem_append_right _ (List.mem_append_right _ (List.mem_append_right _ (List.mem_append_right _ (List.mem_append_right _ (List.mem_append_right _ (List.mem_append_right _ (List.mem_append_right _ (List.mem_append_right _ (List.mem_append_left _ h))))))))))))))))))))))))))))
theorem in_r18 : ∀ w ∈ wsL_law_r18, w ∈ wsL_law := fun _ h => (List.mem_append_left _ (List.mem_append_left _ (List.mem_append_left _ (List.mem_append_left _ (List.mem_append_left _ (List.mem_append_left _ (List.mem_append_left _ (List.mem_append_left _ (List.mem_append_left _ (List.mem_append_left _ (List.mem_append_left _ (List.mem_append_right _ (List.mem_append_right _ (List.mem_append_right _ (List.mem_append_right _ (List.mem_append_right _ (List.mem_append_right _ (List.mem_append_right _ (List.mem_append_right _ (List.mem_append_right _ (List.mem_append_right _ (List.mem_append_right _ (List.mem_append_right _ (List.mem_append_right _ (List.mem_append_right _ (List.mem_append_right _ (List.mem_append_right _ (List.mem_append_right _ (List.mem_append_left _ h)))))))))))))))))))))))))))))
theorem in_r19 : ∀ w ∈ wsL_law_r19, w ∈ wsL_law := fun _ h => (List.mem_append_left _ (List.mem_append_left _ (List.mem_append_left _ (List.mem_append_left _ (List.mem_append_left _ (List.mem_append_left _ (List.mem_append_left _ (List.mem_append_left _ (List.mem_append_left _ (List.mem_append_left _ (List.mem_append_left _ (List.mem_append_right _ (List.mem_append_right _ (List.mem_append_right _ (List.mem_append_right _ (List.mem_append_right _ (List.mem_append_right _ (List.mem_append_right _ (List.mem_append_right _ (List.mem_append_right _ (List.mem_append_right _ (List.mem_append_right _ (List.mem_append_right _ (List.mem_append_right _ (List.mem_append_right _ (List.mem_append_right _ (List.mem_append_right _ (List.mem_append_right _ (List.mem_append_right _ (List.mem_append_left _ h))))))))))))))))))))))))))))))
theorem in_r20 : ∀ w ∈ wsL_law_r20, w ∈ wsL_law := fun _ h => (List.mem_append_left _ (List.mem_append_left _ (List.mem_append_left _ (List.mem_append_left _ (List.mem_append_left _ (List.mem_append_left _ (List.mem_append_left _ (List.mem_append_left _ (List.mem_append_left _ (List.mem_append_left _ (List.mem_append_left _ (List.mem_append_right _ (List.mem_append_right _ (List.mem_append_right _ (List.mem_append_right _ (List.mem_append_right _ (List.mem_append_right _ (List.mem_append_right _ (List.mem_append_right _ (List.mem_append_right _ (List.mem_append_right _ (List.mem_append_right _ (List.mem_append_right _ (List.mem_append_right _ (List.mem_append_right _ (List.mem_append_right _ (List.mem_append_right _ (List.mem_append_right _ (List.mem_append_right _ (List.mem_append_right _ (List.mem_append_left _ h)))))))))))))))))))))))))))))))
theorem in_r21 : ∀ w ∈ wsL_law_r21, w ∈ wsL_law := fun _ h => (List.mem_append_left _ (List.mem_append_left _ (List.mem_append_left _ (List.mem_append_left _ (List.mem_append_left _ (List.mem_append_left _ (List.mem_append_left _ (List.mem_append_left _ (List.mem_append_left _ (List.mem_append_left _ (List.mem_append_left _ (List.mem_append_right _ (List.mem_append_right _ (List.mem_append_right _ (List.mem_append_right _ (List.mem_append_right _ (List.mem_append_right _ (List.mem_append_right _ (List.mem_append_right _ (List.mem_append_right _ (List.mem_append_right _ (List.mem_append_right _ (List.mem_append_right _ (List.mem_append_right _ (List.mem_append_right _ (List.mem_append_right _ (List.mem_append_right _ (List.mem_append_right _ (List.mem_append_right _ (List.mem_append_right _ (List.mem_append_right _ (List.mem_append_left _ h))))))))))))))))))))))))))))))))
theorem in_r22 : ∀ w ∈ wsL_law_r22, w ∈ wsL_law := fun _ h => (List.mem_append_left _ (List.mem_append_left _ (List.mem_append_left _ (List.mem_append_left _ (List.mem_append_left _ (List.mem_append_left _ (List.mem_append_left _ (List.mem_append_left _ (List.mem_append_left _ (List.mem_append_left _ (List.mem_append_left _ (List.mem_append_right _ (List.mem_append_right _ (List.mem_append_right _ (List.mem_append_right _ (List.mem_append_right _ (List.mem_append_right _ (List.mem_append_right _ (List.mem_append_right _ (List.mem_append_right _ (List.mem_append_right _ (List.mem_append_right _ (List.mem_append_right _ (List.mem_append_right _ (List.mem_append_right _ (List.mem_append_right _ (List.mem_append_right _ (List.mem_append_right _ (List.mem_append_right _ (List.mem_append_right _ (List.mem_append_right _ (List.mem_append_right _ (List.mem_append_left _ h)))))))))))))))))))))))))))))))))
theorem in_r23 : ∀ w ∈ wsL_law_r23, w ∈ wsL_law := fun _ h => (List.mem_append_left _ (List.mem_append_left _ (List.mem_append_left _ (List.mem_append_left _ (List.mem_append_left _ (List.mem_append_left _ (List.mem_append_left _ (List.mem_append_left _ (List.mem_append_left _ (List.mem_append_left _ (List.mem_append_left _ (List.mem_append_right _ (List.mem_append_right _ (List.mem_append_right _ (List.mem_append_right _ (List.mem_append_right _ (List.mem_append_right _ (List.mem_append_right _ (List.mem_append_right _ (List.mem_append_right _ (List.mem_append_right _ (List.mem_append_right _ (List.mem_append_right _ (List.mem_append_right _ (List.mem_append_right _ (List.mem_append_right _ (List.mem_append_right _ (List.mem_append_right _ (List.mem_append_right _ (List.mem_append_right _ (List.mem_append_right _ (List.mem_append_right _ (List.mem_append_right _ (List.mem_append_left _ h))))))))))))))))))))))))))))))))))
theorem in_r24 : ∀ w ∈ wsL_law_r24, w ∈ wsL_law := fun _ h => (List.mem_append_left _ (List.mem_append_left _ (List.mem_append_left _ (List.mem_append_left _ (List.mem_append_left _ (List.mem_append_left _ (List.mem_append_left _ (List.mem_append_left _ (List.mem_append_left _ (List.mem_append_left _ (List.mem_append_left _ (List.mem_append_right _ (List.mem_append_right _ (List.mem_append_right _ (List.mem_append_right _ (List.mem_append_right _ (List.mem_append_right _ (List.mem_append_right _ (List.mem_append_right _ (List.mem_append_right _ (List.mem_append_right _ (List.mem_append_right _ (List.mem_append_right _ (List.mem_append_right _ (List.mem_append_right _ (List.mem_append_right _ (List.mem_append_right _ (List.mem_append_right _ (List.mem_append_right _ (List.mem_append_right _ (List.mem_append_right _ (List.mem_append_right _ (List.mem_append_right _ (List.mem_append_right _ (List.mem_append_left _ h)))))))))))))))))))))))))))))))))))
theorem in_r25 : ∀ w ∈ wsL_law_r25, w ∈ wsL_law := fun _ h => (List.mem_append_left _ (List.mem_append_left _ (List.mem_append_left _ (List.mem_append_left _ (List.mem_append_left _ (List.mem_append_left _ (List.mem_append_left _ (List.mem_append_left _ (List.mem_append_left _ (List.mem_append_left _ (List.mem_append_left _ (List.mem_append_right _ (List.mem_append_right _ (List.mem_append_right _ (List.mem_append_right _ (List.mem_append_right _ (List.mem_append_right _ (List.mem_append_right _ (List.mem_append_right _ (List.mem_append_right _ (List.mem_append_right _ (List.mem_append_right _ (List.mem_append_right _ (List.mem_append_right _ (List.mem_append_right _ (List.mem_append_right _ (List.mem_append_right _ (List.mem_append_right _ (List.mem_append_right _ (List.mem_append_right _ (List.mem_append_right _ (List.mem_append_right _ (List.mem_append_right _ (List.mem_append_right _ (List.mem_append_right _ h)))))))))))))))))))))))))))))))))))
theorem wm_cl_L_31 : (Cond.classLink RL 31 RX9) ∈ wsL_law := in_r1 _ (List.mem_of_getElem? (i := 0) rfl)
theorem wm_ii_X9 : (Cond.instantiable RX9 5) ∈ wsL_law := in_r1 _ (List.mem_of_getElem? (i := 1) rfl)
theorem wm_in_X9 : (Cond.initialized RX9) ∈ wsL_law := in_r1 _ (List.mem_of_getElem? (i := 2) rfl)
theorem wm_ac_int : (Cond.arrayClass .int) ∈ wsL_law := in_r1 _ (List.mem_of_getElem? (i := 3) rfl)
theorem wm_ct_L_33 : (Cond.constant RL 33 (-1000002)) ∈ wsL_law := in_r1 _ (List.mem_of_getElem? (i := 4) rfl)
theorem wm_ct_L_34 : (Cond.constant RL 34 (-1000001)) ∈ wsL_law := in_r1 _ (List.mem_of_getElem? (i := 5) rfl)
theorem wm_ml_L_137 : (Cond.methodLink RL 137 yX9_init) ∈ wsL_law := in_r1 _ (List.mem_of_getElem? (i := 6) rfl)
theorem wm_im_X9_init : (Cond.instanceMethod yX9_init) ∈ wsL_law := in_r1 _ (List.mem_of_getElem? (i := 7) rfl)
theorem wm_co_X9_init : (Cond.code yX9_init cX9_init 1 none) ∈ wsL_law := in_r1 _ (List.mem_of_getElem? (i := 8) rfl)
theorem wm_ml_X9_1 : (Cond.methodLink RX9 1 objectInit) ∈ wsL_law := in_r1 _ (List.mem_of_getElem? (i := 9) rfl)
theorem wm_im_objectInit : (Cond.instanceMethod objectInit) ∈ wsL_law := in_r1 _ (List.mem_of_getElem? (i := 10) rfl)
theorem wm_co_objectInit : (Cond.code objectInit ⟨#[0xb1]⟩ 1 none) ∈ wsL_law := in_r1 _ (List.mem_of_getElem? (i := 11) rfl)
theorem wm_cl_X9_7 : (Cond.classLink RX9 7 RX0) ∈ wsL_law := in_r1 _ (List.mem_of_getElem? (i := 12) rfl)
theorem wm_ii_X0 : (Cond.instantiable RX0 10) ∈ wsL_law := in_r1 _ (List.mem_of_getElem? (i := 13) rfl)
theorem wm_in_X0 : (Cond.initialized RX0) ∈ wsL_law := in_r1 _ (List.mem_of_getElem? (i := 14) rfl)
theorem wm_fl_X9_10 : (Cond.fieldLink RX9 10 "PurserLedgers" "now" "LPurserLedgers$Books;") ∈ wsL_law := in_r1 _ (List.mem_of_getElem? (i := 15) rfl)
theorem wm_fl_X9_16 : (Cond.fieldLink RX9 16 "PurserLedgers" "trial" "LPurserLedgers$Books;") ∈ wsL_law := in_r1 _ (List.mem_of_getElem? (i := 16) rfl)
theorem wm_cl_X9_19 : (Cond.classLink RX9 19 RX2) ∈ wsL_law := in_r1 _ (List.mem_of_getElem? (i := 17) rfl)
theorem wm_ii_X2 : (Cond.instantiable RX2 2) ∈ wsL_law := in_r1 _ (List.mem_of_getElem? (i := 18) rfl)
theorem wm_in_X2 : (Cond.initialized RX2) ∈ wsL_law := in_r1 _ (List.mem_of_getElem? (i := 19) rfl)
theorem wm_fl_X9_22 : (Cond.fieldLink RX9 22 "PurserLedgers" "history" "LPurserLedgers$History;") ∈ wsL_law := in_r1 _ (List.mem_of_getElem? (i := 20) rfl)
theorem wm_cl_X9_26 : (Cond.classLink RX9 26 RX7) ∈ wsL_law := in_r1 _ (List.mem_of_getElem? (i := 21) rfl)
theorem wm_ii_X7 : (Cond.instantiable RX7 2) ∈ wsL_law := in_r1 _ (List.mem_of_getElem? (i := 22) rfl)
theorem wm_in_X7 : (Cond.initialized RX7) ∈ wsL_law := in_r1 _ (List.mem_of_getElem? (i := 23) rfl)
theorem wm_fl_X9_29 : (Cond.fieldLink RX9 29 "PurserLedgers" "text" "LPurserLedgers$Text;") ∈ wsL_law := in_r2 _ (List.mem_of_getElem? (i := 0) rfl)
theorem wm_cl_X9_33 : (Cond.classLink RX9 33 RX5) ∈ wsL_law := in_r2 _ (List.mem_of_getElem? (i := 1) rfl)
theorem wm_ii_X5 : (Cond.instantiable RX5 5) ∈ wsL_law := in_r2 _ (List.mem_of_getElem? (i := 2) rfl)
theorem wm_in_X5 : (Cond.initialized RX5) ∈ wsL_law := in_r2 _ (List.mem_of_getElem? (i := 3) rfl)
theorem wm_fl_X9_36 : (Cond.fieldLink RX9 36 "PurserLedgers" "rehearsal" "LPurserLedgers$Rehearsal;") ∈ wsL_law := in_r2 _ (List.mem_of_getElem? (i := 4) rfl)
theorem wm_ml_X9_9 : (Cond.methodLink RX9 9 yX0_init) ∈ wsL_law := in_r2 _ (List.mem_of_getElem? (i := 5) rfl)
theorem wm_im_X0_init : (Cond.instanceMethod yX0_init) ∈ wsL_law := in_r2 _ (List.mem_of_getElem? (i := 6) rfl)
theorem wm_co_X0_init : (Cond.code yX0_init cX0_init 2 none) ∈ wsL_law := in_r2 _ (List.mem_of_getElem? (i := 7) rfl)
theorem wm_ml_X0_3 : (Cond.methodLink RX0 3 objectInit) ∈ wsL_law := in_r2 _ (List.mem_of_getElem? (i := 8) rfl)
theorem wm_cl_X0_9 : (Cond.classLink RX0 9 RX6) ∈ wsL_law := in_r2 _ (List.mem_of_getElem? (i := 9) rfl)
theorem wm_fl_X0_11 : (Cond.fieldLink RX0 11 "PurserLedgers$Books" "crew" "[LPurserLedgers$Sailor;") ∈ wsL_law := in_r2 _ (List.mem_of_getElem? (i := 10) rfl)
theorem wm_ii_X6 : (Cond.instantiable RX6 10) ∈ wsL_law := in_r2 _ (List.mem_of_getElem? (i := 11) rfl)
theorem wm_in_X6 : (Cond.initialized RX6) ∈ wsL_law := in_r2 _ (List.mem_of_getElem? (i := 12) rfl)
theorem wm_cl_X0_18 : (Cond.classLink RX0 18 RX3) ∈ wsL_law := in_r2 _ (List.mem_of_getElem? (i := 13) rfl)
theorem wm_fl_X0_20 : (Cond.fieldLink RX0 20 "PurserLedgers$Books" "chest" "[LPurserLedgers$Item;") ∈ wsL_law := in_r2 _ (List.mem_of_getElem? (i := 14) rfl)
theorem wm_ii_X3 : (Cond.instantiable RX3 5) ∈ wsL_law := in_r2 _ (List.mem_of_getElem? (i := 15) rfl)
theorem wm_in_X3 : (Cond.initialized RX3) ∈ wsL_law := in_r2 _ (List.mem_of_getElem? (i := 16) rfl)
theorem wm_fl_X0_29 : (Cond.fieldLink RX0 29 "PurserLedgers$Books" "settings" "[I") ∈ wsL_law := in_r2 _ (List.mem_of_getElem? (i := 17) rfl)
theorem wm_cl_X0_36 : (Cond.classLink RX0 36 RX1) ∈ wsL_law := in_r2 _ (List.mem_of_getElem? (i := 18) rfl)
theorem wm_ii_X1 : (Cond.instantiable RX1 4) ∈ wsL_law := in_r2 _ (List.mem_of_getElem? (i := 19) rfl)
theorem wm_in_X1 : (Cond.initialized RX1) ∈ wsL_law := in_r2 _ (List.mem_of_getElem? (i := 20) rfl)
theorem wm_fl_X0_39 : (Cond.fieldLink RX0 39 "PurserLedgers$Books" "entries" "LPurserLedgers$Entries;") ∈ wsL_law := in_r2 _ (List.mem_of_getElem? (i := 21) rfl)
theorem wm_cl_X0_43 : (Cond.classLink RX0 43 RX8) ∈ wsL_law := in_r2 _ (List.mem_of_getElem? (i := 22) rfl)
theorem wm_ii_X8 : (Cond.instantiable RX8 8) ∈ wsL_law := in_r2 _ (List.mem_of_getElem? (i := 23) rfl)
theorem wm_in_X8 : (Cond.initialized RX8) ∈ wsL_law := in_r3 _ (List.mem_of_getElem? (i := 0) rfl)
theorem wm_fl_X0_46 : (Cond.fieldLink RX0 46 "PurserLedgers$Books" "totals" "LPurserLedgers$Totals;") ∈ wsL_law := in_r3 _ (List.mem_of_getElem? (i := 1) rfl)
theorem wm_im_X6_init : (Cond.instanceMethod yX6_init) ∈ wsL_law := in_r3 _ (List.mem_of_getElem? (i := 2) rfl)
theorem wm_co_X6_init : (Cond.code yX6_init cX6_init 1 none) ∈ wsL_law := in_r3 _ (List.mem_of_getElem? (i := 3) rfl)
theorem wm_ml_X6_3 : (Cond.methodLink RX6 3 objectInit) ∈ wsL_law := in_r3 _ (List.mem_of_getElem? (i := 4) rfl)
theorem wm_im_X3_init : (Cond.instanceMethod yX3_init) ∈ wsL_law := in_r3 _ (List.mem_of_getElem? (i := 5) rfl)
theorem wm_co_X3_init : (Cond.code yX3_init cX3_init 1 none) ∈ wsL_law := in_r3 _ (List.mem_of_getElem? (i := 6) rfl)
theorem wm_ml_X3_3 : (Cond.methodLink RX3 3 objectInit) ∈ wsL_law := in_r3 _ (List.mem_of_getElem? (i := 7) rfl)
theorem wm_st_X9_copyNumbers : (Cond.static yX9_copyNumbers) ∈ wsL_law := in_r3 _ (List.mem_of_getElem? (i := 8) rfl)
theorem wm_co_X9_copyNumbers : (Cond.code yX9_copyNumbers cX9_copyNumbers 3 none) ∈ wsL_law := in_r3 _ (List.mem_of_getElem? (i := 9) rfl)
theorem wm_ml_X0_38 : (Cond.methodLink RX0 38 yX1_init) ∈ wsL_law := in_r3 _ (List.mem_of_getElem? (i := 10) rfl)
theorem wm_im_X1_init : (Cond.instanceMethod yX1_init) ∈ wsL_law := in_r3 _ (List.mem_of_getElem? (i := 11) rfl)
theorem wm_co_X1_init : (Cond.code yX1_init cX1_init 1 none) ∈ wsL_law := in_r3 _ (List.mem_of_getElem? (i := 12) rfl)
theorem wm_ml_X1_3 : (Cond.methodLink RX1 3 objectInit) ∈ wsL_law := in_r3 _ (List.mem_of_getElem? (i := 13) rfl)
theorem wm_fl_X1_9 : (Cond.fieldLink RX1 9 "PurserLedgers$Entries" "sailors" "[I") ∈ wsL_law := in_r3 _ (List.mem_of_getElem? (i := 14) rfl)
theorem wm_fl_X1_15 : (Cond.fieldLink RX1 15 "PurserLedgers$Entries" "kinds" "[I") ∈ wsL_law := in_r3 _ (List.mem_of_getElem? (i := 15) rfl)
theorem wm_fl_X1_18 : (Cond.fieldLink RX1 18 "PurserLedgers$Entries" "coins" "[I") ∈ wsL_law := in_r3 _ (List.mem_of_getElem? (i := 16) rfl)
theorem wm_ml_X0_45 : (Cond.methodLink RX0 45 yX8_init) ∈ wsL_law := in_r3 _ (List.mem_of_getElem? (i := 17) rfl)
theorem wm_im_X8_init : (Cond.instanceMethod yX8_init) ∈ wsL_law := in_r3 _ (List.mem_of_getElem? (i := 18) rfl)
theorem wm_co_X8_init : (Cond.code yX8_init cX8_init 1 none) ∈ wsL_law := in_r3 _ (List.mem_of_getElem? (i := 19) rfl)
theorem wm_ml_X8_3 : (Cond.methodLink RX8 3 objectInit) ∈ wsL_law := in_r3 _ (List.mem_of_getElem? (i := 20) rfl)
theorem wm_fl_X8_9 : (Cond.fieldLink RX8 9 "PurserLedgers$Totals" "cash" "I") ∈ wsL_law := in_r3 _ (List.mem_of_getElem? (i := 21) rfl)
theorem wm_ml_X9_21 : (Cond.methodLink RX9 21 yX2_init) ∈ wsL_law := in_r3 _ (List.mem_of_getElem? (i := 22) rfl)
theorem wm_im_X2_init : (Cond.instanceMethod yX2_init) ∈ wsL_law := in_r3 _ (List.mem_of_getElem? (i := 23) rfl)
theorem wm_co_X2_init : (Cond.code yX2_init cX2_init 2 none) ∈ wsL_law := in_r4 _ (List.mem_of_getElem? (i := 0) rfl)
theorem wm_ml_X2_3 : (Cond.methodLink RX2 3 objectInit) ∈ wsL_law := in_r4 _ (List.mem_of_getElem? (i := 1) rfl)
theorem wm_cl_X2_9 : (Cond.classLink RX2 9 RX0) ∈ wsL_law := in_r4 _ (List.mem_of_getElem? (i := 2) rfl)
theorem wm_fl_X2_11 : (Cond.fieldLink RX2 11 "PurserLedgers$History" "states" "[LPurserLedgers$Books;") ∈ wsL_law := in_r4 _ (List.mem_of_getElem? (i := 3) rfl)
theorem wm_ml_X2_17 : (Cond.methodLink RX2 17 yX0_init) ∈ wsL_law := in_r4 _ (List.mem_of_getElem? (i := 4) rfl)
theorem wm_ml_X9_28 : (Cond.methodLink RX9 28 yX7_init) ∈ wsL_law := in_r4 _ (List.mem_of_getElem? (i := 5) rfl)
theorem wm_im_X7_init : (Cond.instanceMethod yX7_init) ∈ wsL_law := in_r4 _ (List.mem_of_getElem? (i := 6) rfl)
theorem wm_co_X7_init : (Cond.code yX7_init cX7_init 1 none) ∈ wsL_law := in_r4 _ (List.mem_of_getElem? (i := 7) rfl)
theorem wm_ml_X7_3 : (Cond.methodLink RX7 3 objectInit) ∈ wsL_law := in_r4 _ (List.mem_of_getElem? (i := 8) rfl)
theorem wm_fl_X7_9 : (Cond.fieldLink RX7 9 "PurserLedgers$Text" "characters" "[I") ∈ wsL_law := in_r4 _ (List.mem_of_getElem? (i := 9) rfl)
theorem wm_ml_X9_35 : (Cond.methodLink RX9 35 yX5_init) ∈ wsL_law := in_r4 _ (List.mem_of_getElem? (i := 10) rfl)
theorem wm_im_X5_init : (Cond.instanceMethod yX5_init) ∈ wsL_law := in_r4 _ (List.mem_of_getElem? (i := 11) rfl)
theorem wm_co_X5_init : (Cond.code yX5_init cX5_init 1 none) ∈ wsL_law := in_r4 _ (List.mem_of_getElem? (i := 12) rfl)
theorem wm_ml_X5_3 : (Cond.methodLink RX5 3 objectInit) ∈ wsL_law := in_r4 _ (List.mem_of_getElem? (i := 13) rfl)
theorem wm_cl_X5_9 : (Cond.classLink RX5 9 RX4) ∈ wsL_law := in_r4 _ (List.mem_of_getElem? (i := 14) rfl)
theorem wm_ii_X4 : (Cond.instantiable RX4 3) ∈ wsL_law := in_r4 _ (List.mem_of_getElem? (i := 15) rfl)
theorem wm_in_X4 : (Cond.initialized RX4) ∈ wsL_law := in_r4 _ (List.mem_of_getElem? (i := 16) rfl)
theorem wm_fl_X5_12 : (Cond.fieldLink RX5 12 "PurserLedgers$Rehearsal" "order" "LPurserLedgers$Order;") ∈ wsL_law := in_r4 _ (List.mem_of_getElem? (i := 17) rfl)
theorem wm_ml_X5_11 : (Cond.methodLink RX5 11 yX4_init) ∈ wsL_law := in_r4 _ (List.mem_of_getElem? (i := 18) rfl)
theorem wm_im_X4_init : (Cond.instanceMethod yX4_init) ∈ wsL_law := in_r4 _ (List.mem_of_getElem? (i := 19) rfl)
theorem wm_co_X4_init : (Cond.code yX4_init cX4_init 1 none) ∈ wsL_law := in_r4 _ (List.mem_of_getElem? (i := 20) rfl)
theorem wm_ml_X4_3 : (Cond.methodLink RX4 3 objectInit) ∈ wsL_law := in_r4 _ (List.mem_of_getElem? (i := 21) rfl)
theorem wm_fl_X4_9 : (Cond.fieldLink RX4 9 "PurserLedgers$Order" "numbers" "[I") ∈ wsL_law := in_r4 _ (List.mem_of_getElem? (i := 22) rfl)
theorem wm_ml_L_138 : (Cond.methodLink RL 138 yL_isSo) ∈ wsL_law := in_r4 _ (List.mem_of_getElem? (i := 23) rfl)
theorem wm_st_yL_isSo : (Cond.static yL_isSo) ∈ wsL_law := in_r5 _ (List.mem_of_getElem? (i := 0) rfl)
theorem wm_in_L : (Cond.initialized RL) ∈ wsL_law := in_r5 _ (List.mem_of_getElem? (i := 1) rfl)
theorem wm_co_yL_isSo : (Cond.code yL_isSo cL_isSo 9 (some .boolean)) ∈ wsL_law := in_r5 _ (List.mem_of_getElem? (i := 2) rfl)
theorem wm_ct_L_136 : (Cond.constant RL 136 (100000)) ∈ wsL_law := in_r5 _ (List.mem_of_getElem? (i := 3) rfl)
theorem wm_ct_L_113 : (Cond.constant RL 113 (-1000004)) ∈ wsL_law := in_r5 _ (List.mem_of_getElem? (i := 4) rfl)
theorem wm_ml_L_123 : (Cond.methodLink RL 123 yX9_count) ∈ wsL_law := in_r5 _ (List.mem_of_getElem? (i := 5) rfl)
theorem wm_im_X9_count : (Cond.instanceMethod yX9_count) ∈ wsL_law := in_r5 _ (List.mem_of_getElem? (i := 6) rfl)
theorem wm_se_X9_count : (Cond.selects RX9 yX9_count yX9_count) ∈ wsL_law := in_r5 _ (List.mem_of_getElem? (i := 7) rfl)
theorem wm_co_X9_count : (Cond.code yX9_count cX9_count 2 (some .int)) ∈ wsL_law := in_r5 _ (List.mem_of_getElem? (i := 8) rfl)
theorem wm_fl_X9_136 : (Cond.fieldLink RX9 136 "PurserLedgers$History" "kept" "I") ∈ wsL_law := in_r5 _ (List.mem_of_getElem? (i := 9) rfl)
theorem wm_fl_X9_140 : (Cond.fieldLink RX9 140 "PurserLedgers$Text" "length" "I") ∈ wsL_law := in_r5 _ (List.mem_of_getElem? (i := 10) rfl)
theorem wm_ml_X9_143 : (Cond.methodLink RX9 143 yX0_tell) ∈ wsL_law := in_r5 _ (List.mem_of_getElem? (i := 11) rfl)
theorem wm_im_X0_tell : (Cond.instanceMethod yX0_tell) ∈ wsL_law := in_r5 _ (List.mem_of_getElem? (i := 12) rfl)
theorem wm_se_X0_tell : (Cond.selects RX0 yX0_tell yX0_tell) ∈ wsL_law := in_r5 _ (List.mem_of_getElem? (i := 13) rfl)
theorem wm_co_X0_tell : (Cond.code yX0_tell cX0_tell 2 (some .int)) ∈ wsL_law := in_r5 _ (List.mem_of_getElem? (i := 14) rfl)
theorem wm_fl_X0_67 : (Cond.fieldLink RX0 67 "PurserLedgers$Books" "voyage" "I") ∈ wsL_law := in_r5 _ (List.mem_of_getElem? (i := 15) rfl)
theorem wm_fl_X0_76 : (Cond.fieldLink RX0 76 "PurserLedgers$Books" "atSea" "Z") ∈ wsL_law := in_r5 _ (List.mem_of_getElem? (i := 16) rfl)
theorem wm_fl_X0_70 : (Cond.fieldLink RX0 70 "PurserLedgers$Books" "voyageDays" "I") ∈ wsL_law := in_r5 _ (List.mem_of_getElem? (i := 17) rfl)
theorem wm_fl_X0_73 : (Cond.fieldLink RX0 73 "PurserLedgers$Books" "ports" "I") ∈ wsL_law := in_r5 _ (List.mem_of_getElem? (i := 18) rfl)
theorem wm_fl_X0_63 : (Cond.fieldLink RX0 63 "PurserLedgers$Books" "signed" "I") ∈ wsL_law := in_r5 _ (List.mem_of_getElem? (i := 19) rfl)
theorem wm_fl_X0_244 : (Cond.fieldLink RX0 244 "PurserLedgers$Entries" "kept" "I") ∈ wsL_law := in_r5 _ (List.mem_of_getElem? (i := 20) rfl)
theorem wm_ml_X0_183 : (Cond.methodLink RX0 183 yX0_setOf) ∈ wsL_law := in_r5 _ (List.mem_of_getElem? (i := 21) rfl)
theorem wm_im_X0_setOf : (Cond.instanceMethod yX0_setOf) ∈ wsL_law := in_r5 _ (List.mem_of_getElem? (i := 22) rfl)
theorem wm_se_X0_setOf : (Cond.selects RX0 yX0_setOf yX0_setOf) ∈ wsL_law := in_r5 _ (List.mem_of_getElem? (i := 23) rfl)
theorem wm_co_X0_setOf : (Cond.code yX0_setOf cX0_setOf 4 (some .int)) ∈ wsL_law := in_r6 _ (List.mem_of_getElem? (i := 0) rfl)
theorem wm_fl_X0_136 : (Cond.fieldLink RX0 136 "PurserLedgers$Sailor" "whereabouts" "I") ∈ wsL_law := in_r6 _ (List.mem_of_getElem? (i := 1) rfl)
theorem wm_ml_X0_105 : (Cond.methodLink RX0 105 yX0_setting) ∈ wsL_law := in_r6 _ (List.mem_of_getElem? (i := 2) rfl)
theorem wm_im_X0_setting : (Cond.instanceMethod yX0_setting) ∈ wsL_law := in_r6 _ (List.mem_of_getElem? (i := 3) rfl)
theorem wm_se_X0_setting : (Cond.selects RX0 yX0_setting yX0_setting) ∈ wsL_law := in_r6 _ (List.mem_of_getElem? (i := 4) rfl)
theorem wm_co_X0_setting : (Cond.code yX0_setting cX0_setting 2 (some .int)) ∈ wsL_law := in_r6 _ (List.mem_of_getElem? (i := 5) rfl)
theorem wm_ml_X0_247 : (Cond.methodLink RX0 247 yX0_tellCoins) ∈ wsL_law := in_r6 _ (List.mem_of_getElem? (i := 6) rfl)
theorem wm_im_X0_tellCoins : (Cond.instanceMethod yX0_tellCoins) ∈ wsL_law := in_r6 _ (List.mem_of_getElem? (i := 7) rfl)
theorem wm_se_X0_tellCoins : (Cond.selects RX0 yX0_tellCoins yX0_tellCoins) ∈ wsL_law := in_r6 _ (List.mem_of_getElem? (i := 8) rfl)
theorem wm_co_X0_tellCoins : (Cond.code yX0_tellCoins cX0_tellCoins 2 (some .int)) ∈ wsL_law := in_r6 _ (List.mem_of_getElem? (i := 9) rfl)
theorem wm_fl_X0_159 : (Cond.fieldLink RX0 159 "PurserLedgers$Totals" "cash" "I") ∈ wsL_law := in_r6 _ (List.mem_of_getElem? (i := 10) rfl)
theorem wm_fl_X0_250 : (Cond.fieldLink RX0 250 "PurserLedgers$Totals" "drawn" "I") ∈ wsL_law := in_r6 _ (List.mem_of_getElem? (i := 11) rfl)
theorem wm_fl_X0_98 : (Cond.fieldLink RX0 98 "PurserLedgers$Totals" "spent" "I") ∈ wsL_law := in_r6 _ (List.mem_of_getElem? (i := 12) rfl)
theorem wm_fl_X0_156 : (Cond.fieldLink RX0 156 "PurserLedgers$Totals" "advanced" "I") ∈ wsL_law := in_r6 _ (List.mem_of_getElem? (i := 13) rfl)
theorem wm_fl_X0_202 : (Cond.fieldLink RX0 202 "PurserLedgers$Totals" "paid" "I") ∈ wsL_law := in_r6 _ (List.mem_of_getElem? (i := 14) rfl)
theorem wm_fl_X0_129 : (Cond.fieldLink RX0 129 "PurserLedgers$Totals" "charged" "I") ∈ wsL_law := in_r6 _ (List.mem_of_getElem? (i := 15) rfl)
theorem wm_fl_X0_173 : (Cond.fieldLink RX0 173 "PurserLedgers$Totals" "fines" "I") ∈ wsL_law := in_r6 _ (List.mem_of_getElem? (i := 16) rfl)
theorem wm_ct_X0_253 : (Cond.constant RX0 253 (100000)) ∈ wsL_law := in_r6 _ (List.mem_of_getElem? (i := 17) rfl)
theorem wm_fl_X0_186 : (Cond.fieldLink RX0 186 "PurserLedgers$Totals" "forfeit" "I") ∈ wsL_law := in_r6 _ (List.mem_of_getElem? (i := 18) rfl)
theorem wm_ct_X0_84 : (Cond.constant RX0 84 (-1000001)) ∈ wsL_law := in_r6 _ (List.mem_of_getElem? (i := 19) rfl)
theorem wm_ml_L_126 : (Cond.methodLink RL 126 yX9_item) ∈ wsL_law := in_r6 _ (List.mem_of_getElem? (i := 20) rfl)
theorem wm_im_X9_item : (Cond.instanceMethod yX9_item) ∈ wsL_law := in_r6 _ (List.mem_of_getElem? (i := 21) rfl)
theorem wm_se_X9_item : (Cond.selects RX9 yX9_item yX9_item) ∈ wsL_law := in_r6 _ (List.mem_of_getElem? (i := 22) rfl)
theorem wm_co_X9_item : (Cond.code yX9_item cX9_item 4 (some .int)) ∈ wsL_law := in_r6 _ (List.mem_of_getElem? (i := 23) rfl)
theorem wm_ct_X9_97 : (Cond.constant RX9 97 (-1000001)) ∈ wsL_law := in_r7 _ (List.mem_of_getElem? (i := 0) rfl)
theorem wm_ml_X9_103 : (Cond.methodLink RX9 103 yX0_findItem) ∈ wsL_law := in_r7 _ (List.mem_of_getElem? (i := 1) rfl)
theorem wm_im_X0_findItem : (Cond.instanceMethod yX0_findItem) ∈ wsL_law := in_r7 _ (List.mem_of_getElem? (i := 2) rfl)
theorem wm_se_X0_findItem : (Cond.selects RX0 yX0_findItem yX0_findItem) ∈ wsL_law := in_r7 _ (List.mem_of_getElem? (i := 3) rfl)
theorem wm_co_X0_findItem : (Cond.code yX0_findItem cX0_findItem 2 (some (.object "PurserLedgers$Item"))) ∈ wsL_law := in_r7 _ (List.mem_of_getElem? (i := 4) rfl)
theorem wm_ml_X9_107 : (Cond.methodLink RX9 107 yX3_tell) ∈ wsL_law := in_r7 _ (List.mem_of_getElem? (i := 5) rfl)
theorem wm_im_X3_tell : (Cond.instanceMethod yX3_tell) ∈ wsL_law := in_r7 _ (List.mem_of_getElem? (i := 6) rfl)
theorem wm_se_X3_tell : (Cond.selects RX3 yX3_tell yX3_tell) ∈ wsL_law := in_r7 _ (List.mem_of_getElem? (i := 7) rfl)
theorem wm_co_X3_tell : (Cond.code yX3_tell cX3_tell 2 (some .int)) ∈ wsL_law := in_r7 _ (List.mem_of_getElem? (i := 8) rfl)
theorem wm_fl_X3_9 : (Cond.fieldLink RX3 9 "PurserLedgers$Item" "inStock" "I") ∈ wsL_law := in_r7 _ (List.mem_of_getElem? (i := 9) rfl)
theorem wm_fl_X3_15 : (Cond.fieldLink RX3 15 "PurserLedgers$Item" "price" "I") ∈ wsL_law := in_r7 _ (List.mem_of_getElem? (i := 10) rfl)
theorem wm_fl_X3_18 : (Cond.fieldLink RX3 18 "PurserLedgers$Item" "bought" "I") ∈ wsL_law := in_r7 _ (List.mem_of_getElem? (i := 11) rfl)
theorem wm_fl_X3_21 : (Cond.fieldLink RX3 21 "PurserLedgers$Item" "sold" "I") ∈ wsL_law := in_r7 _ (List.mem_of_getElem? (i := 12) rfl)
theorem wm_fl_X3_24 : (Cond.fieldLink RX3 24 "PurserLedgers$Item" "charged" "I") ∈ wsL_law := in_r7 _ (List.mem_of_getElem? (i := 13) rfl)
theorem wm_ct_X3_27 : (Cond.constant RX3 27 (-1000001)) ∈ wsL_law := in_r7 _ (List.mem_of_getElem? (i := 14) rfl)
theorem wm_ml_L_129 : (Cond.methodLink RL 129 yX9_book) ∈ wsL_law := in_r7 _ (List.mem_of_getElem? (i := 15) rfl)
theorem wm_im_X9_book : (Cond.instanceMethod yX9_book) ∈ wsL_law := in_r7 _ (List.mem_of_getElem? (i := 16) rfl)
theorem wm_se_X9_book : (Cond.selects RX9 yX9_book yX9_book) ∈ wsL_law := in_r7 _ (List.mem_of_getElem? (i := 17) rfl)
theorem wm_co_X9_book : (Cond.code yX9_book cX9_book 3 (some .int)) ∈ wsL_law := in_r7 _ (List.mem_of_getElem? (i := 18) rfl)
theorem wm_fl_X9_110 : (Cond.fieldLink RX9 110 "PurserLedgers$Books" "entries" "LPurserLedgers$Entries;") ∈ wsL_law := in_r7 _ (List.mem_of_getElem? (i := 19) rfl)
theorem wm_ml_X9_114 : (Cond.methodLink RX9 114 yX1_tell) ∈ wsL_law := in_r7 _ (List.mem_of_getElem? (i := 20) rfl)
theorem wm_im_X1_tell : (Cond.instanceMethod yX1_tell) ∈ wsL_law := in_r7 _ (List.mem_of_getElem? (i := 21) rfl)
theorem wm_se_X1_tell : (Cond.selects RX1 yX1_tell yX1_tell) ∈ wsL_law := in_r7 _ (List.mem_of_getElem? (i := 22) rfl)
theorem wm_co_X1_tell : (Cond.code yX1_tell cX1_tell 3 (some .int)) ∈ wsL_law := in_r7 _ (List.mem_of_getElem? (i := 23) rfl)
theorem wm_ct_X1_37 : (Cond.constant RX1 37 (-1000001)) ∈ wsL_law := in_r8 _ (List.mem_of_getElem? (i := 0) rfl)
theorem wm_fl_X1_25 : (Cond.fieldLink RX1 25 "PurserLedgers$Entries" "kept" "I") ∈ wsL_law := in_r8 _ (List.mem_of_getElem? (i := 1) rfl)
theorem wm_ct_X1_38 : (Cond.constant RX1 38 (-1000004)) ∈ wsL_law := in_r8 _ (List.mem_of_getElem? (i := 2) rfl)
theorem wm_st_X9_within : (Cond.static yX9_within) ∈ wsL_law := in_r8 _ (List.mem_of_getElem? (i := 3) rfl)
theorem wm_co_X9_within : (Cond.code yX9_within cX9_within 3 (some .boolean)) ∈ wsL_law := in_r8 _ (List.mem_of_getElem? (i := 4) rfl)
theorem wm_ml_X1_39 : (Cond.methodLink RX1 39 yX1_numberAt) ∈ wsL_law := in_r8 _ (List.mem_of_getElem? (i := 5) rfl)
theorem wm_st_X1_numberAt : (Cond.static yX1_numberAt) ∈ wsL_law := in_r8 _ (List.mem_of_getElem? (i := 6) rfl)
theorem wm_co_X1_numberAt : (Cond.code yX1_numberAt cX1_numberAt 2 (some .int)) ∈ wsL_law := in_r8 _ (List.mem_of_getElem? (i := 7) rfl)
theorem wm_ml_L_132 : (Cond.methodLink RL 132 yL_areSailors) ∈ wsL_law := in_r8 _ (List.mem_of_getElem? (i := 8) rfl)
theorem wm_st_yL_areSailors : (Cond.static yL_areSailors) ∈ wsL_law := in_r8 _ (List.mem_of_getElem? (i := 9) rfl)
theorem wm_co_yL_areSailors : (Cond.code yL_areSailors cL_areSailors 17 (some .boolean)) ∈ wsL_law := in_r8 _ (List.mem_of_getElem? (i := 10) rfl)
theorem wm_ml_L_23 : (Cond.methodLink RL 23 yL_balance) ∈ wsL_law := in_r8 _ (List.mem_of_getElem? (i := 11) rfl)
theorem wm_st_yL_balance : (Cond.static yL_balance) ∈ wsL_law := in_r8 _ (List.mem_of_getElem? (i := 12) rfl)
theorem wm_co_yL_balance : (Cond.code yL_balance cL_balance 4 (some .int)) ∈ wsL_law := in_r8 _ (List.mem_of_getElem? (i := 13) rfl)
theorem wm_ml_L_9 : (Cond.methodLink RL 9 yL_earned) ∈ wsL_law := in_r8 _ (List.mem_of_getElem? (i := 14) rfl)
theorem wm_st_yL_earned : (Cond.static yL_earned) ∈ wsL_law := in_r8 _ (List.mem_of_getElem? (i := 15) rfl)
theorem wm_co_yL_earned : (Cond.code yL_earned cL_earned 5 (some .int)) ∈ wsL_law := in_r8 _ (List.mem_of_getElem? (i := 16) rfl)
theorem wm_ml_L_101 : (Cond.methodLink RL 101 yX9_sailor) ∈ wsL_law := in_r8 _ (List.mem_of_getElem? (i := 17) rfl)
theorem wm_im_X9_sailor : (Cond.instanceMethod yX9_sailor) ∈ wsL_law := in_r8 _ (List.mem_of_getElem? (i := 18) rfl)
theorem wm_se_X9_sailor : (Cond.selects RX9 yX9_sailor yX9_sailor) ∈ wsL_law := in_r8 _ (List.mem_of_getElem? (i := 19) rfl)
theorem wm_co_X9_sailor : (Cond.code yX9_sailor cX9_sailor 4 (some .int)) ∈ wsL_law := in_r8 _ (List.mem_of_getElem? (i := 20) rfl)
theorem wm_ml_X9_93 : (Cond.methodLink RX9 93 yX0_findSailor) ∈ wsL_law := in_r8 _ (List.mem_of_getElem? (i := 21) rfl)
theorem wm_im_X0_findSailor : (Cond.instanceMethod yX0_findSailor) ∈ wsL_law := in_r8 _ (List.mem_of_getElem? (i := 22) rfl)
theorem wm_se_X0_findSailor : (Cond.selects RX0 yX0_findSailor yX0_findSailor) ∈ wsL_law := in_r8 _ (List.mem_of_getElem? (i := 23) rfl)
theorem wm_co_X0_findSailor : (Cond.code yX0_findSailor cX0_findSailor 2 (some (.object "PurserLedgers$Sailor"))) ∈ wsL_law := in_r9 _ (List.mem_of_getElem? (i := 0) rfl)
theorem wm_ml_X9_98 : (Cond.methodLink RX9 98 yX6_tell) ∈ wsL_law := in_r9 _ (List.mem_of_getElem? (i := 1) rfl)
theorem wm_im_X6_tell : (Cond.instanceMethod yX6_tell) ∈ wsL_law := in_r9 _ (List.mem_of_getElem? (i := 2) rfl)
theorem wm_se_X6_tell : (Cond.selects RX6 yX6_tell yX6_tell) ∈ wsL_law := in_r9 _ (List.mem_of_getElem? (i := 3) rfl)
theorem wm_co_X6_tell : (Cond.code yX6_tell cX6_tell 2 (some .int)) ∈ wsL_law := in_r9 _ (List.mem_of_getElem? (i := 4) rfl)
theorem wm_fl_X6_9 : (Cond.fieldLink RX6 9 "PurserLedgers$Sailor" "rank" "I") ∈ wsL_law := in_r9 _ (List.mem_of_getElem? (i := 5) rfl)
theorem wm_fl_X6_15 : (Cond.fieldLink RX6 15 "PurserLedgers$Sailor" "watch" "I") ∈ wsL_law := in_r9 _ (List.mem_of_getElem? (i := 6) rfl)
theorem wm_fl_X6_18 : (Cond.fieldLink RX6 18 "PurserLedgers$Sailor" "whereabouts" "I") ∈ wsL_law := in_r9 _ (List.mem_of_getElem? (i := 7) rfl)
theorem wm_fl_X6_21 : (Cond.fieldLink RX6 21 "PurserLedgers$Sailor" "seaDays" "I") ∈ wsL_law := in_r9 _ (List.mem_of_getElem? (i := 8) rfl)
theorem wm_fl_X6_24 : (Cond.fieldLink RX6 24 "PurserLedgers$Sailor" "portDays" "I") ∈ wsL_law := in_r9 _ (List.mem_of_getElem? (i := 9) rfl)
theorem wm_fl_X6_27 : (Cond.fieldLink RX6 27 "PurserLedgers$Sailor" "bought" "I") ∈ wsL_law := in_r9 _ (List.mem_of_getElem? (i := 10) rfl)
theorem wm_fl_X6_30 : (Cond.fieldLink RX6 30 "PurserLedgers$Sailor" "fines" "I") ∈ wsL_law := in_r9 _ (List.mem_of_getElem? (i := 11) rfl)
theorem wm_fl_X6_33 : (Cond.fieldLink RX6 33 "PurserLedgers$Sailor" "advances" "I") ∈ wsL_law := in_r9 _ (List.mem_of_getElem? (i := 12) rfl)
theorem wm_fl_X6_36 : (Cond.fieldLink RX6 36 "PurserLedgers$Sailor" "debt" "I") ∈ wsL_law := in_r9 _ (List.mem_of_getElem? (i := 13) rfl)
theorem wm_fl_X6_39 : (Cond.fieldLink RX6 39 "PurserLedgers$Sailor" "paid" "I") ∈ wsL_law := in_r9 _ (List.mem_of_getElem? (i := 14) rfl)
theorem wm_ct_X6_64 : (Cond.constant RX6 64 (-1000001)) ∈ wsL_law := in_r9 _ (List.mem_of_getElem? (i := 15) rfl)
theorem wm_ml_X6_58 : (Cond.methodLink RX6 58 yX6_balance) ∈ wsL_law := in_r9 _ (List.mem_of_getElem? (i := 16) rfl)
theorem wm_im_X6_balance : (Cond.instanceMethod yX6_balance) ∈ wsL_law := in_r9 _ (List.mem_of_getElem? (i := 17) rfl)
theorem wm_se_X6_balance : (Cond.selects RX6 yX6_balance yX6_balance) ∈ wsL_law := in_r9 _ (List.mem_of_getElem? (i := 18) rfl)
theorem wm_co_X6_balance : (Cond.code yX6_balance cX6_balance 1 (some .int)) ∈ wsL_law := in_r9 _ (List.mem_of_getElem? (i := 19) rfl)
theorem wm_ml_X6_50 : (Cond.methodLink RX6 50 yX6_wages) ∈ wsL_law := in_r9 _ (List.mem_of_getElem? (i := 20) rfl)
theorem wm_im_X6_wages : (Cond.instanceMethod yX6_wages) ∈ wsL_law := in_r9 _ (List.mem_of_getElem? (i := 21) rfl)
theorem wm_se_X6_wages : (Cond.selects RX6 yX6_wages yX6_wages) ∈ wsL_law := in_r9 _ (List.mem_of_getElem? (i := 22) rfl)
theorem wm_co_X6_wages : (Cond.code yX6_wages cX6_wages 3 (some .int)) ∈ wsL_law := in_r9 _ (List.mem_of_getElem? (i := 23) rfl)
theorem wm_ml_X6_54 : (Cond.methodLink RX6 54 yX6_charged) ∈ wsL_law := in_r10 _ (List.mem_of_getElem? (i := 0) rfl)
theorem wm_im_X6_charged : (Cond.instanceMethod yX6_charged) ∈ wsL_law := in_r10 _ (List.mem_of_getElem? (i := 1) rfl)
theorem wm_se_X6_charged : (Cond.selects RX6 yX6_charged yX6_charged) ∈ wsL_law := in_r10 _ (List.mem_of_getElem? (i := 2) rfl)
theorem wm_co_X6_charged : (Cond.code yX6_charged cX6_charged 1 (some .int)) ∈ wsL_law := in_r10 _ (List.mem_of_getElem? (i := 3) rfl)
theorem wm_ml_X6_61 : (Cond.methodLink RX6 61 yX6_earned) ∈ wsL_law := in_r10 _ (List.mem_of_getElem? (i := 4) rfl)
theorem wm_im_X6_earned : (Cond.instanceMethod yX6_earned) ∈ wsL_law := in_r10 _ (List.mem_of_getElem? (i := 5) rfl)
theorem wm_se_X6_earned : (Cond.selects RX6 yX6_earned yX6_earned) ∈ wsL_law := in_r10 _ (List.mem_of_getElem? (i := 6) rfl)
theorem wm_co_X6_earned : (Cond.code yX6_earned cX6_earned 1 (some .int)) ∈ wsL_law := in_r10 _ (List.mem_of_getElem? (i := 7) rfl)
theorem wm_ml_L_43 : (Cond.methodLink RL 43 yL_why) ∈ wsL_law := in_r10 _ (List.mem_of_getElem? (i := 8) rfl)
theorem wm_st_yL_why : (Cond.static yL_why) ∈ wsL_law := in_r10 _ (List.mem_of_getElem? (i := 9) rfl)
theorem wm_co_yL_why : (Cond.code yL_why cL_why 8 (some .int)) ∈ wsL_law := in_r10 _ (List.mem_of_getElem? (i := 10) rfl)
theorem wm_ml_L_104 : (Cond.methodLink RL 104 yX9_most) ∈ wsL_law := in_r10 _ (List.mem_of_getElem? (i := 11) rfl)
theorem wm_im_X9_most : (Cond.instanceMethod yX9_most) ∈ wsL_law := in_r10 _ (List.mem_of_getElem? (i := 12) rfl)
theorem wm_se_X9_most : (Cond.selects RX9 yX9_most yX9_most) ∈ wsL_law := in_r10 _ (List.mem_of_getElem? (i := 13) rfl)
theorem wm_co_X9_most : (Cond.code yX9_most cX9_most 3 (some .int)) ∈ wsL_law := in_r10 _ (List.mem_of_getElem? (i := 14) rfl)
theorem wm_ml_X9_121 : (Cond.methodLink RX9 121 yX0_couldBuy) ∈ wsL_law := in_r10 _ (List.mem_of_getElem? (i := 15) rfl)
theorem wm_im_X0_couldBuy : (Cond.instanceMethod yX0_couldBuy) ∈ wsL_law := in_r10 _ (List.mem_of_getElem? (i := 16) rfl)
theorem wm_se_X0_couldBuy : (Cond.selects RX0 yX0_couldBuy yX0_couldBuy) ∈ wsL_law := in_r10 _ (List.mem_of_getElem? (i := 17) rfl)
theorem wm_co_X0_couldBuy : (Cond.code yX0_couldBuy cX0_couldBuy 6 (some .int)) ∈ wsL_law := in_r10 _ (List.mem_of_getElem? (i := 18) rfl)
theorem wm_fl_X0_112 : (Cond.fieldLink RX0 112 "PurserLedgers$Item" "price" "I") ∈ wsL_law := in_r10 _ (List.mem_of_getElem? (i := 19) rfl)
theorem wm_fl_X0_95 : (Cond.fieldLink RX0 95 "PurserLedgers$Item" "inStock" "I") ∈ wsL_law := in_r10 _ (List.mem_of_getElem? (i := 20) rfl)
theorem wm_ml_X0_143 : (Cond.methodLink RX0 143 Lib.Math.min.name) ∈ wsL_law := in_r10 _ (List.mem_of_getElem? (i := 21) rfl)
theorem wm_st_Lib_Math_min_name : (Cond.static Lib.Math.min.name) ∈ wsL_law := in_r10 _ (List.mem_of_getElem? (i := 22) rfl)
theorem wm_in_java_lang_Math : (Cond.initialized "java/lang/Math") ∈ wsL_law := in_r10 _ (List.mem_of_getElem? (i := 23) rfl)
theorem wm_co_Lib_Math_min_name : (Cond.code Lib.Math.min.name Lib.Math.min.code 2 (some .int)) ∈ wsL_law := in_r11 _ (List.mem_of_getElem? (i := 0) rfl)
theorem wm_ml_X0_115 : (Cond.methodLink RX0 115 yX0_findSailor) ∈ wsL_law := in_r11 _ (List.mem_of_getElem? (i := 1) rfl)
theorem wm_ml_X0_91 : (Cond.methodLink RX0 91 yX0_findItem) ∈ wsL_law := in_r11 _ (List.mem_of_getElem? (i := 2) rfl)
theorem wm_ml_X0_139 : (Cond.methodLink RX0 139 yX6_balance) ∈ wsL_law := in_r11 _ (List.mem_of_getElem? (i := 3) rfl)
theorem wm_ml_L_107 : (Cond.methodLink RL 107 yX9_poorest) ∈ wsL_law := in_r11 _ (List.mem_of_getElem? (i := 4) rfl)
theorem wm_im_X9_poorest : (Cond.instanceMethod yX9_poorest) ∈ wsL_law := in_r11 _ (List.mem_of_getElem? (i := 5) rfl)
theorem wm_se_X9_poorest : (Cond.selects RX9 yX9_poorest yX9_poorest) ∈ wsL_law := in_r11 _ (List.mem_of_getElem? (i := 6) rfl)
theorem wm_co_X9_poorest : (Cond.code yX9_poorest cX9_poorest 2 (some .int)) ∈ wsL_law := in_r11 _ (List.mem_of_getElem? (i := 7) rfl)
theorem wm_ml_X9_130 : (Cond.methodLink RX9 130 yX0_sailorByBalance) ∈ wsL_law := in_r11 _ (List.mem_of_getElem? (i := 8) rfl)
theorem wm_im_X0_sailorByBalance : (Cond.instanceMethod yX0_sailorByBalance) ∈ wsL_law := in_r11 _ (List.mem_of_getElem? (i := 9) rfl)
theorem wm_se_X0_sailorByBalance : (Cond.selects RX0 yX0_sailorByBalance yX0_sailorByBalance) ∈ wsL_law := in_r11 _ (List.mem_of_getElem? (i := 10) rfl)
theorem wm_co_X0_sailorByBalance : (Cond.code yX0_sailorByBalance cX0_sailorByBalance 3 (some .int)) ∈ wsL_law := in_r11 _ (List.mem_of_getElem? (i := 11) rfl)
theorem wm_ct_X0_218 : (Cond.constant RX0 218 (-1000004)) ∈ wsL_law := in_r11 _ (List.mem_of_getElem? (i := 12) rfl)
theorem wm_ml_X0_149 : (Cond.methodLink RX0 149 yX6_isGone) ∈ wsL_law := in_r11 _ (List.mem_of_getElem? (i := 13) rfl)
theorem wm_im_X6_isGone : (Cond.instanceMethod yX6_isGone) ∈ wsL_law := in_r11 _ (List.mem_of_getElem? (i := 14) rfl)
theorem wm_se_X6_isGone : (Cond.selects RX6 yX6_isGone yX6_isGone) ∈ wsL_law := in_r11 _ (List.mem_of_getElem? (i := 15) rfl)
theorem wm_co_X6_isGone : (Cond.code yX6_isGone cX6_isGone 1 (some .boolean)) ∈ wsL_law := in_r11 _ (List.mem_of_getElem? (i := 16) rfl)
theorem wm_ml_X0_234 : (Cond.methodLink RX0 234 yX0_poorerThan) ∈ wsL_law := in_r11 _ (List.mem_of_getElem? (i := 17) rfl)
theorem wm_im_X0_poorerThan : (Cond.instanceMethod yX0_poorerThan) ∈ wsL_law := in_r11 _ (List.mem_of_getElem? (i := 18) rfl)
theorem wm_se_X0_poorerThan : (Cond.selects RX0 yX0_poorerThan yX0_poorerThan) ∈ wsL_law := in_r11 _ (List.mem_of_getElem? (i := 19) rfl)
theorem wm_co_X0_poorerThan : (Cond.code yX0_poorerThan cX0_poorerThan 6 (some .int)) ∈ wsL_law := in_r11 _ (List.mem_of_getElem? (i := 20) rfl)
theorem wm_ml_L_110 : (Cond.methodLink RL 110 yX9_share) ∈ wsL_law := in_r11 _ (List.mem_of_getElem? (i := 21) rfl)
theorem wm_im_X9_share : (Cond.instanceMethod yX9_share) ∈ wsL_law := in_r11 _ (List.mem_of_getElem? (i := 22) rfl)
theorem wm_se_X9_share : (Cond.selects RX9 yX9_share yX9_share) ∈ wsL_law := in_r11 _ (List.mem_of_getElem? (i := 23) rfl)
theorem wm_co_X9_share : (Cond.code yX9_share cX9_share 1 (some .int)) ∈ wsL_law := in_r12 _ (List.mem_of_getElem? (i := 0) rfl)
theorem wm_ml_X9_133 : (Cond.methodLink RX9 133 yX0_chargedShare) ∈ wsL_law := in_r12 _ (List.mem_of_getElem? (i := 1) rfl)
theorem wm_im_X0_chargedShare : (Cond.instanceMethod yX0_chargedShare) ∈ wsL_law := in_r12 _ (List.mem_of_getElem? (i := 2) rfl)
theorem wm_se_X0_chargedShare : (Cond.selects RX0 yX0_chargedShare yX0_chargedShare) ∈ wsL_law := in_r12 _ (List.mem_of_getElem? (i := 3) rfl)
theorem wm_co_X0_chargedShare : (Cond.code yX0_chargedShare cX0_chargedShare 4 (some .int)) ∈ wsL_law := in_r12 _ (List.mem_of_getElem? (i := 4) rfl)
theorem wm_ml_X0_237 : (Cond.methodLink RX0 237 yX6_earned) ∈ wsL_law := in_r12 _ (List.mem_of_getElem? (i := 5) rfl)
theorem wm_ml_X0_212 : (Cond.methodLink RX0 212 yX6_charged) ∈ wsL_law := in_r12 _ (List.mem_of_getElem? (i := 6) rfl)
theorem wm_st_X9_bitsOf : (Cond.static yX9_bitsOf) ∈ wsL_law := in_r12 _ (List.mem_of_getElem? (i := 7) rfl)
theorem wm_co_X9_bitsOf : (Cond.code yX9_bitsOf cX9_bitsOf 4 (some .int)) ∈ wsL_law := in_r12 _ (List.mem_of_getElem? (i := 8) rfl)
theorem wm_cf_X9_180 : (Cond.constantFloat RX9 180 (1258291200)) ∈ wsL_law := in_r12 _ (List.mem_of_getElem? (i := 9) rfl)
theorem wm_ml_L_114 : (Cond.methodLink RL 114 yL_bits) ∈ wsL_law := in_r12 _ (List.mem_of_getElem? (i := 10) rfl)
theorem wm_st_yL_bits : (Cond.static yL_bits) ∈ wsL_law := in_r12 _ (List.mem_of_getElem? (i := 11) rfl)
theorem wm_co_yL_bits : (Cond.code yL_bits cL_bits 7 (some .int)) ∈ wsL_law := in_r12 _ (List.mem_of_getElem? (i := 12) rfl)
theorem wm_ow_r12_13 : (Cond.constantLong RL 97 (8388608)) ∈ wsL_law := in_r12 _ (List.mem_of_getElem? (i := 13) rfl)
theorem wm_ow_r12_14 : (Cond.constantLong RL 99 (2)) ∈ wsL_law := in_r12 _ (List.mem_of_getElem? (i := 14) rfl)
theorem wm_ml_L_117 : (Cond.methodLink RL 117 yX9_ifPaidOff) ∈ wsL_law := in_r12 _ (List.mem_of_getElem? (i := 15) rfl)
theorem wm_im_X9_ifPaidOff : (Cond.instanceMethod yX9_ifPaidOff) ∈ wsL_law := in_r12 _ (List.mem_of_getElem? (i := 16) rfl)
theorem wm_se_X9_ifPaidOff : (Cond.selects RX9 yX9_ifPaidOff yX9_ifPaidOff) ∈ wsL_law := in_r12 _ (List.mem_of_getElem? (i := 17) rfl)
theorem wm_co_X9_ifPaidOff : (Cond.code yX9_ifPaidOff cX9_ifPaidOff 2 (some .int)) ∈ wsL_law := in_r12 _ (List.mem_of_getElem? (i := 18) rfl)
theorem wm_ml_X9_127 : (Cond.methodLink RX9 127 yX0_tellPayingOff) ∈ wsL_law := in_r12 _ (List.mem_of_getElem? (i := 19) rfl)
theorem wm_im_X0_tellPayingOff : (Cond.instanceMethod yX0_tellPayingOff) ∈ wsL_law := in_r12 _ (List.mem_of_getElem? (i := 20) rfl)
theorem wm_se_X0_tellPayingOff : (Cond.selects RX0 yX0_tellPayingOff yX0_tellPayingOff) ∈ wsL_law := in_r12 _ (List.mem_of_getElem? (i := 21) rfl)
theorem wm_co_X0_tellPayingOff : (Cond.code yX0_tellPayingOff cX0_tellPayingOff 2 (some .int)) ∈ wsL_law := in_r12 _ (List.mem_of_getElem? (i := 22) rfl)
theorem wm_ml_X0_219 : (Cond.methodLink RX0 219 yX0_wouldBePaid) ∈ wsL_law := in_r12 _ (List.mem_of_getElem? (i := 23) rfl)
theorem wm_im_X0_wouldBePaid : (Cond.instanceMethod yX0_wouldBePaid) ∈ wsL_law := in_r13 _ (List.mem_of_getElem? (i := 0) rfl)
theorem wm_se_X0_wouldBePaid : (Cond.selects RX0 yX0_wouldBePaid yX0_wouldBePaid) ∈ wsL_law := in_r13 _ (List.mem_of_getElem? (i := 1) rfl)
theorem wm_co_X0_wouldBePaid : (Cond.code yX0_wouldBePaid cX0_wouldBePaid 3 (some .int)) ∈ wsL_law := in_r13 _ (List.mem_of_getElem? (i := 2) rfl)
theorem wm_ml_X0_231 : (Cond.methodLink RX0 231 Lib.Math.max.name) ∈ wsL_law := in_r13 _ (List.mem_of_getElem? (i := 3) rfl)
theorem wm_st_Lib_Math_max_name : (Cond.static Lib.Math.max.name) ∈ wsL_law := in_r13 _ (List.mem_of_getElem? (i := 4) rfl)
theorem wm_co_Lib_Math_max_name : (Cond.code Lib.Math.max.name Lib.Math.max.code 2 (some .int)) ∈ wsL_law := in_r13 _ (List.mem_of_getElem? (i := 5) rfl)
theorem wm_ml_X0_222 : (Cond.methodLink RX0 222 yX8_missingFor) ∈ wsL_law := in_r13 _ (List.mem_of_getElem? (i := 6) rfl)
theorem wm_im_X8_missingFor : (Cond.instanceMethod yX8_missingFor) ∈ wsL_law := in_r13 _ (List.mem_of_getElem? (i := 7) rfl)
theorem wm_se_X8_missingFor : (Cond.selects RX8 yX8_missingFor yX8_missingFor) ∈ wsL_law := in_r13 _ (List.mem_of_getElem? (i := 8) rfl)
theorem wm_co_X8_missingFor : (Cond.code yX8_missingFor cX8_missingFor 2 (some .int)) ∈ wsL_law := in_r13 _ (List.mem_of_getElem? (i := 9) rfl)
theorem wm_ml_X0_225 : (Cond.methodLink RX0 225 yX0_debtsTogether) ∈ wsL_law := in_r13 _ (List.mem_of_getElem? (i := 10) rfl)
theorem wm_im_X0_debtsTogether : (Cond.instanceMethod yX0_debtsTogether) ∈ wsL_law := in_r13 _ (List.mem_of_getElem? (i := 11) rfl)
theorem wm_se_X0_debtsTogether : (Cond.selects RX0 yX0_debtsTogether yX0_debtsTogether) ∈ wsL_law := in_r13 _ (List.mem_of_getElem? (i := 12) rfl)
theorem wm_co_X0_debtsTogether : (Cond.code yX0_debtsTogether cX0_debtsTogether 3 (some .int)) ∈ wsL_law := in_r13 _ (List.mem_of_getElem? (i := 13) rfl)
theorem wm_ml_X0_228 : (Cond.methodLink RX0 228 yX0_setOfDebtors) ∈ wsL_law := in_r13 _ (List.mem_of_getElem? (i := 14) rfl)
theorem wm_im_X0_setOfDebtors : (Cond.instanceMethod yX0_setOfDebtors) ∈ wsL_law := in_r13 _ (List.mem_of_getElem? (i := 15) rfl)
theorem wm_se_X0_setOfDebtors : (Cond.selects RX0 yX0_setOfDebtors yX0_setOfDebtors) ∈ wsL_law := in_r13 _ (List.mem_of_getElem? (i := 16) rfl)
theorem wm_co_X0_setOfDebtors : (Cond.code yX0_setOfDebtors cX0_setOfDebtors 3 (some .int)) ∈ wsL_law := in_r13 _ (List.mem_of_getElem? (i := 17) rfl)
theorem wm_ml_L_142 : (Cond.methodLink RL 142 yX9_undo) ∈ wsL_law := in_r13 _ (List.mem_of_getElem? (i := 18) rfl)
theorem wm_im_X9_undo : (Cond.instanceMethod yX9_undo) ∈ wsL_law := in_r13 _ (List.mem_of_getElem? (i := 19) rfl)
theorem wm_se_X9_undo : (Cond.selects RX9 yX9_undo yX9_undo) ∈ wsL_law := in_r13 _ (List.mem_of_getElem? (i := 20) rfl)
theorem wm_co_X9_undo : (Cond.code yX9_undo cX9_undo 1 (some .int)) ∈ wsL_law := in_r13 _ (List.mem_of_getElem? (i := 21) rfl)
theorem wm_ml_X9_144 : (Cond.methodLink RX9 144 yX2_restoreInto) ∈ wsL_law := in_r13 _ (List.mem_of_getElem? (i := 22) rfl)
theorem wm_im_X2_restoreInto : (Cond.instanceMethod yX2_restoreInto) ∈ wsL_law := in_r13 _ (List.mem_of_getElem? (i := 23) rfl)
theorem wm_se_X2_restoreInto : (Cond.selects RX2 yX2_restoreInto yX2_restoreInto) ∈ wsL_law := in_r14 _ (List.mem_of_getElem? (i := 0) rfl)
theorem wm_co_X2_restoreInto : (Cond.code yX2_restoreInto cX2_restoreInto 5 (some .int)) ∈ wsL_law := in_r14 _ (List.mem_of_getElem? (i := 1) rfl)
theorem wm_fl_X2_22 : (Cond.fieldLink RX2 22 "PurserLedgers$History" "kept" "I") ∈ wsL_law := in_r14 _ (List.mem_of_getElem? (i := 2) rfl)
theorem wm_ct_X2_26 : (Cond.constant RX2 26 (-1000002)) ∈ wsL_law := in_r14 _ (List.mem_of_getElem? (i := 3) rfl)
theorem wm_ml_X2_18 : (Cond.methodLink RX2 18 yX0_copyFrom) ∈ wsL_law := in_r14 _ (List.mem_of_getElem? (i := 4) rfl)
theorem wm_im_X0_copyFrom : (Cond.instanceMethod yX0_copyFrom) ∈ wsL_law := in_r14 _ (List.mem_of_getElem? (i := 5) rfl)
theorem wm_se_X0_copyFrom : (Cond.selects RX0 yX0_copyFrom yX0_copyFrom) ∈ wsL_law := in_r14 _ (List.mem_of_getElem? (i := 6) rfl)
theorem wm_co_X0_copyFrom : (Cond.code yX0_copyFrom cX0_copyFrom 3 none) ∈ wsL_law := in_r14 _ (List.mem_of_getElem? (i := 7) rfl)
theorem wm_ml_X0_50 : (Cond.methodLink RX0 50 yX6_copyFrom) ∈ wsL_law := in_r14 _ (List.mem_of_getElem? (i := 8) rfl)
theorem wm_im_X6_copyFrom : (Cond.instanceMethod yX6_copyFrom) ∈ wsL_law := in_r14 _ (List.mem_of_getElem? (i := 9) rfl)
theorem wm_se_X6_copyFrom : (Cond.selects RX6 yX6_copyFrom yX6_copyFrom) ∈ wsL_law := in_r14 _ (List.mem_of_getElem? (i := 10) rfl)
theorem wm_co_X6_copyFrom : (Cond.code yX6_copyFrom cX6_copyFrom 2 none) ∈ wsL_law := in_r14 _ (List.mem_of_getElem? (i := 11) rfl)
theorem wm_ml_X0_54 : (Cond.methodLink RX0 54 yX3_copyFrom) ∈ wsL_law := in_r14 _ (List.mem_of_getElem? (i := 12) rfl)
theorem wm_im_X3_copyFrom : (Cond.instanceMethod yX3_copyFrom) ∈ wsL_law := in_r14 _ (List.mem_of_getElem? (i := 13) rfl)
theorem wm_se_X3_copyFrom : (Cond.selects RX3 yX3_copyFrom yX3_copyFrom) ∈ wsL_law := in_r14 _ (List.mem_of_getElem? (i := 14) rfl)
theorem wm_co_X3_copyFrom : (Cond.code yX3_copyFrom cX3_copyFrom 2 none) ∈ wsL_law := in_r14 _ (List.mem_of_getElem? (i := 15) rfl)
theorem wm_ml_X0_57 : (Cond.methodLink RX0 57 yX1_copyFrom) ∈ wsL_law := in_r14 _ (List.mem_of_getElem? (i := 16) rfl)
theorem wm_im_X1_copyFrom : (Cond.instanceMethod yX1_copyFrom) ∈ wsL_law := in_r14 _ (List.mem_of_getElem? (i := 17) rfl)
theorem wm_se_X1_copyFrom : (Cond.selects RX1 yX1_copyFrom yX1_copyFrom) ∈ wsL_law := in_r14 _ (List.mem_of_getElem? (i := 18) rfl)
theorem wm_co_X1_copyFrom : (Cond.code yX1_copyFrom cX1_copyFrom 2 none) ∈ wsL_law := in_r14 _ (List.mem_of_getElem? (i := 19) rfl)
theorem wm_ml_X0_60 : (Cond.methodLink RX0 60 yX8_copyFrom) ∈ wsL_law := in_r14 _ (List.mem_of_getElem? (i := 20) rfl)
theorem wm_im_X8_copyFrom : (Cond.instanceMethod yX8_copyFrom) ∈ wsL_law := in_r14 _ (List.mem_of_getElem? (i := 21) rfl)
theorem wm_se_X8_copyFrom : (Cond.selects RX8 yX8_copyFrom yX8_copyFrom) ∈ wsL_law := in_r14 _ (List.mem_of_getElem? (i := 22) rfl)
theorem wm_co_X8_copyFrom : (Cond.code yX8_copyFrom cX8_copyFrom 2 none) ∈ wsL_law := in_r14 _ (List.mem_of_getElem? (i := 23) rfl)
theorem wm_fl_X8_15 : (Cond.fieldLink RX8 15 "PurserLedgers$Totals" "drawn" "I") ∈ wsL_law := in_r15 _ (List.mem_of_getElem? (i := 0) rfl)
theorem wm_fl_X8_18 : (Cond.fieldLink RX8 18 "PurserLedgers$Totals" "spent" "I") ∈ wsL_law := in_r15 _ (List.mem_of_getElem? (i := 1) rfl)
theorem wm_fl_X8_21 : (Cond.fieldLink RX8 21 "PurserLedgers$Totals" "advanced" "I") ∈ wsL_law := in_r15 _ (List.mem_of_getElem? (i := 2) rfl)
theorem wm_fl_X8_24 : (Cond.fieldLink RX8 24 "PurserLedgers$Totals" "paid" "I") ∈ wsL_law := in_r15 _ (List.mem_of_getElem? (i := 3) rfl)
theorem wm_fl_X8_27 : (Cond.fieldLink RX8 27 "PurserLedgers$Totals" "charged" "I") ∈ wsL_law := in_r15 _ (List.mem_of_getElem? (i := 4) rfl)
theorem wm_fl_X8_30 : (Cond.fieldLink RX8 30 "PurserLedgers$Totals" "fines" "I") ∈ wsL_law := in_r15 _ (List.mem_of_getElem? (i := 5) rfl)
theorem wm_fl_X8_33 : (Cond.fieldLink RX8 33 "PurserLedgers$Totals" "forfeit" "I") ∈ wsL_law := in_r15 _ (List.mem_of_getElem? (i := 6) rfl)
theorem wm_ml_L_91 : (Cond.methodLink RL 91 yX9_payOff) ∈ wsL_law := in_r15 _ (List.mem_of_getElem? (i := 7) rfl)
theorem wm_im_X9_payOff : (Cond.instanceMethod yX9_payOff) ∈ wsL_law := in_r15 _ (List.mem_of_getElem? (i := 8) rfl)
theorem wm_se_X9_payOff : (Cond.selects RX9 yX9_payOff yX9_payOff) ∈ wsL_law := in_r15 _ (List.mem_of_getElem? (i := 9) rfl)
theorem wm_co_X9_payOff : (Cond.code yX9_payOff cX9_payOff 1 (some .int)) ∈ wsL_law := in_r15 _ (List.mem_of_getElem? (i := 10) rfl)
theorem wm_ml_X9_40 : (Cond.methodLink RX9 40 yX9_newTrial) ∈ wsL_law := in_r15 _ (List.mem_of_getElem? (i := 11) rfl)
theorem wm_im_X9_newTrial : (Cond.instanceMethod yX9_newTrial) ∈ wsL_law := in_r15 _ (List.mem_of_getElem? (i := 12) rfl)
theorem wm_se_X9_newTrial : (Cond.selects RX9 yX9_newTrial yX9_newTrial) ∈ wsL_law := in_r15 _ (List.mem_of_getElem? (i := 13) rfl)
theorem wm_co_X9_newTrial : (Cond.code yX9_newTrial cX9_newTrial 1 (some (.object "PurserLedgers$Books"))) ∈ wsL_law := in_r15 _ (List.mem_of_getElem? (i := 14) rfl)
theorem wm_ml_X9_173 : (Cond.methodLink RX9 173 yX0_copyFrom) ∈ wsL_law := in_r15 _ (List.mem_of_getElem? (i := 15) rfl)
theorem wm_ml_X9_87 : (Cond.methodLink RX9 87 yX0_endVoyage) ∈ wsL_law := in_r15 _ (List.mem_of_getElem? (i := 16) rfl)
theorem wm_im_X0_endVoyage : (Cond.instanceMethod yX0_endVoyage) ∈ wsL_law := in_r15 _ (List.mem_of_getElem? (i := 17) rfl)
theorem wm_se_X0_endVoyage : (Cond.selects RX0 yX0_endVoyage yX0_endVoyage) ∈ wsL_law := in_r15 _ (List.mem_of_getElem? (i := 18) rfl)
theorem wm_co_X0_endVoyage : (Cond.code yX0_endVoyage cX0_endVoyage 4 (some .int)) ∈ wsL_law := in_r15 _ (List.mem_of_getElem? (i := 19) rfl)
theorem wm_ct_X0_85 : (Cond.constant RX0 85 (-1000002)) ∈ wsL_law := in_r15 _ (List.mem_of_getElem? (i := 20) rfl)
theorem wm_ml_X0_196 : (Cond.methodLink RX0 196 yX0_payTo) ∈ wsL_law := in_r15 _ (List.mem_of_getElem? (i := 21) rfl)
theorem wm_im_X0_payTo : (Cond.instanceMethod yX0_payTo) ∈ wsL_law := in_r15 _ (List.mem_of_getElem? (i := 22) rfl)
theorem wm_se_X0_payTo : (Cond.selects RX0 yX0_payTo yX0_payTo) ∈ wsL_law := in_r15 _ (List.mem_of_getElem? (i := 23) rfl)
theorem wm_co_X0_payTo : (Cond.code yX0_payTo cX0_payTo 4 none) ∈ wsL_law := in_r16 _ (List.mem_of_getElem? (i := 0) rfl)
theorem wm_fl_X0_199 : (Cond.fieldLink RX0 199 "PurserLedgers$Sailor" "paid" "I") ∈ wsL_law := in_r16 _ (List.mem_of_getElem? (i := 1) rfl)
theorem wm_ml_X0_101 : (Cond.methodLink RX0 101 yX8_takeCash) ∈ wsL_law := in_r16 _ (List.mem_of_getElem? (i := 2) rfl)
theorem wm_im_X8_takeCash : (Cond.instanceMethod yX8_takeCash) ∈ wsL_law := in_r16 _ (List.mem_of_getElem? (i := 3) rfl)
theorem wm_se_X8_takeCash : (Cond.selects RX8 yX8_takeCash yX8_takeCash) ∈ wsL_law := in_r16 _ (List.mem_of_getElem? (i := 4) rfl)
theorem wm_co_X8_takeCash : (Cond.code yX8_takeCash cX8_takeCash 3 none) ∈ wsL_law := in_r16 _ (List.mem_of_getElem? (i := 5) rfl)
theorem wm_ml_X8_36 : (Cond.methodLink RX8 36 yX8_missingFor) ∈ wsL_law := in_r16 _ (List.mem_of_getElem? (i := 6) rfl)
theorem wm_ml_X0_132 : (Cond.methodLink RX0 132 yX1_enter) ∈ wsL_law := in_r16 _ (List.mem_of_getElem? (i := 7) rfl)
theorem wm_im_X1_enter : (Cond.instanceMethod yX1_enter) ∈ wsL_law := in_r16 _ (List.mem_of_getElem? (i := 8) rfl)
theorem wm_se_X1_enter : (Cond.selects RX1 yX1_enter yX1_enter) ∈ wsL_law := in_r16 _ (List.mem_of_getElem? (i := 9) rfl)
theorem wm_co_X1_enter : (Cond.code yX1_enter cX1_enter 4 none) ∈ wsL_law := in_r16 _ (List.mem_of_getElem? (i := 10) rfl)
theorem wm_ml_X1_29 : (Cond.methodLink RX1 29 yX1_putAhead) ∈ wsL_law := in_r16 _ (List.mem_of_getElem? (i := 11) rfl)
theorem wm_st_X1_putAhead : (Cond.static yX1_putAhead) ∈ wsL_law := in_r16 _ (List.mem_of_getElem? (i := 12) rfl)
theorem wm_co_X1_putAhead : (Cond.code yX1_putAhead cX1_putAhead 3 none) ∈ wsL_law := in_r16 _ (List.mem_of_getElem? (i := 13) rfl)
theorem wm_ml_X0_203 : (Cond.methodLink RX0 203 yX6_beginVoyage) ∈ wsL_law := in_r16 _ (List.mem_of_getElem? (i := 14) rfl)
theorem wm_im_X6_beginVoyage : (Cond.instanceMethod yX6_beginVoyage) ∈ wsL_law := in_r16 _ (List.mem_of_getElem? (i := 15) rfl)
theorem wm_se_X6_beginVoyage : (Cond.selects RX6 yX6_beginVoyage yX6_beginVoyage) ∈ wsL_law := in_r16 _ (List.mem_of_getElem? (i := 16) rfl)
theorem wm_co_X6_beginVoyage : (Cond.code yX6_beginVoyage cX6_beginVoyage 2 none) ∈ wsL_law := in_r16 _ (List.mem_of_getElem? (i := 17) rfl)
theorem wm_ml_X9_48 : (Cond.methodLink RX9 48 yX9_settleTrial) ∈ wsL_law := in_r16 _ (List.mem_of_getElem? (i := 18) rfl)
theorem wm_im_X9_settleTrial : (Cond.instanceMethod yX9_settleTrial) ∈ wsL_law := in_r16 _ (List.mem_of_getElem? (i := 19) rfl)
theorem wm_se_X9_settleTrial : (Cond.selects RX9 yX9_settleTrial yX9_settleTrial) ∈ wsL_law := in_r16 _ (List.mem_of_getElem? (i := 20) rfl)
theorem wm_co_X9_settleTrial : (Cond.code yX9_settleTrial cX9_settleTrial 2 (some .int)) ∈ wsL_law := in_r16 _ (List.mem_of_getElem? (i := 21) rfl)
theorem wm_ml_X9_177 : (Cond.methodLink RX9 177 yX2_record) ∈ wsL_law := in_r16 _ (List.mem_of_getElem? (i := 22) rfl)
theorem wm_im_X2_record : (Cond.instanceMethod yX2_record) ∈ wsL_law := in_r16 _ (List.mem_of_getElem? (i := 23) rfl)
theorem wm_se_X2_record : (Cond.selects RX2 yX2_record yX2_record) ∈ wsL_law := in_r17 _ (List.mem_of_getElem? (i := 0) rfl)
theorem wm_co_X2_record : (Cond.code yX2_record cX2_record 5 none) ∈ wsL_law := in_r17 _ (List.mem_of_getElem? (i := 1) rfl)
theorem wm_ml_L_145 : (Cond.methodLink RL 145 yL_cell) ∈ wsL_law := in_r17 _ (List.mem_of_getElem? (i := 2) rfl)
theorem wm_st_yL_cell : (Cond.static yL_cell) ∈ wsL_law := in_r17 _ (List.mem_of_getElem? (i := 3) rfl)
theorem wm_co_yL_cell : (Cond.code yL_cell cL_cell 2 (some .int)) ∈ wsL_law := in_r17 _ (List.mem_of_getElem? (i := 4) rfl)
theorem wm_ct_L_7 : (Cond.constant RL 7 (-1101764913)) ∈ wsL_law := in_r17 _ (List.mem_of_getElem? (i := 5) rfl)
theorem wm_ml_L_149 : (Cond.methodLink RL 149 yL_ship) ∈ wsL_law := in_r17 _ (List.mem_of_getElem? (i := 6) rfl)
theorem wm_st_yL_ship : (Cond.static yL_ship) ∈ wsL_law := in_r17 _ (List.mem_of_getElem? (i := 7) rfl)
theorem wm_co_yL_ship : (Cond.code yL_ship cL_ship 16 (some .boolean)) ∈ wsL_law := in_r17 _ (List.mem_of_getElem? (i := 8) rfl)
theorem wm_ct_L_38 : (Cond.constant RL 38 (-1000003)) ∈ wsL_law := in_r17 _ (List.mem_of_getElem? (i := 9) rfl)
theorem wm_ml_L_27 : (Cond.methodLink RL 27 yL_low) ∈ wsL_law := in_r17 _ (List.mem_of_getElem? (i := 10) rfl)
theorem wm_st_yL_low : (Cond.static yL_low) ∈ wsL_law := in_r17 _ (List.mem_of_getElem? (i := 11) rfl)
theorem wm_co_yL_low : (Cond.code yL_low cL_low 2 (some .int)) ∈ wsL_law := in_r17 _ (List.mem_of_getElem? (i := 12) rfl)
theorem wm_ct_L_8 : (Cond.constant RL 8 (2147483647)) ∈ wsL_law := in_r17 _ (List.mem_of_getElem? (i := 13) rfl)
theorem wm_ml_L_75 : (Cond.methodLink RL 75 yX9_stock) ∈ wsL_law := in_r17 _ (List.mem_of_getElem? (i := 14) rfl)
theorem wm_im_X9_stock : (Cond.instanceMethod yX9_stock) ∈ wsL_law := in_r17 _ (List.mem_of_getElem? (i := 15) rfl)
theorem wm_se_X9_stock : (Cond.selects RX9 yX9_stock yX9_stock) ∈ wsL_law := in_r17 _ (List.mem_of_getElem? (i := 16) rfl)
theorem wm_co_X9_stock : (Cond.code yX9_stock cX9_stock 4 (some .int)) ∈ wsL_law := in_r17 _ (List.mem_of_getElem? (i := 17) rfl)
theorem wm_ml_X9_52 : (Cond.methodLink RX9 52 yX0_buyForChest) ∈ wsL_law := in_r17 _ (List.mem_of_getElem? (i := 18) rfl)
theorem wm_im_X0_buyForChest : (Cond.instanceMethod yX0_buyForChest) ∈ wsL_law := in_r17 _ (List.mem_of_getElem? (i := 19) rfl)
theorem wm_se_X0_buyForChest : (Cond.selects RX0 yX0_buyForChest yX0_buyForChest) ∈ wsL_law := in_r17 _ (List.mem_of_getElem? (i := 20) rfl)
theorem wm_co_X0_buyForChest : (Cond.code yX0_buyForChest cX0_buyForChest 5 (some .int)) ∈ wsL_law := in_r17 _ (List.mem_of_getElem? (i := 21) rfl)
theorem wm_ct_X0_86 : (Cond.constant RX0 86 (-1000003)) ∈ wsL_law := in_r17 _ (List.mem_of_getElem? (i := 22) rfl)
theorem wm_ml_X0_109 : (Cond.methodLink RX0 109 yX3_takeIn) ∈ wsL_law := in_r17 _ (List.mem_of_getElem? (i := 23) rfl)
theorem wm_im_X3_takeIn : (Cond.instanceMethod yX3_takeIn) ∈ wsL_law := in_r18 _ (List.mem_of_getElem? (i := 0) rfl)
theorem wm_se_X3_takeIn : (Cond.selects RX3 yX3_takeIn yX3_takeIn) ∈ wsL_law := in_r18 _ (List.mem_of_getElem? (i := 1) rfl)
theorem wm_co_X3_takeIn : (Cond.code yX3_takeIn cX3_takeIn 3 none) ∈ wsL_law := in_r18 _ (List.mem_of_getElem? (i := 2) rfl)
theorem wm_ml_L_19 : (Cond.methodLink RL 19 yL_spend) ∈ wsL_law := in_r18 _ (List.mem_of_getElem? (i := 3) rfl)
theorem wm_st_yL_spend : (Cond.static yL_spend) ∈ wsL_law := in_r18 _ (List.mem_of_getElem? (i := 4) rfl)
theorem wm_co_yL_spend : (Cond.code yL_spend cL_spend 3 none) ∈ wsL_law := in_r18 _ (List.mem_of_getElem? (i := 5) rfl)
theorem wm_ml_L_78 : (Cond.methodLink RL 78 yX9_days) ∈ wsL_law := in_r18 _ (List.mem_of_getElem? (i := 6) rfl)
theorem wm_im_X9_days : (Cond.instanceMethod yX9_days) ∈ wsL_law := in_r18 _ (List.mem_of_getElem? (i := 7) rfl)
theorem wm_se_X9_days : (Cond.selects RX9 yX9_days yX9_days) ∈ wsL_law := in_r18 _ (List.mem_of_getElem? (i := 8) rfl)
theorem wm_co_X9_days : (Cond.code yX9_days cX9_days 2 (some .int)) ∈ wsL_law := in_r18 _ (List.mem_of_getElem? (i := 9) rfl)
theorem wm_ml_X9_81 : (Cond.methodLink RX9 81 yX0_passDays) ∈ wsL_law := in_r18 _ (List.mem_of_getElem? (i := 10) rfl)
theorem wm_im_X0_passDays : (Cond.instanceMethod yX0_passDays) ∈ wsL_law := in_r18 _ (List.mem_of_getElem? (i := 11) rfl)
theorem wm_se_X0_passDays : (Cond.selects RX0 yX0_passDays yX0_passDays) ∈ wsL_law := in_r18 _ (List.mem_of_getElem? (i := 12) rfl)
theorem wm_co_X0_passDays : (Cond.code yX0_passDays cX0_passDays 3 (some .int)) ∈ wsL_law := in_r18 _ (List.mem_of_getElem? (i := 13) rfl)
theorem wm_ml_X0_192 : (Cond.methodLink RX0 192 yX6_passDays) ∈ wsL_law := in_r18 _ (List.mem_of_getElem? (i := 14) rfl)
theorem wm_im_X6_passDays : (Cond.instanceMethod yX6_passDays) ∈ wsL_law := in_r18 _ (List.mem_of_getElem? (i := 15) rfl)
theorem wm_se_X6_passDays : (Cond.selects RX6 yX6_passDays yX6_passDays) ∈ wsL_law := in_r18 _ (List.mem_of_getElem? (i := 16) rfl)
theorem wm_co_X6_passDays : (Cond.code yX6_passDays cX6_passDays 3 none) ∈ wsL_law := in_r18 _ (List.mem_of_getElem? (i := 17) rfl)
theorem wm_ml_L_81 : (Cond.methodLink RL 81 yX9_leave) ∈ wsL_law := in_r18 _ (List.mem_of_getElem? (i := 18) rfl)
theorem wm_im_X9_leave : (Cond.instanceMethod yX9_leave) ∈ wsL_law := in_r18 _ (List.mem_of_getElem? (i := 19) rfl)
theorem wm_se_X9_leave : (Cond.selects RX9 yX9_leave yX9_leave) ∈ wsL_law := in_r18 _ (List.mem_of_getElem? (i := 20) rfl)
theorem wm_co_X9_leave : (Cond.code yX9_leave cX9_leave 2 (some .int)) ∈ wsL_law := in_r18 _ (List.mem_of_getElem? (i := 21) rfl)
theorem wm_ml_X9_68 : (Cond.methodLink RX9 68 yX0_letAshore) ∈ wsL_law := in_r18 _ (List.mem_of_getElem? (i := 22) rfl)
theorem wm_im_X0_letAshore : (Cond.instanceMethod yX0_letAshore) ∈ wsL_law := in_r18 _ (List.mem_of_getElem? (i := 23) rfl)
theorem wm_se_X0_letAshore : (Cond.selects RX0 yX0_letAshore yX0_letAshore) ∈ wsL_law := in_r19 _ (List.mem_of_getElem? (i := 0) rfl)
theorem wm_co_X0_letAshore : (Cond.code yX0_letAshore cX0_letAshore 4 (some .int)) ∈ wsL_law := in_r19 _ (List.mem_of_getElem? (i := 1) rfl)
theorem wm_ml_X0_180 : (Cond.methodLink RX0 180 yX6_isOfWatch) ∈ wsL_law := in_r19 _ (List.mem_of_getElem? (i := 2) rfl)
theorem wm_im_X6_isOfWatch : (Cond.instanceMethod yX6_isOfWatch) ∈ wsL_law := in_r19 _ (List.mem_of_getElem? (i := 3) rfl)
theorem wm_se_X6_isOfWatch : (Cond.selects RX6 yX6_isOfWatch yX6_isOfWatch) ∈ wsL_law := in_r19 _ (List.mem_of_getElem? (i := 4) rfl)
theorem wm_co_X6_isOfWatch : (Cond.code yX6_isOfWatch cX6_isOfWatch 2 (some .boolean)) ∈ wsL_law := in_r19 _ (List.mem_of_getElem? (i := 5) rfl)
theorem wm_ml_X6_46 : (Cond.methodLink RX6 46 yX6_isGone) ∈ wsL_law := in_r19 _ (List.mem_of_getElem? (i := 6) rfl)
theorem wm_ml_L_84 : (Cond.methodLink RL 84 yX9_sail) ∈ wsL_law := in_r19 _ (List.mem_of_getElem? (i := 7) rfl)
theorem wm_im_X9_sail : (Cond.instanceMethod yX9_sail) ∈ wsL_law := in_r19 _ (List.mem_of_getElem? (i := 8) rfl)
theorem wm_se_X9_sail : (Cond.selects RX9 yX9_sail yX9_sail) ∈ wsL_law := in_r19 _ (List.mem_of_getElem? (i := 9) rfl)
theorem wm_co_X9_sail : (Cond.code yX9_sail cX9_sail 1 (some .int)) ∈ wsL_law := in_r19 _ (List.mem_of_getElem? (i := 10) rfl)
theorem wm_ml_X9_74 : (Cond.methodLink RX9 74 yX0_putToSea) ∈ wsL_law := in_r19 _ (List.mem_of_getElem? (i := 11) rfl)
theorem wm_im_X0_putToSea : (Cond.instanceMethod yX0_putToSea) ∈ wsL_law := in_r19 _ (List.mem_of_getElem? (i := 12) rfl)
theorem wm_se_X0_putToSea : (Cond.selects RX0 yX0_putToSea yX0_putToSea) ∈ wsL_law := in_r19 _ (List.mem_of_getElem? (i := 13) rfl)
theorem wm_co_X0_putToSea : (Cond.code yX0_putToSea cX0_putToSea 3 (some .int)) ∈ wsL_law := in_r19 _ (List.mem_of_getElem? (i := 14) rfl)
theorem wm_ml_X0_189 : (Cond.methodLink RX0 189 yX6_goAway) ∈ wsL_law := in_r19 _ (List.mem_of_getElem? (i := 15) rfl)
theorem wm_im_X6_goAway : (Cond.instanceMethod yX6_goAway) ∈ wsL_law := in_r19 _ (List.mem_of_getElem? (i := 16) rfl)
theorem wm_se_X6_goAway : (Cond.selects RX6 yX6_goAway yX6_goAway) ∈ wsL_law := in_r19 _ (List.mem_of_getElem? (i := 17) rfl)
theorem wm_co_X6_goAway : (Cond.code yX6_goAway cX6_goAway 1 none) ∈ wsL_law := in_r19 _ (List.mem_of_getElem? (i := 18) rfl)
theorem wm_ml_X6_42 : (Cond.methodLink RX6 42 yX6_beginVoyage) ∈ wsL_law := in_r19 _ (List.mem_of_getElem? (i := 19) rfl)
theorem wm_ml_L_88 : (Cond.methodLink RL 88 yX9_port) ∈ wsL_law := in_r19 _ (List.mem_of_getElem? (i := 20) rfl)
theorem wm_im_X9_port : (Cond.instanceMethod yX9_port) ∈ wsL_law := in_r19 _ (List.mem_of_getElem? (i := 21) rfl)
theorem wm_se_X9_port : (Cond.selects RX9 yX9_port yX9_port) ∈ wsL_law := in_r19 _ (List.mem_of_getElem? (i := 22) rfl)
theorem wm_co_X9_port : (Cond.code yX9_port cX9_port 1 (some .int)) ∈ wsL_law := in_r19 _ (List.mem_of_getElem? (i := 23) rfl)
theorem wm_ml_X9_78 : (Cond.methodLink RX9 78 yX0_comeIntoPort) ∈ wsL_law := in_r20 _ (List.mem_of_getElem? (i := 0) rfl)
theorem wm_im_X0_comeIntoPort : (Cond.instanceMethod yX0_comeIntoPort) ∈ wsL_law := in_r20 _ (List.mem_of_getElem? (i := 1) rfl)
theorem wm_se_X0_comeIntoPort : (Cond.selects RX0 yX0_comeIntoPort yX0_comeIntoPort) ∈ wsL_law := in_r20 _ (List.mem_of_getElem? (i := 2) rfl)
theorem wm_co_X0_comeIntoPort : (Cond.code yX0_comeIntoPort cX0_comeIntoPort 1 (some .int)) ∈ wsL_law := in_r20 _ (List.mem_of_getElem? (i := 3) rfl)
theorem wm_ml_L_39 : (Cond.methodLink RL 39 yL_clear) ∈ wsL_law := in_r20 _ (List.mem_of_getElem? (i := 4) rfl)
theorem wm_st_yL_clear : (Cond.static yL_clear) ∈ wsL_law := in_r20 _ (List.mem_of_getElem? (i := 5) rfl)
theorem wm_co_yL_clear : (Cond.code yL_clear cL_clear 5 none) ∈ wsL_law := in_r20 _ (List.mem_of_getElem? (i := 6) rfl)
theorem wm_ml_L_69 : (Cond.methodLink RL 69 yL_pay) ∈ wsL_law := in_r20 _ (List.mem_of_getElem? (i := 7) rfl)
theorem wm_st_yL_pay : (Cond.static yL_pay) ∈ wsL_law := in_r20 _ (List.mem_of_getElem? (i := 8) rfl)
theorem wm_co_yL_pay : (Cond.code yL_pay cL_pay 5 none) ∈ wsL_law := in_r20 _ (List.mem_of_getElem? (i := 9) rfl)
theorem wm_ml_L_15 : (Cond.methodLink RL 15 yL_write) ∈ wsL_law := in_r20 _ (List.mem_of_getElem? (i := 10) rfl)
theorem wm_st_yL_write : (Cond.static yL_write) ∈ wsL_law := in_r20 _ (List.mem_of_getElem? (i := 11) rfl)
theorem wm_co_yL_write : (Cond.code yL_write cL_write 6 none) ∈ wsL_law := in_r20 _ (List.mem_of_getElem? (i := 12) rfl)
theorem wm_ml_L_94 : (Cond.methodLink RL 94 yX9_set) ∈ wsL_law := in_r20 _ (List.mem_of_getElem? (i := 13) rfl)
theorem wm_im_X9_set : (Cond.instanceMethod yX9_set) ∈ wsL_law := in_r20 _ (List.mem_of_getElem? (i := 14) rfl)
theorem wm_se_X9_set : (Cond.selects RX9 yX9_set yX9_set) ∈ wsL_law := in_r20 _ (List.mem_of_getElem? (i := 15) rfl)
theorem wm_co_X9_set : (Cond.code yX9_set cX9_set 3 (some .int)) ∈ wsL_law := in_r20 _ (List.mem_of_getElem? (i := 16) rfl)
theorem wm_ml_X9_90 : (Cond.methodLink RX9 90 yX0_changeSetting) ∈ wsL_law := in_r20 _ (List.mem_of_getElem? (i := 17) rfl)
theorem wm_im_X0_changeSetting : (Cond.instanceMethod yX0_changeSetting) ∈ wsL_law := in_r20 _ (List.mem_of_getElem? (i := 18) rfl)
theorem wm_se_X0_changeSetting : (Cond.selects RX0 yX0_changeSetting yX0_changeSetting) ∈ wsL_law := in_r20 _ (List.mem_of_getElem? (i := 19) rfl)
theorem wm_co_X0_changeSetting : (Cond.code yX0_changeSetting cX0_changeSetting 4 (some .int)) ∈ wsL_law := in_r20 _ (List.mem_of_getElem? (i := 20) rfl)
theorem wm_ml_L_153 : (Cond.methodLink RL 153 yL_people) ∈ wsL_law := in_r20 _ (List.mem_of_getElem? (i := 21) rfl)
theorem wm_st_yL_people : (Cond.static yL_people) ∈ wsL_law := in_r20 _ (List.mem_of_getElem? (i := 22) rfl)
theorem wm_co_yL_people : (Cond.code yL_people cL_people 21 (some .boolean)) ∈ wsL_law := in_r20 _ (List.mem_of_getElem? (i := 23) rfl)
theorem wm_ml_L_35 : (Cond.methodLink RL 35 yX9_sign) ∈ wsL_law := in_r21 _ (List.mem_of_getElem? (i := 0) rfl)
theorem wm_im_X9_sign : (Cond.instanceMethod yX9_sign) ∈ wsL_law := in_r21 _ (List.mem_of_getElem? (i := 1) rfl)
theorem wm_se_X9_sign : (Cond.selects RX9 yX9_sign yX9_sign) ∈ wsL_law := in_r21 _ (List.mem_of_getElem? (i := 2) rfl)
theorem wm_co_X9_sign : (Cond.code yX9_sign cX9_sign 3 (some .int)) ∈ wsL_law := in_r21 _ (List.mem_of_getElem? (i := 3) rfl)
theorem wm_ml_X9_44 : (Cond.methodLink RX9 44 yX0_signOn) ∈ wsL_law := in_r21 _ (List.mem_of_getElem? (i := 4) rfl)
theorem wm_im_X0_signOn : (Cond.instanceMethod yX0_signOn) ∈ wsL_law := in_r21 _ (List.mem_of_getElem? (i := 5) rfl)
theorem wm_se_X0_signOn : (Cond.selects RX0 yX0_signOn yX0_signOn) ∈ wsL_law := in_r21 _ (List.mem_of_getElem? (i := 6) rfl)
theorem wm_co_X0_signOn : (Cond.code yX0_signOn cX0_signOn 4 (some .int)) ∈ wsL_law := in_r21 _ (List.mem_of_getElem? (i := 7) rfl)
theorem wm_ml_X0_87 : (Cond.methodLink RX0 87 yX6_comeAboard) ∈ wsL_law := in_r21 _ (List.mem_of_getElem? (i := 8) rfl)
theorem wm_im_X6_comeAboard : (Cond.instanceMethod yX6_comeAboard) ∈ wsL_law := in_r21 _ (List.mem_of_getElem? (i := 9) rfl)
theorem wm_se_X6_comeAboard : (Cond.selects RX6 yX6_comeAboard yX6_comeAboard) ∈ wsL_law := in_r21 _ (List.mem_of_getElem? (i := 10) rfl)
theorem wm_co_X6_comeAboard : (Cond.code yX6_comeAboard cX6_comeAboard 3 none) ∈ wsL_law := in_r21 _ (List.mem_of_getElem? (i := 11) rfl)
theorem wm_ml_L_47 : (Cond.methodLink RL 47 yX9_sell) ∈ wsL_law := in_r21 _ (List.mem_of_getElem? (i := 12) rfl)
theorem wm_im_X9_sell : (Cond.instanceMethod yX9_sell) ∈ wsL_law := in_r21 _ (List.mem_of_getElem? (i := 13) rfl)
theorem wm_se_X9_sell : (Cond.selects RX9 yX9_sell yX9_sell) ∈ wsL_law := in_r21 _ (List.mem_of_getElem? (i := 14) rfl)
theorem wm_co_X9_sell : (Cond.code yX9_sell cX9_sell 4 (some .int)) ∈ wsL_law := in_r21 _ (List.mem_of_getElem? (i := 15) rfl)
theorem wm_ml_X9_56 : (Cond.methodLink RX9 56 yX0_sellFromChest) ∈ wsL_law := in_r21 _ (List.mem_of_getElem? (i := 16) rfl)
theorem wm_im_X0_sellFromChest : (Cond.instanceMethod yX0_sellFromChest) ∈ wsL_law := in_r21 _ (List.mem_of_getElem? (i := 17) rfl)
theorem wm_se_X0_sellFromChest : (Cond.selects RX0 yX0_sellFromChest yX0_sellFromChest) ∈ wsL_law := in_r21 _ (List.mem_of_getElem? (i := 18) rfl)
theorem wm_co_X0_sellFromChest : (Cond.code yX0_sellFromChest cX0_sellFromChest 7 (some .int)) ∈ wsL_law := in_r21 _ (List.mem_of_getElem? (i := 19) rfl)
theorem wm_fl_X0_126 : (Cond.fieldLink RX0 126 "PurserLedgers$Sailor" "bought" "I") ∈ wsL_law := in_r21 _ (List.mem_of_getElem? (i := 20) rfl)
theorem wm_ml_X0_119 : (Cond.methodLink RX0 119 yX0_reasonAgainst) ∈ wsL_law := in_r21 _ (List.mem_of_getElem? (i := 21) rfl)
theorem wm_im_X0_reasonAgainst : (Cond.instanceMethod yX0_reasonAgainst) ∈ wsL_law := in_r21 _ (List.mem_of_getElem? (i := 22) rfl)
theorem wm_se_X0_reasonAgainst : (Cond.selects RX0 yX0_reasonAgainst yX0_reasonAgainst) ∈ wsL_law := in_r21 _ (List.mem_of_getElem? (i := 23) rfl)
theorem wm_co_X0_reasonAgainst : (Cond.code yX0_reasonAgainst cX0_reasonAgainst 4 (some .int)) ∈ wsL_law := in_r22 _ (List.mem_of_getElem? (i := 0) rfl)
theorem wm_ml_X0_123 : (Cond.methodLink RX0 123 yX3_giveOut) ∈ wsL_law := in_r22 _ (List.mem_of_getElem? (i := 1) rfl)
theorem wm_im_X3_giveOut : (Cond.instanceMethod yX3_giveOut) ∈ wsL_law := in_r22 _ (List.mem_of_getElem? (i := 2) rfl)
theorem wm_se_X3_giveOut : (Cond.selects RX3 yX3_giveOut yX3_giveOut) ∈ wsL_law := in_r22 _ (List.mem_of_getElem? (i := 3) rfl)
theorem wm_co_X3_giveOut : (Cond.code yX3_giveOut cX3_giveOut 3 none) ∈ wsL_law := in_r22 _ (List.mem_of_getElem? (i := 4) rfl)
theorem wm_ml_L_51 : (Cond.methodLink RL 51 yX9_why) ∈ wsL_law := in_r22 _ (List.mem_of_getElem? (i := 5) rfl)
theorem wm_im_X9_why : (Cond.instanceMethod yX9_why) ∈ wsL_law := in_r22 _ (List.mem_of_getElem? (i := 6) rfl)
theorem wm_se_X9_why : (Cond.selects RX9 yX9_why yX9_why) ∈ wsL_law := in_r22 _ (List.mem_of_getElem? (i := 7) rfl)
theorem wm_co_X9_why : (Cond.code yX9_why cX9_why 4 (some .int)) ∈ wsL_law := in_r22 _ (List.mem_of_getElem? (i := 8) rfl)
theorem wm_ml_X9_118 : (Cond.methodLink RX9 118 yX0_reasonNotToSell) ∈ wsL_law := in_r22 _ (List.mem_of_getElem? (i := 9) rfl)
theorem wm_im_X0_reasonNotToSell : (Cond.instanceMethod yX0_reasonNotToSell) ∈ wsL_law := in_r22 _ (List.mem_of_getElem? (i := 10) rfl)
theorem wm_se_X0_reasonNotToSell : (Cond.selects RX0 yX0_reasonNotToSell yX0_reasonNotToSell) ∈ wsL_law := in_r22 _ (List.mem_of_getElem? (i := 11) rfl)
theorem wm_co_X0_reasonNotToSell : (Cond.code yX0_reasonNotToSell cX0_reasonNotToSell 6 (some .int)) ∈ wsL_law := in_r22 _ (List.mem_of_getElem? (i := 12) rfl)
theorem wm_ml_L_53 : (Cond.methodLink RL 53 yX9_advance) ∈ wsL_law := in_r22 _ (List.mem_of_getElem? (i := 13) rfl)
theorem wm_im_X9_advance : (Cond.instanceMethod yX9_advance) ∈ wsL_law := in_r22 _ (List.mem_of_getElem? (i := 14) rfl)
theorem wm_se_X9_advance : (Cond.selects RX9 yX9_advance yX9_advance) ∈ wsL_law := in_r22 _ (List.mem_of_getElem? (i := 15) rfl)
theorem wm_co_X9_advance : (Cond.code yX9_advance cX9_advance 3 (some .int)) ∈ wsL_law := in_r22 _ (List.mem_of_getElem? (i := 16) rfl)
theorem wm_ml_X9_59 : (Cond.methodLink RX9 59 yX0_advanceTo) ∈ wsL_law := in_r22 _ (List.mem_of_getElem? (i := 17) rfl)
theorem wm_im_X0_advanceTo : (Cond.instanceMethod yX0_advanceTo) ∈ wsL_law := in_r22 _ (List.mem_of_getElem? (i := 18) rfl)
theorem wm_se_X0_advanceTo : (Cond.selects RX0 yX0_advanceTo yX0_advanceTo) ∈ wsL_law := in_r22 _ (List.mem_of_getElem? (i := 19) rfl)
theorem wm_co_X0_advanceTo : (Cond.code yX0_advanceTo cX0_advanceTo 4 (some .int)) ∈ wsL_law := in_r22 _ (List.mem_of_getElem? (i := 20) rfl)
theorem wm_fl_X0_153 : (Cond.fieldLink RX0 153 "PurserLedgers$Sailor" "advances" "I") ∈ wsL_law := in_r22 _ (List.mem_of_getElem? (i := 21) rfl)
theorem wm_ml_L_56 : (Cond.methodLink RL 56 yX9_fine) ∈ wsL_law := in_r22 _ (List.mem_of_getElem? (i := 22) rfl)
theorem wm_im_X9_fine : (Cond.instanceMethod yX9_fine) ∈ wsL_law := in_r22 _ (List.mem_of_getElem? (i := 23) rfl)
theorem wm_se_X9_fine : (Cond.selects RX9 yX9_fine yX9_fine) ∈ wsL_law := in_r23 _ (List.mem_of_getElem? (i := 0) rfl)
theorem wm_co_X9_fine : (Cond.code yX9_fine cX9_fine 3 (some .int)) ∈ wsL_law := in_r23 _ (List.mem_of_getElem? (i := 1) rfl)
theorem wm_ml_X9_62 : (Cond.methodLink RX9 62 yX0_fineOne) ∈ wsL_law := in_r23 _ (List.mem_of_getElem? (i := 2) rfl)
theorem wm_im_X0_fineOne : (Cond.instanceMethod yX0_fineOne) ∈ wsL_law := in_r23 _ (List.mem_of_getElem? (i := 3) rfl)
theorem wm_se_X0_fineOne : (Cond.selects RX0 yX0_fineOne yX0_fineOne) ∈ wsL_law := in_r23 _ (List.mem_of_getElem? (i := 4) rfl)
theorem wm_co_X0_fineOne : (Cond.code yX0_fineOne cX0_fineOne 4 (some .int)) ∈ wsL_law := in_r23 _ (List.mem_of_getElem? (i := 5) rfl)
theorem wm_ml_X0_162 : (Cond.methodLink RX0 162 yX6_couldBeFined) ∈ wsL_law := in_r23 _ (List.mem_of_getElem? (i := 6) rfl)
theorem wm_im_X6_couldBeFined : (Cond.instanceMethod yX6_couldBeFined) ∈ wsL_law := in_r23 _ (List.mem_of_getElem? (i := 7) rfl)
theorem wm_se_X6_couldBeFined : (Cond.selects RX6 yX6_couldBeFined yX6_couldBeFined) ∈ wsL_law := in_r23 _ (List.mem_of_getElem? (i := 8) rfl)
theorem wm_co_X6_couldBeFined : (Cond.code yX6_couldBeFined cX6_couldBeFined 2 (some .boolean)) ∈ wsL_law := in_r23 _ (List.mem_of_getElem? (i := 9) rfl)
theorem wm_ml_X0_166 : (Cond.methodLink RX0 166 yX0_chargeFine) ∈ wsL_law := in_r23 _ (List.mem_of_getElem? (i := 10) rfl)
theorem wm_im_X0_chargeFine : (Cond.instanceMethod yX0_chargeFine) ∈ wsL_law := in_r23 _ (List.mem_of_getElem? (i := 11) rfl)
theorem wm_se_X0_chargeFine : (Cond.selects RX0 yX0_chargeFine yX0_chargeFine) ∈ wsL_law := in_r23 _ (List.mem_of_getElem? (i := 12) rfl)
theorem wm_co_X0_chargeFine : (Cond.code yX0_chargeFine cX0_chargeFine 4 none) ∈ wsL_law := in_r23 _ (List.mem_of_getElem? (i := 13) rfl)
theorem wm_fl_X0_170 : (Cond.fieldLink RX0 170 "PurserLedgers$Sailor" "fines" "I") ∈ wsL_law := in_r23 _ (List.mem_of_getElem? (i := 14) rfl)
theorem wm_ml_L_59 : (Cond.methodLink RL 59 yL_fine) ∈ wsL_law := in_r23 _ (List.mem_of_getElem? (i := 15) rfl)
theorem wm_st_yL_fine : (Cond.static yL_fine) ∈ wsL_law := in_r23 _ (List.mem_of_getElem? (i := 16) rfl)
theorem wm_co_yL_fine : (Cond.code yL_fine cL_fine 5 none) ∈ wsL_law := in_r23 _ (List.mem_of_getElem? (i := 17) rfl)
theorem wm_ml_L_62 : (Cond.methodLink RL 62 yX9_fineWatch) ∈ wsL_law := in_r23 _ (List.mem_of_getElem? (i := 18) rfl)
theorem wm_im_X9_fineWatch : (Cond.instanceMethod yX9_fineWatch) ∈ wsL_law := in_r23 _ (List.mem_of_getElem? (i := 19) rfl)
theorem wm_se_X9_fineWatch : (Cond.selects RX9 yX9_fineWatch yX9_fineWatch) ∈ wsL_law := in_r23 _ (List.mem_of_getElem? (i := 20) rfl)
theorem wm_co_X9_fineWatch : (Cond.code yX9_fineWatch cX9_fineWatch 3 (some .int)) ∈ wsL_law := in_r23 _ (List.mem_of_getElem? (i := 21) rfl)
theorem wm_ml_X9_65 : (Cond.methodLink RX9 65 yX0_fineAll) ∈ wsL_law := in_r23 _ (List.mem_of_getElem? (i := 22) rfl)
theorem wm_im_X0_fineAll : (Cond.instanceMethod yX0_fineAll) ∈ wsL_law := in_r23 _ (List.mem_of_getElem? (i := 23) rfl)
theorem wm_se_X0_fineAll : (Cond.selects RX0 yX0_fineAll yX0_fineAll) ∈ wsL_law := in_r24 _ (List.mem_of_getElem? (i := 0) rfl)
theorem wm_co_X0_fineAll : (Cond.code yX0_fineAll cX0_fineAll 7 (some .int)) ∈ wsL_law := in_r24 _ (List.mem_of_getElem? (i := 1) rfl)
theorem wm_ml_X0_174 : (Cond.methodLink RX0 174 yX0_sizeOfWatch) ∈ wsL_law := in_r24 _ (List.mem_of_getElem? (i := 2) rfl)
theorem wm_im_X0_sizeOfWatch : (Cond.instanceMethod yX0_sizeOfWatch) ∈ wsL_law := in_r24 _ (List.mem_of_getElem? (i := 3) rfl)
theorem wm_se_X0_sizeOfWatch : (Cond.selects RX0 yX0_sizeOfWatch yX0_sizeOfWatch) ∈ wsL_law := in_r24 _ (List.mem_of_getElem? (i := 4) rfl)
theorem wm_co_X0_sizeOfWatch : (Cond.code yX0_sizeOfWatch cX0_sizeOfWatch 4 (some .int)) ∈ wsL_law := in_r24 _ (List.mem_of_getElem? (i := 5) rfl)
theorem wm_ml_X0_177 : (Cond.methodLink RX0 177 yX0_couldAllBeFined) ∈ wsL_law := in_r24 _ (List.mem_of_getElem? (i := 6) rfl)
theorem wm_im_X0_couldAllBeFined : (Cond.instanceMethod yX0_couldAllBeFined) ∈ wsL_law := in_r24 _ (List.mem_of_getElem? (i := 7) rfl)
theorem wm_se_X0_couldAllBeFined : (Cond.selects RX0 yX0_couldAllBeFined yX0_couldAllBeFined) ∈ wsL_law := in_r24 _ (List.mem_of_getElem? (i := 8) rfl)
theorem wm_co_X0_couldAllBeFined : (Cond.code yX0_couldAllBeFined cX0_couldAllBeFined 6 (some .boolean)) ∈ wsL_law := in_r24 _ (List.mem_of_getElem? (i := 9) rfl)
theorem wm_ml_L_65 : (Cond.methodLink RL 65 yX9_dismiss) ∈ wsL_law := in_r24 _ (List.mem_of_getElem? (i := 10) rfl)
theorem wm_im_X9_dismiss : (Cond.instanceMethod yX9_dismiss) ∈ wsL_law := in_r24 _ (List.mem_of_getElem? (i := 11) rfl)
theorem wm_se_X9_dismiss : (Cond.selects RX9 yX9_dismiss yX9_dismiss) ∈ wsL_law := in_r24 _ (List.mem_of_getElem? (i := 12) rfl)
theorem wm_co_X9_dismiss : (Cond.code yX9_dismiss cX9_dismiss 2 (some .int)) ∈ wsL_law := in_r24 _ (List.mem_of_getElem? (i := 13) rfl)
theorem wm_ml_X9_84 : (Cond.methodLink RX9 84 yX0_sendAway) ∈ wsL_law := in_r24 _ (List.mem_of_getElem? (i := 14) rfl)
theorem wm_im_X0_sendAway : (Cond.instanceMethod yX0_sendAway) ∈ wsL_law := in_r24 _ (List.mem_of_getElem? (i := 15) rfl)
theorem wm_se_X0_sendAway : (Cond.selects RX0 yX0_sendAway yX0_sendAway) ∈ wsL_law := in_r24 _ (List.mem_of_getElem? (i := 16) rfl)
theorem wm_co_X0_sendAway : (Cond.code yX0_sendAway cX0_sendAway 4 (some .int)) ∈ wsL_law := in_r24 _ (List.mem_of_getElem? (i := 17) rfl)
theorem wm_ml_L_72 : (Cond.methodLink RL 72 yX9_back) ∈ wsL_law := in_r24 _ (List.mem_of_getElem? (i := 18) rfl)
theorem wm_im_X9_back : (Cond.instanceMethod yX9_back) ∈ wsL_law := in_r24 _ (List.mem_of_getElem? (i := 19) rfl)
theorem wm_se_X9_back : (Cond.selects RX9 yX9_back yX9_back) ∈ wsL_law := in_r24 _ (List.mem_of_getElem? (i := 20) rfl)
theorem wm_co_X9_back : (Cond.code yX9_back cX9_back 3 (some .int)) ∈ wsL_law := in_r24 _ (List.mem_of_getElem? (i := 21) rfl)
theorem wm_ml_X9_71 : (Cond.methodLink RX9 71 yX0_comeBack) ∈ wsL_law := in_r24 _ (List.mem_of_getElem? (i := 22) rfl)
theorem wm_im_X0_comeBack : (Cond.instanceMethod yX0_comeBack) ∈ wsL_law := in_r24 _ (List.mem_of_getElem? (i := 23) rfl)
theorem wm_se_X0_comeBack : (Cond.selects RX0 yX0_comeBack yX0_comeBack) ∈ wsL_law := in_r25 _ (List.mem_of_getElem? (i := 0) rfl)
theorem wm_co_X0_comeBack : (Cond.code yX0_comeBack cX0_comeBack 5 (some .int)) ∈ wsL_law := in_r25 _ (List.mem_of_getElem? (i := 1) rfl)
theorem wm_ml_L_156 : (Cond.methodLink RL 156 yL_isClear) ∈ wsL_law := in_r25 _ (List.mem_of_getElem? (i := 2) rfl)
theorem wm_st_yL_isClear : (Cond.static yL_isClear) ∈ wsL_law := in_r25 _ (List.mem_of_getElem? (i := 3) rfl)
theorem wm_co_yL_isClear : (Cond.code yL_isClear cL_isClear 9 (some .boolean)) ∈ wsL_law := in_r25 _ (List.mem_of_getElem? (i := 4) rfl)
theorem wm_ml_L_120 : (Cond.methodLink RL 120 yX9_clearIn) ∈ wsL_law := in_r25 _ (List.mem_of_getElem? (i := 5) rfl)
theorem wm_im_X9_clearIn : (Cond.instanceMethod yX9_clearIn) ∈ wsL_law := in_r25 _ (List.mem_of_getElem? (i := 6) rfl)
theorem wm_se_X9_clearIn : (Cond.selects RX9 yX9_clearIn yX9_clearIn) ∈ wsL_law := in_r25 _ (List.mem_of_getElem? (i := 7) rfl)
theorem wm_co_X9_clearIn : (Cond.code yX9_clearIn cX9_clearIn 2 (some .int)) ∈ wsL_law := in_r25 _ (List.mem_of_getElem? (i := 8) rfl)
theorem wm_ml_X9_124 : (Cond.methodLink RX9 124 yX0_daysUntilClear) ∈ wsL_law := in_r25 _ (List.mem_of_getElem? (i := 9) rfl)
theorem wm_im_X0_daysUntilClear : (Cond.instanceMethod yX0_daysUntilClear) ∈ wsL_law := in_r25 _ (List.mem_of_getElem? (i := 10) rfl)
theorem wm_se_X0_daysUntilClear : (Cond.selects RX0 yX0_daysUntilClear yX0_daysUntilClear) ∈ wsL_law := in_r25 _ (List.mem_of_getElem? (i := 11) rfl)
theorem wm_co_X0_daysUntilClear : (Cond.code yX0_daysUntilClear cX0_daysUntilClear 5 (some .int)) ∈ wsL_law := in_r25 _ (List.mem_of_getElem? (i := 12) rfl)
theorem wm_fl_X0_209 : (Cond.fieldLink RX0 209 "PurserLedgers$Sailor" "debt" "I") ∈ wsL_law := in_r25 _ (List.mem_of_getElem? (i := 13) rfl)
theorem wm_ml_X0_214 : (Cond.methodLink RX0 214 yX6_earnedAfter) ∈ wsL_law := in_r25 _ (List.mem_of_getElem? (i := 14) rfl)
theorem wm_im_X6_earnedAfter : (Cond.instanceMethod yX6_earnedAfter) ∈ wsL_law := in_r25 _ (List.mem_of_getElem? (i := 15) rfl)
theorem wm_se_X6_earnedAfter : (Cond.selects RX6 yX6_earnedAfter yX6_earnedAfter) ∈ wsL_law := in_r25 _ (List.mem_of_getElem? (i := 16) rfl)
theorem wm_co_X6_earnedAfter : (Cond.code yX6_earnedAfter cX6_earnedAfter 3 (some .int)) ∈ wsL_law := in_r25 _ (List.mem_of_getElem? (i := 17) rfl)
set_option maxRecDepth 100000 in
theorem wsL_good : wsL_law.all goodWord = true := by decide +kernel
/-- the one word list: a method's own code, then all words of the law -/
def wsO (y : MethodName) (cc : ByteArray) (n : Nat) (r : Option FieldType) : List Cond := Cond.code y cc n r :: wsL_law
theorem wsO_good {y y2 : MethodName} {cc cc2 : ByteArray} {n n2 : Nat} {r r2 : Option FieldType} (h : Cond.code y2 cc2 n2 r2 ∈ wsL_law) : GoodIn (wsO y cc n r) (wsO y2 cc2 n2 r2) := fun w hw => (List.mem_cons.mp hw).elim (fun e => by subst e; exact ⟨List.mem_cons_of_mem _ h, good_of_word (List.all_eq_true.mp wsL_good _ h)⟩) (fun hw => ⟨List.mem_cons_of_mem _ hw, good_of_word (List.all_eq_true.mp wsL_good _ hw)⟩)
