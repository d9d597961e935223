def RX0 : String := "LotRules$Calendar"
def RX1 : String := "LotRules$Lots"
def TX1 : u_T := fun k => match k with
  | 0 => ("LotRules$Lots", "goods", "[I", true)
  | 1 => ("LotRules$Lots", "owners", "[I", true)
  | 2 => ("LotRules$Lots", "lastDays", "[I", true)
  | 3 => ("LotRules$Lots", "arrivals", "[I", true)
  | 4 => ("LotRules$Lots", "open", "[Z", true)
  | 5 => ("LotRules$Lots", "reasons", "[I", true)
  | 6 => ("LotRules$Lots", "quarantined", "[Z", true)
  | 7 => ("LotRules$Lots", "kin", "[J", true)
  | _ => ("LotRules$Lots", "made", "I", false)
def tyX1 : Nat → FieldType := fun k => match k with
  | 0 => .array .int
  | 1 => .array .int
  | 2 => .array .int
  | 3 => .array .int
  | 4 => .array .boolean
  | 5 => .array .int
  | 6 => .array .boolean
  | 7 => .array .long
  | _ => .int
theorem nmX1 : ∀ a, a < 9 → ∀ b, b < 9 → a ≠ b → (TX1 a).2.1 ≠ (TX1 b).2.1 := by decide +kernel
theorem tyX1_ok : ∀ k, k < 9 → parseFieldDescriptor (TX1 k).2.2.1 = some (tyX1 k) := by decide +kernel
def RX2 : String := "LotRules$Rows"
def TX2 : u_T := fun k => match k with
  | 0 => ("LotRules$Rows", "lotOf", "[I", true)
  | 1 => ("LotRules$Rows", "kinds", "[I", true)
  | 2 => ("LotRules$Rows", "numbers", "[I", true)
  | _ => ("LotRules$Rows", "written", "I", false)
def tyX2 : Nat → FieldType := fun k => match k with
  | 0 => .array .int
  | 1 => .array .int
  | 2 => .array .int
  | _ => .int
theorem nmX2 : ∀ a, a < 4 → ∀ b, b < 4 → a ≠ b → (TX2 a).2.1 ≠ (TX2 b).2.1 := by decide +kernel
theorem tyX2_ok : ∀ k, k < 4 → parseFieldDescriptor (TX2 k).2.2.1 = some (tyX2 k) := by decide +kernel
def RX3 : String := "LotRules$Units"
def TX3 : u_T := fun k => match k with
  | 0 => ("LotRules$Units", "lotOf", "[I", true)
  | 1 => ("LotRules$Units", "bins", "[I", true)
  | 2 => ("LotRules$Units", "customers", "[I", true)
  | 3 => ("LotRules$Units", "daysOfGoing", "[I", true)
  | 4 => ("LotRules$Units", "firstLotOf", "[I", true)
  | 5 => ("LotRules$Units", "made", "I", false)
  | _ => ("LotRules$Units", "gone", "I", false)
def tyX3 : Nat → FieldType := fun k => match k with
  | 0 => .array .int
  | 1 => .array .int
  | 2 => .array .int
  | 3 => .array .int
  | 4 => .array .int
  | 5 => .int
  | _ => .int
theorem nmX3 : ∀ a, a < 7 → ∀ b, b < 7 → a ≠ b → (TX3 a).2.1 ≠ (TX3 b).2.1 := by decide +kernel
theorem tyX3_ok : ∀ k, k < 7 → parseFieldDescriptor (TX3 k).2.2.1 = some (tyX3 k) := by decide +kernel
def RX4 : String := "LotRules"
def TX4 : u_T := fun k => match k with
  | 0 => ("LotRules", "lots", "LLotRules$Lots;", true)
  | 1 => ("LotRules", "units", "LLotRules$Units;", true)
  | 2 => ("LotRules", "rows", "LLotRules$Rows;", true)
  | 3 => ("LotRules", "rotations", "[I", true)
  | 4 => ("LotRules", "mixtures", "[I", true)
  | 5 => ("LotRules", "wantedDays", "[I", true)
  | 6 => ("LotRules", "releasableReasons", "[I", true)
  | 7 => ("LotRules", "refusedLot", "I", false)
  | _ => ("LotRules", "hinderingLot", "I", false)
def tyX4 : Nat → FieldType := fun k => match k with
  | 0 => .object "LotRules$Lots"
  | 1 => .object "LotRules$Units"
  | 2 => .object "LotRules$Rows"
  | 3 => .array .int
  | 4 => .array .int
  | 5 => .array .int
  | 6 => .array .int
  | 7 => .int
  | _ => .int
theorem nmX4 : ∀ a, a < 9 → ∀ b, b < 9 → a ≠ b → (TX4 a).2.1 ≠ (TX4 b).2.1 := by decide +kernel
theorem tyX4_ok : ∀ k, k < 9 → parseFieldDescriptor (TX4 k).2.2.1 = some (tyX4 k) := by decide +kernel
def RX5 : String := "LotRulesModel"
def TX5 : u_T := fun k => match k with
  | 0 => ("LotRulesModel", "code", "I", false)
  | 1 => ("LotRulesModel", "lots", "I", false)
  | 2 => ("LotRulesModel", "good", "[I", true)
  | 3 => ("LotRulesModel", "owner", "[I", true)
  | 4 => ("LotRulesModel", "until", "[I", true)
  | 5 => ("LotRulesModel", "arrived", "[I", true)
  | 6 => ("LotRulesModel", "from", "[I", true)
  | 7 => ("LotRulesModel", "into", "[I", true)
  | 8 => ("LotRulesModel", "blocks", "[I", true)
  | 9 => ("LotRulesModel", "quiet", "[Z", true)
  | 10 => ("LotRulesModel", "rotation", "[I", true)
  | 11 => ("LotRulesModel", "mixture", "[I", true)
  | 12 => ("LotRulesModel", "want", "[I", true)
  | 13 => ("LotRulesModel", "rights", "[I", true)
  | 14 => ("LotRulesModel", "units", "I", false)
  | 15 => ("LotRulesModel", "lotOf", "[I", true)
  | 16 => ("LotRulesModel", "bin", "[I", true)
  | 17 => ("LotRulesModel", "customer", "[I", true)
  | 18 => ("LotRulesModel", "when", "[I", true)
  | 19 => ("LotRulesModel", "was", "[Z", true)
  | 20 => ("LotRulesModel", "rows", "I", false)
  | 21 => ("LotRulesModel", "rowLot", "[I", true)
  | 22 => ("LotRulesModel", "rowKind", "[I", true)
  | 23 => ("LotRulesModel", "rowNumber", "[I", true)
  | 24 => ("LotRulesModel", "mixed", "[I", true)
  | _ => ("LotRulesModel", "family", "[Z", true)
def tyX5 : Nat → FieldType := fun k => match k with
  | 0 => .int
  | 1 => .int
  | 2 => .array .int
  | 3 => .array .int
  | 4 => .array .int
  | 5 => .array .int
  | 6 => .array .int
  | 7 => .array .int
  | 8 => .array .int
  | 9 => .array .boolean
  | 10 => .array .int
  | 11 => .array .int
  | 12 => .array .int
  | 13 => .array .int
  | 14 => .int
  | 15 => .array .int
  | 16 => .array .int
  | 17 => .array .int
  | 18 => .array .int
  | 19 => .array .boolean
  | 20 => .int
  | 21 => .array .int
  | 22 => .array .int
  | 23 => .array .int
  | 24 => .array .int
  | _ => .array .boolean
theorem nmX5 : ∀ a, a < 26 → ∀ b, b < 26 → a ≠ b → (TX5 a).2.1 ≠ (TX5 b).2.1 := by decide +kernel
theorem tyX5_ok : ∀ k, k < 26 → parseFieldDescriptor (TX5 k).2.2.1 = some (tyX5 k) := by decide +kernel
def RJ6 : String := "java/lang/Integer"
def RL : String := "LotRulesLaw"
abbrev cX4_init : ByteArray := prog_1_method_1_code
def yX4_init : MethodName := ⟨RX4, "<init>", "()V"⟩
abbrev cX1_init : ByteArray := prog_3_method_1_code
def yX1_init : MethodName := ⟨RX1, "<init>", "()V"⟩
abbrev cX3_init : ByteArray := prog_5_method_1_code
def yX3_init : MethodName := ⟨RX3, "<init>", "()V"⟩
abbrev cX2_init : ByteArray := prog_4_method_1_code
def yX2_init : MethodName := ⟨RX2, "<init>", "()V"⟩
abbrev cX4_count : ByteArray := prog_1_method_23_code
def yX4_count : MethodName := ⟨RX4, "count", "(I)I"⟩
abbrev cL_lot : ByteArray := method_3_code
def yL_lot : MethodName := ⟨RL, "lot", "(LLotRules;IIII[J)I"⟩
abbrev cX4_lot : ByteArray := prog_1_method_2_code
def yX4_lot : MethodName := ⟨RX4, "lot", "(IIII)I"⟩
abbrev cX4_requireRange : ByteArray := prog_1_method_28_code
def yX4_requireRange : MethodName := ⟨RX4, "requireRange", "(III)V"⟩
abbrev cX1_haveRoom : ByteArray := prog_3_method_2_code
def yX1_haveRoom : MethodName := ⟨RX1, "haveRoom", "()Z"⟩
abbrev cX2_haveRoomFor : ByteArray := prog_4_method_2_code
def yX2_haveRoomFor : MethodName := ⟨RX2, "haveRoomFor", "(I)Z"⟩
abbrev cX4_requireRoom : ByteArray := prog_1_method_31_code
def yX4_requireRoom : MethodName := ⟨RX4, "requireRoom", "(Z)V"⟩
abbrev cX1_add : ByteArray := prog_3_method_3_code
def yX1_add : MethodName := ⟨RX1, "add", "(IIII)I"⟩
abbrev cX2_write : ByteArray := prog_4_method_3_code
def yX2_write : MethodName := ⟨RX2, "write", "(III)V"⟩
abbrev cL_rule : ByteArray := method_4_code
def yL_rule : MethodName := ⟨RL, "rule", "(LLotRules;III)I"⟩
abbrev cX4_rule : ByteArray := prog_1_method_3_code
def yX4_rule : MethodName := ⟨RX4, "rule", "(III)V"⟩
abbrev cL_wants : ByteArray := method_5_code
def yL_wants : MethodName := ⟨RL, "wants", "(LLotRules;II)I"⟩
abbrev cX4_wants : ByteArray := prog_1_method_4_code
def yX4_wants : MethodName := ⟨RX4, "wants", "(II)V"⟩
abbrev cL_right : ByteArray := method_6_code
def yL_right : MethodName := ⟨RL, "right", "(LLotRules;IIZ)I"⟩
abbrev cX4_right : ByteArray := prog_1_method_5_code
def yX4_right : MethodName := ⟨RX4, "right", "(IIZ)V"⟩
abbrev cL_block : ByteArray := method_7_code
def yL_block : MethodName := ⟨RL, "block", "(LLotRules;II[J)I"⟩
abbrev cX4_block : ByteArray := prog_1_method_6_code
def yX4_block : MethodName := ⟨RX4, "block", "(II)I"⟩
abbrev cX4_requireLot : ByteArray := prog_1_method_26_code
def yX4_requireLot : MethodName := ⟨RX4, "requireLot", "(I)V"⟩
abbrev cX4_requireState : ByteArray := prog_1_method_30_code
def yX4_requireState : MethodName := ⟨RX4, "requireState", "(Z)V"⟩
abbrev cJ6_bitCount : ByteArray := prog_11_method_49_code
def yJ6_bitCount : MethodName := ⟨RJ6, "bitCount", "(I)I"⟩
abbrev cL_release : ByteArray := method_8_code
def yL_release : MethodName := ⟨RL, "release", "(LLotRules;II[J)I"⟩
abbrev cX4_release : ByteArray := prog_1_method_7_code
def yX4_release : MethodName := ⟨RX4, "release", "(II)I"⟩
abbrev cL_quarantine : ByteArray := method_9_code
def yL_quarantine : MethodName := ⟨RL, "quarantine", "(LLotRules;IZ)I"⟩
abbrev cX4_quarantine : ByteArray := prog_1_method_8_code
def yX4_quarantine : MethodName := ⟨RX4, "quarantine", "(IZ)V"⟩
abbrev cL_order : ByteArray := method_10_code
def yL_order : MethodName := ⟨RL, "order", "(LLotRules;III[J)I"⟩
abbrev cX4_order : ByteArray := prog_1_method_9_code
def yX4_order : MethodName := ⟨RX4, "order", "(III)I"⟩
abbrev cX4_requireNotNegative : ByteArray := prog_1_method_29_code
def yX4_requireNotNegative : MethodName := ⟨RX4, "requireNotNegative", "(I)V"⟩
abbrev cX1_mayBeTakenFor : ByteArray := prog_3_method_9_code
def yX1_mayBeTakenFor : MethodName := ⟨RX1, "mayBeTakenFor", "(III)Z"⟩
abbrev cX1_mayBeTaken : ByteArray := prog_3_method_8_code
def yX1_mayBeTaken : MethodName := ⟨RX1, "mayBeTaken", "(I)Z"⟩
abbrev cX1_rivalsBefore : ByteArray := prog_3_method_10_code
def yX1_rivalsBefore : MethodName := ⟨RX1, "rivalsBefore", "(II)I"⟩
abbrev cX1_comesBefore : ByteArray := prog_3_method_11_code
def yX1_comesBefore : MethodName := ⟨RX1, "comesBefore", "(III)Z"⟩
abbrev cX1_arrivedBefore : ByteArray := prog_3_method_12_code
def yX1_arrivedBefore : MethodName := ⟨RX1, "arrivedBefore", "(II)Z"⟩
abbrev cL_allowed : ByteArray := method_11_code
def yL_allowed : MethodName := ⟨RL, "allowed", "(LLotRules;III[J)I"⟩
abbrev cX4_allowed : ByteArray := prog_1_method_10_code
def yX4_allowed : MethodName := ⟨RX4, "allowed", "(III)Z"⟩
abbrev cX4_mayGo : ByteArray := prog_1_method_24_code
def yX4_mayGo : MethodName := ⟨RX4, "mayGo", "(III)Z"⟩
abbrev cL_split : ByteArray := method_12_code
def yL_split : MethodName := ⟨RL, "split", "(LLotRules;I[J)I"⟩
abbrev cX4_split : ByteArray := prog_1_method_11_code
def yX4_split : MethodName := ⟨RX4, "split", "(I)I"⟩
abbrev cX1_addPartOf : ByteArray := prog_3_method_4_code
def yX1_addPartOf : MethodName := ⟨RX1, "addPartOf", "(I)I"⟩
abbrev cL_join : ByteArray := method_13_code
def yL_join : MethodName := ⟨RL, "join", "(LLotRules;II)I"⟩
abbrev cX4_join : ByteArray := prog_1_method_12_code
def yX4_join : MethodName := ⟨RX4, "join", "(II)V"⟩
abbrev cX1_areAlike : ByteArray := prog_3_method_6_code
def yX1_areAlike : MethodName := ⟨RX1, "areAlike", "(II)Z"⟩
abbrev cX1_closeInto : ByteArray := prog_3_method_5_code
def yX1_closeInto : MethodName := ⟨RX1, "closeInto", "(II)V"⟩
abbrev cX3_moveAll : ByteArray := prog_5_method_6_code
def yX3_moveAll : MethodName := ⟨RX3, "moveAll", "(II)V"⟩
abbrev cL_unit : ByteArray := method_14_code
def yL_unit : MethodName := ⟨RL, "unit", "(LLotRules;I[J)I"⟩
abbrev cX4_unit : ByteArray := prog_1_method_13_code
def yX4_unit : MethodName := ⟨RX4, "unit", "(I)I"⟩
abbrev cX3_haveRoom : ByteArray := prog_5_method_2_code
def yX3_haveRoom : MethodName := ⟨RX3, "haveRoom", "()Z"⟩
abbrev cX3_add : ByteArray := prog_5_method_3_code
def yX3_add : MethodName := ⟨RX3, "add", "(I)I"⟩
abbrev cL_put : ByteArray := method_15_code
def yL_put : MethodName := ⟨RL, "put", "(LLotRules;II)I"⟩
abbrev cX4_put : ByteArray := prog_1_method_14_code
def yX4_put : MethodName := ⟨RX4, "put", "(II)V"⟩
abbrev cX4_requireUnit : ByteArray := prog_1_method_27_code
def yX4_requireUnit : MethodName := ⟨RX4, "requireUnit", "(I)V"⟩
abbrev cX3_isGone : ByteArray := prog_5_method_4_code
def yX3_isGone : MethodName := ⟨RX3, "isGone", "(I)Z"⟩
abbrev cX4_lotThatHinders : ByteArray := prog_1_method_25_code
def yX4_lotThatHinders : MethodName := ⟨RX4, "lotThatHinders", "(II)I"⟩
abbrev cX1_lieTooFarApart : ByteArray := prog_3_method_7_code
def yX1_lieTooFarApart : MethodName := ⟨RX1, "lieTooFarApart", "(III)Z"⟩
abbrev cL_mixed : ByteArray := method_16_code
def yL_mixed : MethodName := ⟨RL, "mixed", "(LLotRules;I[J)I"⟩
abbrev cX4_mixed : ByteArray := prog_1_method_15_code
def yX4_mixed : MethodName := ⟨RX4, "mixed", "(I)I"⟩
abbrev cL_ship : ByteArray := method_17_code
def yL_ship : MethodName := ⟨RL, "ship", "(LLotRules;III)I"⟩
abbrev cX4_ship : ByteArray := prog_1_method_16_code
def yX4_ship : MethodName := ⟨RX4, "ship", "(III)V"⟩
abbrev cX3_send : ByteArray := prog_5_method_5_code
def yX3_send : MethodName := ⟨RX3, "send", "(III)V"⟩
abbrev cL_recall : ByteArray := method_18_code
def yL_recall : MethodName := ⟨RL, "recall", "(LLotRules;II[J)I"⟩
abbrev cX4_recall : ByteArray := prog_1_method_17_code
def yX4_recall : MethodName := ⟨RX4, "recall", "(II)I"⟩
abbrev cX1_familyOf : ByteArray := prog_3_method_13_code
def yX1_familyOf : MethodName := ⟨RX1, "familyOf", "(I)J"⟩
abbrev cX3_everOfFamily : ByteArray := prog_5_method_8_code
def yX3_everOfFamily : MethodName := ⟨RX3, "everOfFamily", "(JI)I"⟩
abbrev cL_where : ByteArray := method_19_code
def yL_where : MethodName := ⟨RL, "where", "(LLotRules;II[J)I"⟩
abbrev cX4_where : ByteArray := prog_1_method_18_code
def yX4_where : MethodName := ⟨RX4, "where", "(II)I"⟩
abbrev cL_history : ByteArray := method_20_code
def yL_history : MethodName := ⟨RL, "history", "(LLotRules;III[J)I"⟩
abbrev cX4_history : ByteArray := prog_1_method_19_code
def yX4_history : MethodName := ⟨RX4, "history", "(III)I"⟩
abbrev cX2_find : ByteArray := prog_4_method_4_code
def yX2_find : MethodName := ⟨RX2, "find", "(II)I"⟩
abbrev cL_told : ByteArray := method_21_code
def yL_told : MethodName := ⟨RL, "told", "(LLotRules;II[J)I"⟩
abbrev cX4_told : ByteArray := prog_1_method_20_code
def yX4_told : MethodName := ⟨RX4, "told", "(II)I"⟩
abbrev cX3_leftOf : ByteArray := prog_5_method_7_code
def yX3_leftOf : MethodName := ⟨RX3, "leftOf", "(I)I"⟩
abbrev cL_day : ByteArray := method_22_code
def yL_day : MethodName := ⟨RL, "day", "(LLotRules;II[J)I"⟩
abbrev cX4_day : ByteArray := prog_1_method_21_code
def yX4_day : MethodName := ⟨RX4, "day", "(II)I"⟩
abbrev cX0_fromYearDay : ByteArray := prog_2_method_2_code
def yX0_fromYearDay : MethodName := ⟨RX0, "fromYearDay", "(II)I"⟩
abbrev cX0_daysBefore : ByteArray := prog_2_method_5_code
def yX0_daysBefore : MethodName := ⟨RX0, "daysBefore", "(II)I"⟩
abbrev cX0_startOfYear : ByteArray := prog_2_method_4_code
def yX0_startOfYear : MethodName := ⟨RX0, "startOfYear", "(I)I"⟩
abbrev cX0_fromMonthDay : ByteArray := prog_2_method_3_code
def yX0_fromMonthDay : MethodName := ⟨RX0, "fromMonthDay", "(III)I"⟩
abbrev cL_date : ByteArray := method_23_code
def yL_date : MethodName := ⟨RL, "date", "(LLotRules;II[J)I"⟩
abbrev cX4_date : ByteArray := prog_1_method_22_code
def yX4_date : MethodName := ⟨RX4, "date", "(II)I"⟩
abbrev cX0_yearOf : ByteArray := prog_2_method_6_code
def yX0_yearOf : MethodName := ⟨RX0, "yearOf", "(I)I"⟩
abbrev cX0_monthOf : ByteArray := prog_2_method_7_code
def yX0_monthOf : MethodName := ⟨RX0, "monthOf", "(II)I"⟩
abbrev cX5_init : ByteArray := prog_7_method_1_code
def yX5_init : MethodName := ⟨RX5, "<init>", "()V"⟩
abbrev cX5_thrown : ByteArray := prog_7_method_2_code
def yX5_thrown : MethodName := ⟨RX5, "thrown", "()I"⟩
abbrev cX5_lot : ByteArray := prog_7_method_8_code
def yX5_lot : MethodName := ⟨RX5, "lot", "(IIII)I"⟩
abbrev cX5_in : ByteArray := prog_7_method_3_code
def yX5_in : MethodName := ⟨RX5, "in", "(III)Z"⟩
abbrev cX5_make : ByteArray := prog_7_method_7_code
def yX5_make : MethodName := ⟨RX5, "make", "(IIIII)I"⟩
abbrev cX5_row : ByteArray := prog_7_method_6_code
def yX5_row : MethodName := ⟨RX5, "row", "(III)V"⟩
abbrev cX5_rule : ByteArray := prog_7_method_9_code
def yX5_rule : MethodName := ⟨RX5, "rule", "(III)V"⟩
abbrev cX5_wants : ByteArray := prog_7_method_10_code
def yX5_wants : MethodName := ⟨RX5, "wants", "(II)V"⟩
abbrev cX5_right : ByteArray := prog_7_method_11_code
def yX5_right : MethodName := ⟨RX5, "right", "(IIZ)V"⟩
abbrev cX5_block : ByteArray := prog_7_method_13_code
def yX5_block : MethodName := ⟨RX5, "block", "(II)I"⟩
abbrev cX5_isLot : ByteArray := prog_7_method_4_code
def yX5_isLot : MethodName := ⟨RX5, "isLot", "(I)Z"⟩
abbrev cX5_isOpen : ByteArray := prog_7_method_5_code
def yX5_isOpen : MethodName := ⟨RX5, "isOpen", "(I)Z"⟩
abbrev cX5_bits : ByteArray := prog_7_method_12_code
def yX5_bits : MethodName := ⟨RX5, "bits", "(I)I"⟩
abbrev cX5_release : ByteArray := prog_7_method_14_code
def yX5_release : MethodName := ⟨RX5, "release", "(II)I"⟩
abbrev cX5_quarantine : ByteArray := prog_7_method_15_code
def yX5_quarantine : MethodName := ⟨RX5, "quarantine", "(IZ)V"⟩
abbrev cX5_order : ByteArray := prog_7_method_18_code
def yX5_order : MethodName := ⟨RX5, "order", "(III)I"⟩
abbrev cX5_mayBeTaken : ByteArray := prog_7_method_16_code
def yX5_mayBeTaken : MethodName := ⟨RX5, "mayBeTaken", "(I)Z"⟩
abbrev cX5_isBefore : ByteArray := prog_7_method_17_code
def yX5_isBefore : MethodName := ⟨RX5, "isBefore", "(II)Z"⟩
abbrev cX5_allowed : ByteArray := prog_7_method_20_code
def yX5_allowed : MethodName := ⟨RX5, "allowed", "(III)Z"⟩
abbrev cX5_isAllowed : ByteArray := prog_7_method_19_code
def yX5_isAllowed : MethodName := ⟨RX5, "isAllowed", "(III)Z"⟩
abbrev cX5_split : ByteArray := prog_7_method_21_code
def yX5_split : MethodName := ⟨RX5, "split", "(I)I"⟩
abbrev cX5_join : ByteArray := prog_7_method_22_code
def yX5_join : MethodName := ⟨RX5, "join", "(II)V"⟩
abbrev cX5_unit : ByteArray := prog_7_method_25_code
def yX5_unit : MethodName := ⟨RX5, "unit", "(I)I"⟩
abbrev cX5_put : ByteArray := prog_7_method_27_code
def yX5_put : MethodName := ⟨RX5, "put", "(II)V"⟩
abbrev cX5_isUnit : ByteArray := prog_7_method_23_code
def yX5_isUnit : MethodName := ⟨RX5, "isUnit", "(I)Z"⟩
abbrev cX5_isGone : ByteArray := prog_7_method_24_code
def yX5_isGone : MethodName := ⟨RX5, "isGone", "(I)Z"⟩
abbrev cX5_mayMix : ByteArray := prog_7_method_26_code
def yX5_mayMix : MethodName := ⟨RX5, "mayMix", "(II)Z"⟩
abbrev cX5_mixed : ByteArray := prog_7_method_28_code
def yX5_mixed : MethodName := ⟨RX5, "mixed", "(I)I"⟩
abbrev cX5_ship : ByteArray := prog_7_method_29_code
def yX5_ship : MethodName := ⟨RX5, "ship", "(III)V"⟩
abbrev cX5_recall : ByteArray := prog_7_method_31_code
def yX5_recall : MethodName := ⟨RX5, "recall", "(II)I"⟩
abbrev cX5_findFamily : ByteArray := prog_7_method_30_code
def yX5_findFamily : MethodName := ⟨RX5, "findFamily", "(I)V"⟩
abbrev cX5_where : ByteArray := prog_7_method_32_code
def yX5_where : MethodName := ⟨RX5, "where", "(II)I"⟩
abbrev cX5_history : ByteArray := prog_7_method_33_code
def yX5_history : MethodName := ⟨RX5, "history", "(III)I"⟩
abbrev cX5_told : ByteArray := prog_7_method_34_code
def yX5_told : MethodName := ⟨RX5, "told", "(II)I"⟩
abbrev cX5_day : ByteArray := prog_7_method_39_code
def yX5_day : MethodName := ⟨RX5, "day", "(II)I"⟩
abbrev cX5_dayOf : ByteArray := prog_7_method_38_code
def yX5_dayOf : MethodName := ⟨RX5, "dayOf", "(III)I"⟩
abbrev cX5_daysOfMonth : ByteArray := prog_7_method_36_code
def yX5_daysOfMonth : MethodName := ⟨RX5, "daysOfMonth", "(II)I"⟩
abbrev cX5_firstOf : ByteArray := prog_7_method_37_code
def yX5_firstOf : MethodName := ⟨RX5, "firstOf", "(I)I"⟩
abbrev cX5_daysOfYear : ByteArray := prog_7_method_35_code
def yX5_daysOfYear : MethodName := ⟨RX5, "daysOfYear", "(I)I"⟩
abbrev cX5_date : ByteArray := prog_7_method_40_code
def yX5_date : MethodName := ⟨RX5, "date", "(II)I"⟩
abbrev cX5_count : ByteArray := prog_7_method_41_code
def yX5_count : MethodName := ⟨RX5, "count", "(I)I"⟩
abbrev cL_law : ByteArray := code
def yL_law : MethodName := ⟨RL, "law", "([I)Z"⟩
/-! numbers: what a comparison of ints says of their values -/
theorem i_lt {x y : Int32} {a b : Int} (h : x < y) (ha : x.toInt = a) (hb : y.toInt = b) : a < b := by rw [← ha, ← hb]; exact Int32.lt_iff_toInt_lt.mp h
theorem i_nlt {x y : Int32} {a b : Int} (h : ¬ x < y) (ha : x.toInt = a) (hb : y.toInt = b) : b ≤ a := by rw [← ha, ← hb]; exact Int.not_lt.mp (fun q => h (Int32.lt_iff_toInt_lt.mpr q))
theorem i_le {x y : Int32} {a b : Int} (h : x ≤ y) (ha : x.toInt = a) (hb : y.toInt = b) : a ≤ b := by rw [← ha, ← hb]; exact Int32.le_iff_toInt_le.mp h
theorem i_nle {x y : Int32} {a b : Int} (h : ¬ x ≤ y) (ha : x.toInt = a) (hb : y.toInt = b) : b < a := by rw [← ha, ← hb]; exact Int.not_le.mp (fun q => h (Int32.le_iff_toInt_le.mpr q))
theorem i_eq {x y : Int32} {a b : Int} (h : x = y) (ha : x.toInt = a) (hb : y.toInt = b) : a = b := by rw [← ha, ← hb, h]
theorem i_ne {x y : Int32} {a b : Int} (h : ¬ x = y) (ha : x.toInt = a) (hb : y.toInt = b) : a ≠ b := by rw [← ha, ← hb]; exact fun q => h (Int32.toInt_inj.mp q)
theorem i_of {x y : Int32} {a : Int} (h : x.toInt = a) (hb : y.toInt = a) : x = y := Int32.toInt_inj.mp (h.trans hb.symm)
theorem i_inc {x : Int32} (h : x.toInt < 2147483647) : (x + 1).toInt = x.toInt + 1 := by
  have h1 := Int32.le_toInt x
  rw [Int32.toInt_add, show (1 : Int32).toInt = 1 from by decide]
  exact Int.bmod_eq_of_le (by omega) (by omega)
theorem i_dec {x : Int32} (h : -2147483648 < x.toInt) : (x + (-1)).toInt = x.toInt - 1 := by
  have h1 := Int32.toInt_lt x
  rw [Int32.toInt_add, show (-1 : Int32).toInt = -1 from by decide]
  exact Int.bmod_eq_of_le (by omega) (by omega)
theorem i_dec1 {x : Int32} (h : -2147483648 < x.toInt) : (x - 1).toInt = x.toInt - 1 := by
  have h1 := Int32.toInt_lt x
  rw [Int32.toInt_sub, show (1 : Int32).toInt = 1 from by decide]
  exact Int.bmod_eq_of_le (by omega) (by omega)
theorem i_rg {x : Int32} {a : Int} {n : Nat} (h : 0 ≤ x.toInt ∧ x.toInt < a) (ha : a ≤ n) : 0 ≤ x.toInt ∧ x.toInt < n := ⟨h.1, Int.lt_of_lt_of_le h.2 ha⟩
theorem i_nar {x : Int32} (h : x = 0 ∨ x = 1) : narrow .boolean (.int x) = .int x := by rcases h with rfl | rfl <;> rfl
theorem i_out (x : Int32) {lo hi : Int} (hlh : lo ≤ hi) (h : ∀ k : Int, lo ≤ k → k ≤ hi → ¬ x.toInt = k) : x.toInt < lo ∨ hi < x.toInt := by
  rcases Int.lt_or_le x.toInt lo with q | q
  · exact Or.inl q
  · rcases Int.lt_or_le hi x.toInt with q2 | q2
    · exact Or.inr q2
    · exact absurd rfl (h _ q q2)
/-! loops: an invariant of the fuel and of the locals -/
theorem lp_ind (G : JFrame → Prop) (I : Nat → Array Slot → Prop) (m : MethodId) (pc : Nat) (z : ∀ ls, I 0 ls → G (F0 m pc ls [])) (st : ∀ n ls, I (n + 1) ls → (∀ ls', I n ls' → G (F0 m pc ls' [])) → G (F0 m pc ls [])) (n : Nat) : ∀ ls, I n ls → G (F0 m pc ls []) := by
  induction n with
  | zero => exact z
  | succ n ih => exact fun ls h => st n ls h ih
theorem lp_indH (G : Heap → List Loc → JFrame → Prop) (I : Nat → Heap → List Loc → Array Slot → Prop) (m : MethodId) (pc : Nat) (z : ∀ H locs ls, I 0 H locs ls → G H locs (F0 m pc ls [])) (st : ∀ n H locs ls, I (n + 1) H locs ls → (∀ H' locs' ls', I n H' locs' ls' → G H' locs' (F0 m pc ls' [])) → G H locs (F0 m pc ls [])) (n : Nat) : ∀ H locs ls, I n H locs ls → G H locs (F0 m pc ls []) := by
  induction n with
  | zero => exact z
  | succ n ih => exact fun H locs ls h => st n H locs ls h ih
theorem i_rgl {x : Int32} {a : Int} {n : Nat} (h : 0 ≤ x.toInt ∧ x.toInt ≤ a) (ha : a < n) : 0 ≤ x.toInt ∧ x.toInt < n := ⟨h.1, Int.lt_of_le_of_lt h.2 ha⟩
theorem i_add {x y : Int32} (h1 : -2147483648 ≤ x.toInt + y.toInt) (h2 : x.toInt + y.toInt < 2147483648) : (x + y).toInt = x.toInt + y.toInt := by
  rw [Int32.toInt_add]
  exact Int.bmod_eq_of_le (by omega) (by omega)
theorem i_sub {x y : Int32} (h1 : -2147483648 ≤ x.toInt - y.toInt) (h2 : x.toInt - y.toInt < 2147483648) : (x - y).toInt = x.toInt - y.toInt := by
  rw [Int32.toInt_sub]
  exact Int.bmod_eq_of_le (by omega) (by omega)
theorem va_RA_find {U : State} {cA : ClassId} {ty : FieldType} (h : va_RA U cA ty) : U.vm.findClass ("[" ++ ty.toString) = some cA := by
  cases ty with
  | object C => obtain ⟨_, _, _, _, _, h4⟩ := h; exact h4
  | _ => exact h
theorem arr_id {D : va_G} {cl : List vw_C} {tys : List (ClassId × FieldType)} {s : State} {c1 c2 : ClassId} {ty : FieldType} (hK : va_K D cl tys s) (i j : Nat) (hi : tys[i]? = some (c1, ty)) (hj : tys[j]? = some (c2, ty)) : c1 = c2 := Option.some.inj ((va_RA_find (hK.2 i _ hi).2).symm.trans (va_RA_find (hK.2 j _ hj).2))
