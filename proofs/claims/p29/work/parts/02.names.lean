def RX0 : String := "PancakePort$Lacy"
def TX0 : u_T := fun k => match k with
  | _ => ("", "", "", false)
def tyX0 : Nat → FieldType := fun k => match k with
  | _ => .int
abbrev wsX00 : List Cond := u_ws RX0 TX0 0
theorem nmX0 : ∀ a, a < 0 → ∀ b, b < 0 → a ≠ b → (TX0 a).2.1 ≠ (TX0 b).2.1 := by decide +kernel
theorem tyX0_ok : ∀ k, k < 0 → parseFieldDescriptor (TX0 k).2.2.1 = some (tyX0 k) := by decide +kernel
abbrev cX0_init : ByteArray := prog_2_method_1_code
def yX0_init : MethodName := ⟨RX0, "<init>", "()V"⟩
abbrev cX0_kind : ByteArray := prog_2_method_2_code
def yX0_kind : MethodName := ⟨RX0, "kind", "()I"⟩
abbrev cX0_batter : ByteArray := prog_2_method_3_code
def yX0_batter : MethodName := ⟨RX0, "batter", "()I"⟩
abbrev cX0_spreads : ByteArray := prog_2_method_4_code
def yX0_spreads : MethodName := ⟨RX0, "spreads", "(II)Z"⟩
def RX1 : String := "PancakePort$Mayor"
def TX1 : u_T := fun k => match k with
  | _ => ("", "", "", false)
def tyX1 : Nat → FieldType := fun k => match k with
  | _ => .int
abbrev wsX10 : List Cond := u_ws RX1 TX1 0
theorem nmX1 : ∀ a, a < 0 → ∀ b, b < 0 → a ≠ b → (TX1 a).2.1 ≠ (TX1 b).2.1 := by decide +kernel
theorem tyX1_ok : ∀ k, k < 0 → parseFieldDescriptor (TX1 k).2.2.1 = some (tyX1 k) := by decide +kernel
abbrev cX1_init : ByteArray := prog_3_method_1_code
def yX1_init : MethodName := ⟨RX1, "<init>", "()V"⟩
abbrev cX1_kind : ByteArray := prog_3_method_2_code
def yX1_kind : MethodName := ⟨RX1, "kind", "()I"⟩
abbrev cX1_batter : ByteArray := prog_3_method_3_code
def yX1_batter : MethodName := ⟨RX1, "batter", "()I"⟩
abbrev cX1_spreads : ByteArray := prog_3_method_4_code
def yX1_spreads : MethodName := ⟨RX1, "spreads", "(II)Z"⟩
def RX2 : String := "PancakePort$Night"
def TX2 : u_T := fun k => match k with
  | 0 => ("PancakePort$Night", "cells", "[I", true)
  | 1 => ("PancakePort$Night", "breakfasts", "[I", true)
  | 2 => ("PancakePort$Night", "colds", "[I", true)
  | 3 => ("PancakePort$Night", "souths", "[I", true)
  | 4 => ("PancakePort$Night", "easts", "[I", true)
  | 5 => ("PancakePort$Night", "thrown", "[I", true)
  | 6 => ("PancakePort$Night", "seen", "LPancakePort$Seen;", true)
  | 7 => ("PancakePort$Night", "covered", "I", false)
  | 8 => ("PancakePort$Night", "wind", "I", false)
  | 9 => ("PancakePort$Night", "batter", "I", false)
  | 10 => ("PancakePort$Night", "mornings", "I", false)
  | _ => ("PancakePort$Night", "tosses", "I", false)
def tyX2 : Nat → FieldType := fun k => match k with
  | 0 => .array .int
  | 1 => .array .int
  | 2 => .array .int
  | 3 => .array .int
  | 4 => .array .int
  | 5 => .array .int
  | 6 => .object "PancakePort$Seen"
  | 7 => .int
  | 8 => .int
  | 9 => .int
  | 10 => .int
  | _ => .int
abbrev wsX20 : List Cond := u_ws RX2 TX2 12
theorem nmX2 : ∀ a, a < 12 → ∀ b, b < 12 → a ≠ b → (TX2 a).2.1 ≠ (TX2 b).2.1 := by decide +kernel
theorem tyX2_ok : ∀ k, k < 12 → parseFieldDescriptor (TX2 k).2.2.1 = some (tyX2 k) := by decide +kernel
abbrev cX2_init : ByteArray := prog_4_method_1_code
def yX2_init : MethodName := ⟨RX2, "<init>", "()V"⟩
abbrev cX2_begin : ByteArray := prog_4_method_2_code
def yX2_begin : MethodName := ⟨RX2, "begin", "(LPancakePort$Reading;)V"⟩
abbrev cX2_wake : ByteArray := prog_4_method_3_code
def yX2_wake : MethodName := ⟨RX2, "wake", "(I)V"⟩
def RX3 : String := "PancakePort$Page"
def TX3 : u_T := fun k => match k with
  | 0 => ("PancakePort$Page", "codes", "[I", true)
  | _ => ("PancakePort$Page", "length", "I", false)
def tyX3 : Nat → FieldType := fun k => match k with
  | 0 => .array .int
  | _ => .int
abbrev wsX30 : List Cond := u_ws RX3 TX3 2
theorem nmX3 : ∀ a, a < 2 → ∀ b, b < 2 → a ≠ b → (TX3 a).2.1 ≠ (TX3 b).2.1 := by decide +kernel
theorem tyX3_ok : ∀ k, k < 2 → parseFieldDescriptor (TX3 k).2.2.1 = some (tyX3 k) := by decide +kernel
abbrev cX3_init : ByteArray := prog_5_method_1_code
def yX3_init : MethodName := ⟨RX3, "<init>", "()V"⟩
abbrev cX3_append : ByteArray := prog_5_method_2_code
def yX3_append : MethodName := ⟨RX3, "append", "(I)V"⟩
def RX4 : String := "PancakePort$Plan"
def TX4 : u_T := fun k => match k with
  | 0 => ("PancakePort$Plan", "crowds", "[I", true)
  | 1 => ("PancakePort$Plan", "prices", "[I", true)
  | 2 => ("PancakePort$Plan", "cheapest", "[I", true)
  | 3 => ("PancakePort$Plan", "least", "[I", true)
  | 4 => ("PancakePort$Plan", "chosen", "[I", true)
  | 5 => ("PancakePort$Plan", "chosenCount", "I", false)
  | _ => ("PancakePort$Plan", "price", "I", false)
def tyX4 : Nat → FieldType := fun k => match k with
  | 0 => .array .int
  | 1 => .array .int
  | 2 => .array .int
  | 3 => .array .int
  | 4 => .array .int
  | 5 => .int
  | _ => .int
abbrev wsX40 : List Cond := u_ws RX4 TX4 7
theorem nmX4 : ∀ a, a < 7 → ∀ b, b < 7 → a ≠ b → (TX4 a).2.1 ≠ (TX4 b).2.1 := by decide +kernel
theorem tyX4_ok : ∀ k, k < 7 → parseFieldDescriptor (TX4 k).2.2.1 = some (tyX4 k) := by decide +kernel
abbrev cX4_init : ByteArray := prog_6_method_1_code
def yX4_init : MethodName := ⟨RX4, "<init>", "()V"⟩
def RX5 : String := "PancakePort$Reading"
def TX5 : u_T := fun k => match k with
  | 0 => ("PancakePort$Reading", "cells", "[I", true)
  | 1 => ("PancakePort$Reading", "kinds", "[I", true)
  | 2 => ("PancakePort$Reading", "souths", "[I", true)
  | 3 => ("PancakePort$Reading", "easts", "[I", true)
  | 4 => ("PancakePort$Reading", "sleepers", "I", false)
  | 5 => ("PancakePort$Reading", "tossers", "I", false)
  | 6 => ("PancakePort$Reading", "row", "I", false)
  | _ => ("PancakePort$Reading", "due", "I", false)
def tyX5 : Nat → FieldType := fun k => match k with
  | 0 => .array .int
  | 1 => .array .int
  | 2 => .array .int
  | 3 => .array .int
  | 4 => .int
  | 5 => .int
  | 6 => .int
  | _ => .int
abbrev wsX50 : List Cond := u_ws RX5 TX5 8
theorem nmX5 : ∀ a, a < 8 → ∀ b, b < 8 → a ≠ b → (TX5 a).2.1 ≠ (TX5 b).2.1 := by decide +kernel
theorem tyX5_ok : ∀ k, k < 8 → parseFieldDescriptor (TX5 k).2.2.1 = some (tyX5 k) := by decide +kernel
abbrev cX5_init : ByteArray := prog_7_method_1_code
def yX5_init : MethodName := ⟨RX5, "<init>", "()V"⟩
abbrev cX5_read : ByteArray := prog_7_method_2_code
def yX5_read : MethodName := ⟨RX5, "read", "(LPancakePort$Page;)I"⟩
abbrev cX5_isWhole : ByteArray := prog_7_method_3_code
def yX5_isWhole : MethodName := ⟨RX5, "isWhole", "()Z"⟩
abbrev cX5_takes : ByteArray := prog_7_method_4_code
def yX5_takes : MethodName := ⟨RX5, "takes", "(I)Z"⟩
abbrev cX5_takesRow : ByteArray := prog_7_method_5_code
def yX5_takesRow : MethodName := ⟨RX5, "takesRow", "(I)Z"⟩
abbrev cX5_takesColumn : ByteArray := prog_7_method_6_code
def yX5_takesColumn : MethodName := ⟨RX5, "takesColumn", "(I)Z"⟩
abbrev cX5_takesAfterSleeper : ByteArray := prog_7_method_7_code
def yX5_takesAfterSleeper : MethodName := ⟨RX5, "takesAfterSleeper", "(I)Z"⟩
abbrev cX5_takesKind : ByteArray := prog_7_method_8_code
def yX5_takesKind : MethodName := ⟨RX5, "takesKind", "(I)Z"⟩
abbrev cX5_takesSouth : ByteArray := prog_7_method_9_code
def yX5_takesSouth : MethodName := ⟨RX5, "takesSouth", "(I)Z"⟩
abbrev cX5_takesEast : ByteArray := prog_7_method_10_code
def yX5_takesEast : MethodName := ⟨RX5, "takesEast", "(I)Z"⟩
abbrev cX5_takesAfterTosser : ByteArray := prog_7_method_11_code
def yX5_takesAfterTosser : MethodName := ⟨RX5, "takesAfterTosser", "(I)Z"⟩
def RX6 : String := "PancakePort$Seen"
def TX6 : u_T := fun k => match k with
  | 0 => ("PancakePort$Seen", "throwers", "[I", true)
  | 1 => ("PancakePort$Seen", "aims", "[I", true)
  | 2 => ("PancakePort$Seen", "columns", "[I", true)
  | _ => ("PancakePort$Seen", "count", "I", false)
def tyX6 : Nat → FieldType := fun k => match k with
  | 0 => .array .int
  | 1 => .array .int
  | 2 => .array .int
  | _ => .int
abbrev wsX60 : List Cond := u_ws RX6 TX6 4
theorem nmX6 : ∀ a, a < 4 → ∀ b, b < 4 → a ≠ b → (TX6 a).2.1 ≠ (TX6 b).2.1 := by decide +kernel
theorem tyX6_ok : ∀ k, k < 4 → parseFieldDescriptor (TX6 k).2.2.1 = some (tyX6 k) := by decide +kernel
abbrev cX6_init : ByteArray := prog_8_method_1_code
def yX6_init : MethodName := ⟨RX6, "<init>", "()V"⟩
abbrev cX6_turnsOf : ByteArray := prog_8_method_3_code
def yX6_turnsOf : MethodName := ⟨RX6, "turnsOf", "(I)I"⟩
abbrev cX6_allows : ByteArray := prog_8_method_4_code
def yX6_allows : MethodName := ⟨RX6, "allows", "(II)Z"⟩
def RX7 : String := "PancakePort$Thrifty"
def TX7 : u_T := fun k => match k with
  | _ => ("", "", "", false)
def tyX7 : Nat → FieldType := fun k => match k with
  | _ => .int
abbrev wsX70 : List Cond := u_ws RX7 TX7 0
theorem nmX7 : ∀ a, a < 0 → ∀ b, b < 0 → a ≠ b → (TX7 a).2.1 ≠ (TX7 b).2.1 := by decide +kernel
theorem tyX7_ok : ∀ k, k < 0 → parseFieldDescriptor (TX7 k).2.2.1 = some (tyX7 k) := by decide +kernel
abbrev cX7_init : ByteArray := prog_9_method_1_code
def yX7_init : MethodName := ⟨RX7, "<init>", "()V"⟩
abbrev cX7_kind : ByteArray := prog_9_method_2_code
def yX7_kind : MethodName := ⟨RX7, "kind", "()I"⟩
abbrev cX7_batter : ByteArray := prog_9_method_3_code
def yX7_batter : MethodName := ⟨RX7, "batter", "()I"⟩
abbrev cX7_spreads : ByteArray := prog_9_method_4_code
def yX7_spreads : MethodName := ⟨RX7, "spreads", "(II)Z"⟩
def RX8 : String := "PancakePort$Tosser"
def TX8 : u_T := fun k => match k with
  | _ => ("", "", "", false)
def tyX8 : Nat → FieldType := fun k => match k with
  | _ => .int
abbrev wsX80 : List Cond := u_ws RX8 TX8 0
theorem nmX8 : ∀ a, a < 0 → ∀ b, b < 0 → a ≠ b → (TX8 a).2.1 ≠ (TX8 b).2.1 := by decide +kernel
theorem tyX8_ok : ∀ k, k < 0 → parseFieldDescriptor (TX8 k).2.2.1 = some (tyX8 k) := by decide +kernel
abbrev cX8_init : ByteArray := prog_10_method_1_code
def yX8_init : MethodName := ⟨RX8, "<init>", "()V"⟩
abbrev cX8_kind : ByteArray := prog_10_method_2_code
def yX8_kind : MethodName := ⟨RX8, "kind", "()I"⟩
abbrev cX8_batter : ByteArray := prog_10_method_3_code
def yX8_batter : MethodName := ⟨RX8, "batter", "()I"⟩
abbrev cX8_spreads : ByteArray := prog_10_method_4_code
def yX8_spreads : MethodName := ⟨RX8, "spreads", "(II)Z"⟩
def RX9 : String := "PancakePort$Wide"
def TX9 : u_T := fun k => match k with
  | _ => ("", "", "", false)
def tyX9 : Nat → FieldType := fun k => match k with
  | _ => .int
abbrev wsX90 : List Cond := u_ws RX9 TX9 0
theorem nmX9 : ∀ a, a < 0 → ∀ b, b < 0 → a ≠ b → (TX9 a).2.1 ≠ (TX9 b).2.1 := by decide +kernel
theorem tyX9_ok : ∀ k, k < 0 → parseFieldDescriptor (TX9 k).2.2.1 = some (tyX9 k) := by decide +kernel
abbrev cX9_init : ByteArray := prog_11_method_1_code
def yX9_init : MethodName := ⟨RX9, "<init>", "()V"⟩
abbrev cX9_kind : ByteArray := prog_11_method_2_code
def yX9_kind : MethodName := ⟨RX9, "kind", "()I"⟩
abbrev cX9_batter : ByteArray := prog_11_method_3_code
def yX9_batter : MethodName := ⟨RX9, "batter", "()I"⟩
abbrev cX9_spreads : ByteArray := prog_11_method_4_code
def yX9_spreads : MethodName := ⟨RX9, "spreads", "(II)Z"⟩
def RX10 : String := "PancakePort"
def TX10 : u_T := fun k => match k with
  | 0 => ("PancakePort", "page", "LPancakePort$Page;", true)
  | 1 => ("PancakePort", "reading", "LPancakePort$Reading;", true)
  | 2 => ("PancakePort", "tossers", "[LPancakePort$Tosser;", true)
  | 3 => ("PancakePort", "now", "LPancakePort$Night;", true)
  | 4 => ("PancakePort", "kept", "LPancakePort$Night;", true)
  | 5 => ("PancakePort", "plan", "LPancakePort$Plan;", true)
  | 6 => ("PancakePort", "chances", "[I", true)
  | 7 => ("PancakePort", "sleeperCount", "I", false)
  | 8 => ("PancakePort", "tosserCount", "I", false)
  | 9 => ("PancakePort", "portsRead", "I", false)
  | _ => ("PancakePort", "imageKept", "Z", false)
def tyX10 : Nat → FieldType := fun k => match k with
  | 0 => .object "PancakePort$Page"
  | 1 => .object "PancakePort$Reading"
  | 2 => .array (.object "PancakePort$Tosser")
  | 3 => .object "PancakePort$Night"
  | 4 => .object "PancakePort$Night"
  | 5 => .object "PancakePort$Plan"
  | 6 => .array .int
  | 7 => .int
  | 8 => .int
  | 9 => .int
  | _ => .boolean
abbrev wsX100 : List Cond := u_ws RX10 TX10 11
theorem nmX10 : ∀ a, a < 11 → ∀ b, b < 11 → a ≠ b → (TX10 a).2.1 ≠ (TX10 b).2.1 := by decide +kernel
theorem tyX10_ok : ∀ k, k < 11 → parseFieldDescriptor (TX10 k).2.2.1 = some (tyX10 k) := by decide +kernel
abbrev cX10_init : ByteArray := prog_1_method_1_code
def yX10_init : MethodName := ⟨RX10, "<init>", "()V"⟩
abbrev cX10_letter : ByteArray := prog_1_method_2_code
def yX10_letter : MethodName := ⟨RX10, "letter", "(I)I"⟩
abbrev cX10_fault : ByteArray := prog_1_method_4_code
def yX10_fault : MethodName := ⟨RX10, "fault", "()I"⟩
abbrev cX10_port : ByteArray := prog_1_method_5_code
def yX10_port : MethodName := ⟨RX10, "port", "()I"⟩
abbrev cX10_sleeper : ByteArray := prog_1_method_6_code
def yX10_sleeper : MethodName := ⟨RX10, "sleeper", "(II)I"⟩
abbrev cX10_tosser : ByteArray := prog_1_method_7_code
def yX10_tosser : MethodName := ⟨RX10, "tosser", "(II)I"⟩
abbrev cX10_as : ByteArray := prog_1_method_8_code
def yX10_as : MethodName := ⟨RX10, "as", "(II)I"⟩
abbrev cX10_lands : ByteArray := prog_1_method_9_code
def yX10_lands : MethodName := ⟨RX10, "lands", "(II)I"⟩
abbrev cX10_covers : ByteArray := prog_1_method_10_code
def yX10_covers : MethodName := ⟨RX10, "covers", "(II)I"⟩
abbrev cX10_toss : ByteArray := prog_1_method_11_code
def yX10_toss : MethodName := ⟨RX10, "toss", "(II)I"⟩
abbrev cX10_wind : ByteArray := prog_1_method_12_code
def yX10_wind : MethodName := ⟨RX10, "wind", "(I)I"⟩
abbrev cX10_morning : ByteArray := prog_1_method_13_code
def yX10_morning : MethodName := ⟨RX10, "morning", "()I"⟩
abbrev cX10_move : ByteArray := prog_1_method_14_code
def yX10_move : MethodName := ⟨RX10, "move", "(II)I"⟩
abbrev cX10_train : ByteArray := prog_1_method_15_code
def yX10_train : MethodName := ⟨RX10, "train", "(III)I"⟩
abbrev cX10_stir : ByteArray := prog_1_method_16_code
def yX10_stir : MethodName := ⟨RX10, "stir", "(I)I"⟩
abbrev cX10_odds : ByteArray := prog_1_method_19_code
def yX10_odds : MethodName := ⟨RX10, "odds", "(III)I"⟩
abbrev cX10_who : ByteArray := prog_1_method_20_code
def yX10_who : MethodName := ⟨RX10, "who", "(I)I"⟩
abbrev cX10_seasons : ByteArray := prog_1_method_23_code
def yX10_seasons : MethodName := ⟨RX10, "seasons", "(III)I"⟩
abbrev cX10_count : ByteArray := prog_1_method_26_code
def yX10_count : MethodName := ⟨RX10, "count", "(I)I"⟩
abbrev cX10_hasPort : ByteArray := prog_1_method_29_code
def yX10_hasPort : MethodName := ⟨RX10, "hasPort", "()Z"⟩
abbrev cX10_isCell : ByteArray := prog_1_method_30_code
def yX10_isCell : MethodName := ⟨RX10, "isCell", "(I)Z"⟩
abbrev cX10_isSleeper : ByteArray := prog_1_method_31_code
def yX10_isSleeper : MethodName := ⟨RX10, "isSleeper", "(I)Z"⟩
abbrev cX10_tosserAt : ByteArray := prog_1_method_32_code
def yX10_tosserAt : MethodName := ⟨RX10, "tosserAt", "(I)LPancakePort$Tosser;"⟩
abbrev cX10_isToss : ByteArray := prog_1_method_33_code
def yX10_isToss : MethodName := ⟨RX10, "isToss", "(II)Z"⟩
abbrev cX10_isTakenByAnother : ByteArray := prog_1_method_35_code
def yX10_isTakenByAnother : MethodName := ⟨RX10, "isTakenByAnother", "(II)Z"⟩
abbrev cX10_settle : ByteArray := prog_1_method_36_code
def yX10_settle : MethodName := ⟨RX10, "settle", "()V"⟩
abbrev cX10_landing : ByteArray := prog_1_method_37_code
def yX10_landing : MethodName := ⟨RX10, "landing", "(III)I"⟩
abbrev cX10_crowdUnder : ByteArray := prog_1_method_38_code
def yX10_crowdUnder : MethodName := ⟨RX10, "crowdUnder", "(III)I"⟩
abbrev cX10_canLandAt : ByteArray := prog_1_method_39_code
def yX10_canLandAt : MethodName := ⟨RX10, "canLandAt", "(II)Z"⟩
abbrev cX10_freshOf : ByteArray := prog_1_method_40_code
def yX10_freshOf : MethodName := ⟨RX10, "freshOf", "(II)I"⟩
abbrev cX10_bestAimOf : ByteArray := prog_1_method_41_code
def yX10_bestAimOf : MethodName := ⟨RX10, "bestAimOf", "(I)I"⟩
abbrev cX10_bestPlaceFor : ByteArray := prog_1_method_43_code
def yX10_bestPlaceFor : MethodName := ⟨RX10, "bestPlaceFor", "(I)I"⟩
abbrev cX10_countChances : ByteArray := prog_1_method_44_code
def yX10_countChances : MethodName := ⟨RX10, "countChances", "()V"⟩
abbrev cX10_addChances : ByteArray := prog_1_method_45_code
def yX10_addChances : MethodName := ⟨RX10, "addChances", "(LPancakePort$Tosser;I)V"⟩
abbrev cX10_isColumn : ByteArray := prog_1_method_46_code
def yX10_isColumn : MethodName := ⟨RX10, "isColumn", "(I)Z"⟩
abbrev cX10_isTurn : ByteArray := prog_1_method_47_code
def yX10_isTurn : MethodName := ⟨RX10, "isTurn", "(I)Z"⟩
abbrev cX10_cellAt : ByteArray := prog_1_method_48_code
def yX10_cellAt : MethodName := ⟨RX10, "cellAt", "(II)I"⟩
abbrev cX10_columnBy : ByteArray := prog_1_method_49_code
def yX10_columnBy : MethodName := ⟨RX10, "columnBy", "(II)I"⟩
abbrev cX10_tellingAim : ByteArray := prog_1_method_50_code
def yX10_tellingAim : MethodName := ⟨RX10, "tellingAim", "(I)I"⟩
abbrev cX10_mostLeft : ByteArray := prog_1_method_51_code
def yX10_mostLeft : MethodName := ⟨RX10, "mostLeft", "(II)I"⟩
abbrev cX10_nextSeed : ByteArray := prog_1_method_52_code
def yX10_nextSeed : MethodName := ⟨RX10, "nextSeed", "(I)I"⟩
abbrev cX10_draw : ByteArray := prog_1_method_53_code
def yX10_draw : MethodName := ⟨RX10, "draw", "(II)I"⟩
abbrev cX10_at : ByteArray := prog_1_method_54_code
def yX10_at : MethodName := ⟨RX10, "at", "([II)I"⟩
abbrev cX10_put : ByteArray := prog_1_method_55_code
def yX10_put : MethodName := ⟨RX10, "put", "([III)V"⟩
abbrev cX10_clear : ByteArray := prog_1_method_56_code
def yX10_clear : MethodName := ⟨RX10, "clear", "([I)V"⟩
abbrev cX10_copy : ByteArray := prog_1_method_57_code
def yX10_copy : MethodName := ⟨RX10, "copy", "([I[I)V"⟩
abbrev cX10_sum : ByteArray := prog_1_method_58_code
def yX10_sum : MethodName := ⟨RX10, "sum", "([I)I"⟩
abbrev cX10_tosserOf : ByteArray := prog_1_method_59_code
def yX10_tosserOf : MethodName := ⟨RX10, "tosserOf", "(I)LPancakePort$Tosser;"⟩
abbrev cX10_isOfKind : ByteArray := prog_1_method_60_code
def yX10_isOfKind : MethodName := ⟨RX10, "isOfKind", "(LPancakePort$Tosser;I)Z"⟩
def RX11 : String := "PancakePortModel"
def TX11 : u_T := fun k => match k with
  | _ => ("", "", "", false)
def tyX11 : Nat → FieldType := fun k => match k with
  | _ => .int
abbrev wsX110 : List Cond := u_ws RX11 TX11 0
theorem nmX11 : ∀ a, a < 0 → ∀ b, b < 0 → a ≠ b → (TX11 a).2.1 ≠ (TX11 b).2.1 := by decide +kernel
theorem tyX11_ok : ∀ k, k < 0 → parseFieldDescriptor (TX11 k).2.2.1 = some (tyX11 k) := by decide +kernel
def RJ11 : String := "java/lang/Character"
def TJ11 : u_T := fun k => match k with
  | _ => ("", "", "", false)
def tyJ11 : Nat → FieldType := fun k => match k with
  | _ => .int
abbrev wsJ110 : List Cond := u_ws RJ11 TJ11 0
theorem nmJ11 : ∀ a, a < 0 → ∀ b, b < 0 → a ≠ b → (TJ11 a).2.1 ≠ (TJ11 b).2.1 := by decide +kernel
theorem tyJ11_ok : ∀ k, k < 0 → parseFieldDescriptor (TJ11 k).2.2.1 = some (tyJ11 k) := by decide +kernel
abbrev cJ11_isValidCodePoint_9a6ad : ByteArray := prog_14_method_11_code
def yJ11_isValidCodePoint_9a6ad : MethodName := ⟨RJ11, "isValidCodePoint", "(I)Z"⟩
abbrev cJ11_highSurrogate_5068e : ByteArray := prog_14_method_28_code
def yJ11_highSurrogate_5068e : MethodName := ⟨RJ11, "highSurrogate", "(I)C"⟩
abbrev cJ11_lowSurrogate_5068e : ByteArray := prog_14_method_29_code
def yJ11_lowSurrogate_5068e : MethodName := ⟨RJ11, "lowSurrogate", "(I)C"⟩
def RJ6 : String := "java/lang/Integer"
def TJ6 : u_T := fun k => match k with
  | _ => ("", "", "", false)
def tyJ6 : Nat → FieldType := fun k => match k with
  | _ => .int
abbrev wsJ60 : List Cond := u_ws RJ6 TJ6 0
theorem nmJ6 : ∀ a, a < 0 → ∀ b, b < 0 → a ≠ b → (TJ6 a).2.1 ≠ (TJ6 b).2.1 := by decide +kernel
theorem tyJ6_ok : ∀ k, k < 0 → parseFieldDescriptor (TJ6 k).2.2.1 = some (tyJ6 k) := by decide +kernel
abbrev cJ6_bitCount_0f7a4 : ByteArray := prog_15_method_49_code
def yJ6_bitCount_0f7a4 : MethodName := ⟨RJ6, "bitCount", "(I)I"⟩
def RJ9 : String := "java/lang/Math"
def TJ9 : u_T := fun k => match k with
  | _ => ("", "", "", false)
def tyJ9 : Nat → FieldType := fun k => match k with
  | _ => .int
abbrev wsJ90 : List Cond := u_ws RJ9 TJ9 0
theorem nmJ9 : ∀ a, a < 0 → ∀ b, b < 0 → a ≠ b → (TJ9 a).2.1 ≠ (TJ9 b).2.1 := by decide +kernel
theorem tyJ9_ok : ∀ k, k < 0 → parseFieldDescriptor (TJ9 k).2.2.1 = some (tyJ9 k) := by decide +kernel
abbrev cJ9_abs_0f7a4 : ByteArray := prog_16_method_59_code
def yJ9_abs_0f7a4 : MethodName := ⟨RJ9, "abs", "(I)I"⟩
abbrev cJ9_max_7cf53 : ByteArray := prog_16_method_65_code
def yJ9_max_7cf53 : MethodName := ⟨RJ9, "max", "(II)I"⟩
abbrev cJ9_min_7cf53 : ByteArray := prog_16_method_69_code
def yJ9_min_7cf53 : MethodName := ⟨RJ9, "min", "(II)I"⟩
def RJ0 : String := "java/lang/String"
def TJ0 : u_T := fun k => match k with
  | _ => ("", "", "", false)
def tyJ0 : Nat → FieldType := fun k => match k with
  | _ => .int
abbrev wsJ00 : List Cond := u_ws RJ0 TJ0 0
theorem nmJ0 : ∀ a, a < 0 → ∀ b, b < 0 → a ≠ b → (TJ0 a).2.1 ≠ (TJ0 b).2.1 := by decide +kernel
theorem tyJ0_ok : ∀ k, k < 0 → parseFieldDescriptor (TJ0 k).2.2.1 = some (tyJ0 k) := by decide +kernel
abbrev cJ0_length_8abf5 : ByteArray := prog_17_method_54_code
def yJ0_length_8abf5 : MethodName := ⟨RJ0, "length", "()I"⟩
abbrev cJ0_indexOf_0f7a4 : ByteArray := prog_17_method_79_code
def yJ0_indexOf_0f7a4 : MethodName := ⟨RJ0, "indexOf", "(I)I"⟩
abbrev cJ0_indexOf_7cf53 : ByteArray := prog_17_method_80_code
def yJ0_indexOf_7cf53 : MethodName := ⟨RJ0, "indexOf", "(II)I"⟩
abbrev cJ0_coder_7d493 : ByteArray := prog_17_method_152_code
def yJ0_coder_7d493 : MethodName := ⟨RJ0, "coder", "()B"⟩
abbrev cJ0_isLatin1_aae02 : ByteArray := prog_17_method_154_code
def yJ0_isLatin1_aae02 : MethodName := ⟨RJ0, "isLatin1", "()Z"⟩
abbrev cJ0_checkBoundsBeginEnd_23922 : ByteArray := prog_17_method_158_code
def yJ0_checkBoundsBeginEnd_23922 : MethodName := ⟨RJ0, "checkBoundsBeginEnd", "(III)V"⟩
def RJ1 : String := "java/lang/StringLatin1"
def TJ1 : u_T := fun k => match k with
  | _ => ("", "", "", false)
def tyJ1 : Nat → FieldType := fun k => match k with
  | _ => .int
abbrev wsJ10 : List Cond := u_ws RJ1 TJ1 0
theorem nmJ1 : ∀ a, a < 0 → ∀ b, b < 0 → a ≠ b → (TJ1 a).2.1 ≠ (TJ1 b).2.1 := by decide +kernel
theorem tyJ1_ok : ∀ k, k < 0 → parseFieldDescriptor (TJ1 k).2.2.1 = some (tyJ1 k) := by decide +kernel
abbrev cJ1_canEncode_9a6ad : ByteArray := prog_18_method_4_code
def yJ1_canEncode_9a6ad : MethodName := ⟨RJ1, "canEncode", "(I)Z"⟩
abbrev cJ1_indexOf_4cfef : ByteArray := prog_18_method_22_code
def yJ1_indexOf_4cfef : MethodName := ⟨RJ1, "indexOf", "([BIII)I"⟩
abbrev cJ1_indexOfChar_4cfef : ByteArray := prog_18_method_23_code
def yJ1_indexOfChar_4cfef : MethodName := ⟨RJ1, "indexOfChar", "([BIII)I"⟩
def RJ2 : String := "java/lang/StringUTF16"
def TJ2 : u_T := fun k => match k with
  | _ => ("", "", "", false)
def tyJ2 : Nat → FieldType := fun k => match k with
  | _ => .int
abbrev wsJ20 : List Cond := u_ws RJ2 TJ2 0
theorem nmJ2 : ∀ a, a < 0 → ∀ b, b < 0 → a ≠ b → (TJ2 a).2.1 ≠ (TJ2 b).2.1 := by decide +kernel
theorem tyJ2_ok : ∀ k, k < 0 → parseFieldDescriptor (TJ2 k).2.2.1 = some (tyJ2 k) := by decide +kernel
abbrev cJ2_getChar_3b067 : ByteArray := prog_19_method_5_code
def yJ2_getChar_3b067 : MethodName := ⟨RJ2, "getChar", "([BI)C"⟩
abbrev cJ2_length_9d52b : ByteArray := prog_19_method_6_code
def yJ2_length_9d52b : MethodName := ⟨RJ2, "length", "([B)I"⟩
abbrev cJ2_indexOf_4cfef : ByteArray := prog_19_method_40_code
def yJ2_indexOf_4cfef : MethodName := ⟨RJ2, "indexOf", "([BIII)I"⟩
abbrev cJ2_indexOfChar_4cfef : ByteArray := prog_19_method_47_code
def yJ2_indexOfChar_4cfef : MethodName := ⟨RJ2, "indexOfChar", "([BIII)I"⟩
abbrev cJ2_indexOfCharUnsafe_4cfef : ByteArray := prog_19_method_48_code
def yJ2_indexOfCharUnsafe_4cfef : MethodName := ⟨RJ2, "indexOfCharUnsafe", "([BIII)I"⟩
abbrev cJ2_indexOfSupplementary_4cfef : ByteArray := prog_19_method_49_code
def yJ2_indexOfSupplementary_4cfef : MethodName := ⟨RJ2, "indexOfSupplementary", "([BIII)I"⟩
abbrev cJ2_checkBoundsBeginEnd_d044e : ByteArray := prog_19_method_93_code
def yJ2_checkBoundsBeginEnd_d044e : MethodName := ⟨RJ2, "checkBoundsBeginEnd", "(II[B)V"⟩
def RJ3 : String := "jdk/internal/util/Preconditions"
def TJ3 : u_T := fun k => match k with
  | _ => ("", "", "", false)
def tyJ3 : Nat → FieldType := fun k => match k with
  | _ => .int
abbrev wsJ30 : List Cond := u_ws RJ3 TJ3 0
theorem nmJ3 : ∀ a, a < 0 → ∀ b, b < 0 → a ≠ b → (TJ3 a).2.1 ≠ (TJ3 b).2.1 := by decide +kernel
theorem tyJ3_ok : ∀ k, k < 0 → parseFieldDescriptor (TJ3 k).2.2.1 = some (tyJ3 k) := by decide +kernel
abbrev cJ3_checkFromToIndex_8c36e : ByteArray := prog_20_method_12_code
def yJ3_checkFromToIndex_8c36e : MethodName := ⟨RJ3, "checkFromToIndex", "(IIILjava/util/function/BiFunction;)I"⟩
def RL : String := "PancakePortLaw"
abbrev cL_cell : ByteArray := method_2_code
def yL_cell : MethodName := ⟨RL, "cell", "([II)I"⟩
abbrev cL_at : ByteArray := method_3_code
def yL_at : MethodName := ⟨RL, "at", "(II)I"⟩
abbrev cL_portText : ByteArray := method_4_code
def yL_portText : MethodName := ⟨RL, "portText", "([II[I[I[I)I"⟩
abbrev cL_spell : ByteArray := method_5_code
def yL_spell : MethodName := ⟨RL, "spell", "(LPancakePort;[II)Z"⟩
abbrev cL_in : ByteArray := method_6_code
def yL_in : MethodName := ⟨RL, "in", "(II)Z"⟩
abbrev cL_size : ByteArray := method_7_code
def yL_size : MethodName := ⟨RL, "size", "(I)I"⟩
abbrev cL_batter : ByteArray := method_8_code
def yL_batter : MethodName := ⟨RL, "batter", "(I)I"⟩
abbrev cL_lands : ByteArray := method_9_code
def yL_lands : MethodName := ⟨RL, "lands", "([IIII)I"⟩
abbrev cL_over : ByteArray := method_10_code
def yL_over : MethodName := ⟨RL, "over", "(III)Z"⟩
abbrev cL_covers : ByteArray := method_11_code
def yL_covers : MethodName := ⟨RL, "covers", "([I[IIII)I"⟩
abbrev cL_bare : ByteArray := method_12_code
def yL_bare : MethodName := ⟨RL, "bare", "([I[I)I"⟩
abbrev cL_stands : ByteArray := method_14_code
def yL_stands : MethodName := ⟨RL, "stands", "(LPancakePort;[I[I)Z"⟩
abbrev cL_does : ByteArray := method_15_code
def yL_does : MethodName := ⟨RL, "does", "(LPancakePort;[I[II)Z"⟩
abbrev cL_law : ByteArray := code
def yL_law : MethodName := ⟨RL, "law", "([I)Z"⟩
abbrev cL_lies : ByteArray := method_17_code
def yL_lies : MethodName := ⟨RL, "lies", "(LPancakePort;[I[III)Z"⟩
abbrev cL_seasons : ByteArray := method_18_code
def yL_seasons : MethodName := ⟨RL, "seasons", "(LPancakePort;[I[III)Z"⟩
abbrev cL_after : ByteArray := method_19_code
def yL_after : MethodName := ⟨RL, "after", "(J)J"⟩
abbrev vwCl : List vw_C := [(RX0, TX0, 0), (RX1, TX1, 0), (RX2, TX2, 12), (RX3, TX3, 2), (RX4, TX4, 7), (RX5, TX5, 8), (RX6, TX6, 4), (RX7, TX7, 0), (RX8, TX8, 0), (RX9, TX9, 0), (RX10, TX10, 11)]
