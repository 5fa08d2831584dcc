/-! ===== BEGIN printed: names, fields, word lists, decode rows ===== -/
def RX0 : String := "PenGuild$Division"
def TX0 : u_T := fun k => match k with
  | 0 => ("PenGuild$Division", "byPercent", "I", false)
  | 1 => ("PenGuild$Division", "overCap", "I", false)
  | 2 => ("PenGuild$Division", "bylineOwner", "I", false)
  | 3 => ("PenGuild$Division", "toByline", "I", false)
  | 4 => ("PenGuild$Division", "byParts", "[I", true)
  | _ => ("PenGuild$Division", "remainders", "[I", true)
def tyX0 : Nat → FieldType := fun k => match k with
  | 0 => .int
  | 1 => .int
  | 2 => .int
  | 3 => .int
  | 4 => .array .int
  | _ => .array .int
abbrev wsX00 : List Cond := u_ws RX0 TX0 6
theorem nmX0 : ∀ a, a < 6 → ∀ b, b < 6 → a ≠ b → (TX0 a).2.1 ≠ (TX0 b).2.1 := by decide +kernel
theorem tyX0_ok : ∀ k, k < 6 → parseFieldDescriptor (TX0 k).2.2.1 = some (tyX0 k) := by decide +kernel
abbrev cX0_init : ByteArray := prog_2_method_1_code
def yX0_init : MethodName := ⟨RX0, "<init>", "()V"⟩
abbrev cX0_divideFee : ByteArray := prog_2_method_2_code
def yX0_divideFee : MethodName := ⟨RX0, "divideFee", "(LPenGuild$State;II)V"⟩
abbrev cX0_divideRoyalty : ByteArray := prog_2_method_3_code
def yX0_divideRoyalty : MethodName := ⟨RX0, "divideRoyalty", "(LPenGuild$State;II)V"⟩
abbrev cX0_begin : ByteArray := prog_2_method_4_code
def yX0_begin : MethodName := ⟨RX0, "begin", "(LPenGuild$State;II)V"⟩
abbrev cX0_split : ByteArray := prog_2_method_5_code
def yX0_split : MethodName := ⟨RX0, "split", "(LPenGuild$Pieces;II)V"⟩
abbrev cX0_giveUnit : ByteArray := prog_2_method_6_code
def yX0_giveUnit : MethodName := ⟨RX0, "giveUnit", "()V"⟩
abbrev cX0_cutToCap : ByteArray := prog_2_method_7_code
def yX0_cutToCap : MethodName := ⟨RX0, "cutToCap", "(LPenGuild$Pieces;II)V"⟩
def RX1 : String := "PenGuild$FairParts"
def TX1 : u_T := fun k => match k with
  | 0 => ("PenGuild$FairParts", "parts", "[I", true)
  | 1 => ("PenGuild$FairParts", "writers", "[I", true)
  | 2 => ("PenGuild$FairParts", "drafts", "[I", true)
  | 3 => ("PenGuild$FairParts", "trial", "[I", true)
  | 4 => ("PenGuild$FairParts", "size", "I", false)
  | _ => ("PenGuild$FairParts", "allDrafts", "I", false)
def tyX1 : Nat → FieldType := fun k => match k with
  | 0 => .array .int
  | 1 => .array .int
  | 2 => .array .int
  | 3 => .array .int
  | 4 => .int
  | _ => .int
abbrev wsX10 : List Cond := u_ws RX1 TX1 6
theorem nmX1 : ∀ a, a < 6 → ∀ b, b < 6 → a ≠ b → (TX1 a).2.1 ≠ (TX1 b).2.1 := by decide +kernel
theorem tyX1_ok : ∀ k, k < 6 → parseFieldDescriptor (TX1 k).2.2.1 = some (tyX1 k) := by decide +kernel
abbrev cX1_init : ByteArray := prog_3_method_1_code
def yX1_init : MethodName := ⟨RX1, "<init>", "()V"⟩
abbrev cX1_find : ByteArray := prog_3_method_2_code
def yX1_find : MethodName := ⟨RX1, "find", "(LPenGuild$Pieces;I)V"⟩
abbrev cX1_begin : ByteArray := prog_3_method_3_code
def yX1_begin : MethodName := ⟨RX1, "begin", "(LPenGuild$Pieces;I)V"⟩
abbrev cX1_setTrial : ByteArray := prog_3_method_4_code
def yX1_setTrial : MethodName := ⟨RX1, "setTrial", "(I)I"⟩
abbrev cX1_gap : ByteArray := prog_3_method_5_code
def yX1_gap : MethodName := ⟨RX1, "gap", "(I)I"⟩
abbrev cX1_keepTrial : ByteArray := prog_3_method_6_code
def yX1_keepTrial : MethodName := ⟨RX1, "keepTrial", "()V"⟩
def RX2 : String := "PenGuild$PartsText"
def TX2 : u_T := fun k => match k with
  | 0 => ("PenGuild$PartsText", "codes", "[I", true)
  | 1 => ("PenGuild$PartsText", "length", "I", false)
  | 2 => ("PenGuild$PartsText", "parts", "[I", true)
  | 3 => ("PenGuild$PartsText", "place", "I", false)
  | 4 => ("PenGuild$PartsText", "itemPen", "I", false)
  | 5 => ("PenGuild$PartsText", "itemParts", "I", false)
  | _ => ("PenGuild$PartsText", "itemsEnded", "I", false)
def tyX2 : Nat → FieldType := fun k => match k with
  | 0 => .array .int
  | 1 => .int
  | 2 => .array .int
  | 3 => .int
  | 4 => .int
  | 5 => .int
  | _ => .int
abbrev wsX20 : List Cond := u_ws RX2 TX2 7
theorem nmX2 : ∀ a, a < 7 → ∀ b, b < 7 → a ≠ b → (TX2 a).2.1 ≠ (TX2 b).2.1 := by decide +kernel
theorem tyX2_ok : ∀ k, k < 7 → parseFieldDescriptor (TX2 k).2.2.1 = some (tyX2 k) := by decide +kernel
abbrev cX2_init : ByteArray := prog_4_method_1_code
def yX2_init : MethodName := ⟨RX2, "<init>", "()V"⟩
abbrev cX2_isList : ByteArray := prog_4_method_2_code
def yX2_isList : MethodName := ⟨RX2, "isList", "()Z"⟩
abbrev cX2_greatestPen : ByteArray := prog_4_method_3_code
def yX2_greatestPen : MethodName := ⟨RX2, "greatestPen", "()I"⟩
abbrev cX2_readToError : ByteArray := prog_4_method_4_code
def yX2_readToError : MethodName := ⟨RX2, "readToError", "()I"⟩
abbrev cX2_takes : ByteArray := prog_4_method_5_code
def yX2_takes : MethodName := ⟨RX2, "takes", "(I)Z"⟩
abbrev cX2_takesDigit : ByteArray := prog_4_method_6_code
def yX2_takesDigit : MethodName := ⟨RX2, "takesDigit", "(I)Z"⟩
abbrev cX2_takesOne : ByteArray := prog_4_method_7_code
def yX2_takesOne : MethodName := ⟨RX2, "takesOne", "()Z"⟩
abbrev cX2_takesAfterOne : ByteArray := prog_4_method_8_code
def yX2_takesAfterOne : MethodName := ⟨RX2, "takesAfterOne", "(I)Z"⟩
abbrev cX2_takesPen : ByteArray := prog_4_method_9_code
def yX2_takesPen : MethodName := ⟨RX2, "takesPen", "(I)Z"⟩
abbrev cX2_takesStar : ByteArray := prog_4_method_10_code
def yX2_takesStar : MethodName := ⟨RX2, "takesStar", "(I)Z"⟩
abbrev cX2_takesFactor : ByteArray := prog_4_method_11_code
def yX2_takesFactor : MethodName := ⟨RX2, "takesFactor", "(I)Z"⟩
abbrev cX2_takesComma : ByteArray := prog_4_method_12_code
def yX2_takesComma : MethodName := ⟨RX2, "takesComma", "(I)Z"⟩
abbrev cX2_endItem : ByteArray := prog_4_method_13_code
def yX2_endItem : MethodName := ⟨RX2, "endItem", "()V"⟩
def RX3 : String := "PenGuild$Pens"
def TX3 : u_T := fun k => match k with
  | 0 => ("PenGuild$Pens", "size", "I", false)
  | 1 => ("PenGuild$Pens", "balance", "[I", true)
  | 2 => ("PenGuild$Pens", "owed", "[I", true)
  | 3 => ("PenGuild$Pens", "income", "[I", true)
  | 4 => ("PenGuild$Pens", "owner", "[I", true)
  | 5 => ("PenGuild$Pens", "price", "[I", true)
  | _ => ("PenGuild$Pens", "paidOut", "[I", true)
def tyX3 : Nat → FieldType := fun k => match k with
  | 0 => .int
  | 1 => .array .int
  | 2 => .array .int
  | 3 => .array .int
  | 4 => .array .int
  | 5 => .array .int
  | _ => .array .int
abbrev wsX30 : List Cond := u_ws RX3 TX3 7
theorem nmX3 : ∀ a, a < 7 → ∀ b, b < 7 → a ≠ b → (TX3 a).2.1 ≠ (TX3 b).2.1 := by decide +kernel
theorem tyX3_ok : ∀ k, k < 7 → parseFieldDescriptor (TX3 k).2.2.1 = some (tyX3 k) := by decide +kernel
abbrev cX3_init : ByteArray := prog_5_method_1_code
def yX3_init : MethodName := ⟨RX3, "<init>", "()V"⟩
abbrev cX3_copyFrom : ByteArray := prog_5_method_2_code
def yX3_copyFrom : MethodName := ⟨RX3, "copyFrom", "(LPenGuild$Pens;)V"⟩
abbrev cX3_passByline : ByteArray := prog_5_method_3_code
def yX3_passByline : MethodName := ⟨RX3, "passByline", "(III)V"⟩
abbrev cX3_earn : ByteArray := prog_5_method_4_code
def yX3_earn : MethodName := ⟨RX3, "earn", "(II)I"⟩
abbrev cX3_bylinesOf : ByteArray := prog_5_method_5_code
def yX3_bylinesOf : MethodName := ⟨RX3, "bylinesOf", "(I)I"⟩
abbrev cX3_bylinesAway : ByteArray := prog_5_method_6_code
def yX3_bylinesAway : MethodName := ⟨RX3, "bylinesAway", "()I"⟩
abbrev cX3_placeOf : ByteArray := prog_5_method_7_code
def yX3_placeOf : MethodName := ⟨RX3, "placeOf", "(I)I"⟩
abbrev cX3_differences : ByteArray := prog_5_method_8_code
def yX3_differences : MethodName := ⟨RX3, "differences", "()I"⟩
def RX4 : String := "PenGuild$Pieces"
def TX4 : u_T := fun k => match k with
  | 0 => ("PenGuild$Pieces", "size", "I", false)
  | 1 => ("PenGuild$Pieces", "byline", "[I", true)
  | 2 => ("PenGuild$Pieces", "fee", "[I", true)
  | 3 => ("PenGuild$Pieces", "stage", "[I", true)
  | 4 => ("PenGuild$Pieces", "contract", "[I", true)
  | 5 => ("PenGuild$Pieces", "royalties", "[I", true)
  | 6 => ("PenGuild$Pieces", "parts", "[I", true)
  | 7 => ("PenGuild$Pieces", "drafts", "[I", true)
  | _ => ("PenGuild$Pieces", "gotThisYear", "[I", true)
def tyX4 : Nat → FieldType := fun k => match k with
  | 0 => .int
  | 1 => .array .int
  | 2 => .array .int
  | 3 => .array .int
  | 4 => .array .int
  | 5 => .array .int
  | 6 => .array .int
  | 7 => .array .int
  | _ => .array .int
abbrev wsX40 : List Cond := u_ws RX4 TX4 9
theorem nmX4 : ∀ a, a < 9 → ∀ b, b < 9 → a ≠ b → (TX4 a).2.1 ≠ (TX4 b).2.1 := by decide +kernel
theorem tyX4_ok : ∀ k, k < 9 → parseFieldDescriptor (TX4 k).2.2.1 = some (tyX4 k) := by decide +kernel
abbrev cX4_init : ByteArray := prog_6_method_1_code
def yX4_init : MethodName := ⟨RX4, "<init>", "()V"⟩
abbrev cX4_copyFrom : ByteArray := prog_6_method_2_code
def yX4_copyFrom : MethodName := ⟨RX4, "copyFrom", "(LPenGuild$Pieces;)V"⟩
abbrev cX4_begin : ByteArray := prog_6_method_3_code
def yX4_begin : MethodName := ⟨RX4, "begin", "(II)I"⟩
abbrev cX4_allParts : ByteArray := prog_6_method_4_code
def yX4_allParts : MethodName := ⟨RX4, "allParts", "(I)I"⟩
abbrev cX4_allDrafts : ByteArray := prog_6_method_5_code
def yX4_allDrafts : MethodName := ⟨RX4, "allDrafts", "(I)I"⟩
abbrev cX4_draftsBy : ByteArray := prog_6_method_6_code
def yX4_draftsBy : MethodName := ⟨RX4, "draftsBy", "(I)I"⟩
abbrev cX4_sharers : ByteArray := prog_6_method_7_code
def yX4_sharers : MethodName := ⟨RX4, "sharers", "(I)I"⟩
abbrev cX4_inStage : ByteArray := prog_6_method_8_code
def yX4_inStage : MethodName := ⟨RX4, "inStage", "(I)I"⟩
abbrev cX4_disputers : ByteArray := prog_6_method_9_code
def yX4_disputers : MethodName := ⟨RX4, "disputers", "(I)I"⟩
abbrev cX4_takeParts : ByteArray := prog_6_method_10_code
def yX4_takeParts : MethodName := ⟨RX4, "takeParts", "(I[I)V"⟩
abbrev cX4_takePartsFromDrafts : ByteArray := prog_6_method_11_code
def yX4_takePartsFromDrafts : MethodName := ⟨RX4, "takePartsFromDrafts", "(I)V"⟩
abbrev cX4_addToYear : ByteArray := prog_6_method_12_code
def yX4_addToYear : MethodName := ⟨RX4, "addToYear", "(I[I)V"⟩
abbrev cX4_writers : ByteArray := prog_6_method_13_code
def yX4_writers : MethodName := ⟨RX4, "writers", "(I)I"⟩
abbrev cX4_writerWithMost : ByteArray := prog_6_method_14_code
def yX4_writerWithMost : MethodName := ⟨RX4, "writerWithMost", "(II)I"⟩
def RX5 : String := "PenGuild$State"
def TX5 : u_T := fun k => match k with
  | 0 => ("PenGuild$State", "pens", "LPenGuild$Pens;", true)
  | 1 => ("PenGuild$State", "pieces", "LPenGuild$Pieces;", true)
  | 2 => ("PenGuild$State", "settings", "[I", true)
  | 3 => ("PenGuild$State", "year", "I", false)
  | 4 => ("PenGuild$State", "reserve", "I", false)
  | 5 => ("PenGuild$State", "cameIn", "I", false)
  | 6 => ("PenGuild$State", "overCap", "I", false)
  | _ => ("PenGuild$State", "disputes", "I", false)
def tyX5 : Nat → FieldType := fun k => match k with
  | 0 => .object "PenGuild$Pens"
  | 1 => .object "PenGuild$Pieces"
  | 2 => .array .int
  | 3 => .int
  | 4 => .int
  | 5 => .int
  | 6 => .int
  | _ => .int
abbrev wsX50 : List Cond := u_ws RX5 TX5 8
theorem nmX5 : ∀ a, a < 8 → ∀ b, b < 8 → a ≠ b → (TX5 a).2.1 ≠ (TX5 b).2.1 := by decide +kernel
theorem tyX5_ok : ∀ k, k < 8 → parseFieldDescriptor (TX5 k).2.2.1 = some (tyX5 k) := by decide +kernel
abbrev cX5_init : ByteArray := prog_7_method_1_code
def yX5_init : MethodName := ⟨RX5, "<init>", "()V"⟩
abbrev cX5_copyFrom : ByteArray := prog_7_method_2_code
def yX5_copyFrom : MethodName := ⟨RX5, "copyFrom", "(LPenGuild$State;)V"⟩
abbrev cX5_killFee : ByteArray := prog_7_method_3_code
def yX5_killFee : MethodName := ⟨RX5, "killFee", "(I)I"⟩
def RX6 : String := "PenGuild"
def TX6 : u_T := fun k => match k with
  | 0 => ("PenGuild", "ring", "[LPenGuild$State;", true)
  | 1 => ("PenGuild", "present", "I", false)
  | 2 => ("PenGuild", "saved", "I", false)
  | 3 => ("PenGuild", "now", "LPenGuild$State;", false)
  | 4 => ("PenGuild", "text", "LPenGuild$PartsText;", true)
  | 5 => ("PenGuild", "division", "LPenGuild$Division;", true)
  | 6 => ("PenGuild", "fair", "LPenGuild$FairParts;", true)
  | 7 => ("PenGuild", "best", "[I", true)
  | _ => ("PenGuild", "bestGain", "[I", true)
def tyX6 : Nat → FieldType := fun k => match k with
  | 0 => .array (.object "PenGuild$State")
  | 1 => .int
  | 2 => .int
  | 3 => .object "PenGuild$State"
  | 4 => .object "PenGuild$PartsText"
  | 5 => .object "PenGuild$Division"
  | 6 => .object "PenGuild$FairParts"
  | 7 => .array .int
  | _ => .array .int
abbrev wsX60 : List Cond := u_ws RX6 TX6 9
theorem nmX6 : ∀ a, a < 9 → ∀ b, b < 9 → a ≠ b → (TX6 a).2.1 ≠ (TX6 b).2.1 := by decide +kernel
theorem tyX6_ok : ∀ k, k < 9 → parseFieldDescriptor (TX6 k).2.2.1 = some (tyX6 k) := by decide +kernel
abbrev cX6_init : ByteArray := prog_1_method_1_code
def yX6_init : MethodName := ⟨RX6, "<init>", "()V"⟩
abbrev cX6_addPen : ByteArray := prog_1_method_2_code
def yX6_addPen : MethodName := ⟨RX6, "addPen", "()I"⟩
abbrev cX6_sell : ByteArray := prog_1_method_3_code
def yX6_sell : MethodName := ⟨RX6, "sell", "(III)I"⟩
abbrev cX6_buyBack : ByteArray := prog_1_method_4_code
def yX6_buyBack : MethodName := ⟨RX6, "buyBack", "(I)I"⟩
abbrev cX6_advance : ByteArray := prog_1_method_5_code
def yX6_advance : MethodName := ⟨RX6, "advance", "(II)I"⟩
abbrev cX6_withdraw : ByteArray := prog_1_method_6_code
def yX6_withdraw : MethodName := ⟨RX6, "withdraw", "(II)I"⟩
abbrev cX6_set : ByteArray := prog_1_method_7_code
def yX6_set : MethodName := ⟨RX6, "set", "(II)I"⟩
abbrev cX6_nextYear : ByteArray := prog_1_method_8_code
def yX6_nextYear : MethodName := ⟨RX6, "nextYear", "()I"⟩
abbrev cX6_order : ByteArray := prog_1_method_9_code
def yX6_order : MethodName := ⟨RX6, "order", "(II)I"⟩
abbrev cX6_draft : ByteArray := prog_1_method_10_code
def yX6_draft : MethodName := ⟨RX6, "draft", "(II)I"⟩
abbrev cX6_revise : ByteArray := prog_1_method_11_code
def yX6_revise : MethodName := ⟨RX6, "revise", "(II)I"⟩
abbrev cX6_share : ByteArray := prog_1_method_12_code
def yX6_share : MethodName := ⟨RX6, "share", "(I)I"⟩
abbrev cX6_accept : ByteArray := prog_1_method_13_code
def yX6_accept : MethodName := ⟨RX6, "accept", "(I)I"⟩
abbrev cX6_kill : ByteArray := prog_1_method_14_code
def yX6_kill : MethodName := ⟨RX6, "kill", "(I)I"⟩
abbrev cX6_royalty : ByteArray := prog_1_method_15_code
def yX6_royalty : MethodName := ⟨RX6, "royalty", "(II)I"⟩
abbrev cX6_dispute : ByteArray := prog_1_method_16_code
def yX6_dispute : MethodName := ⟨RX6, "dispute", "(II)I"⟩
abbrev cX6_append : ByteArray := prog_1_method_17_code
def yX6_append : MethodName := ⟨RX6, "append", "(I)I"⟩
abbrev cX6_clearBuffer : ByteArray := prog_1_method_18_code
def yX6_clearBuffer : MethodName := ⟨RX6, "clearBuffer", "()I"⟩
abbrev cX6_pen : ByteArray := prog_1_method_21_code
def yX6_pen : MethodName := ⟨RX6, "pen", "(II)I"⟩
abbrev cX6_piece : ByteArray := prog_1_method_22_code
def yX6_piece : MethodName := ⟨RX6, "piece", "(II)I"⟩
abbrev cX6_between : ByteArray := prog_1_method_23_code
def yX6_between : MethodName := ⟨RX6, "between", "(III)I"⟩
abbrev cX6_count : ByteArray := prog_1_method_24_code
def yX6_count : MethodName := ⟨RX6, "count", "(I)I"⟩
abbrev cX6_setting : ByteArray := prog_1_method_25_code
def yX6_setting : MethodName := ⟨RX6, "setting", "(I)I"⟩
abbrev cX6_ifPaid : ByteArray := prog_1_method_26_code
def yX6_ifPaid : MethodName := ⟨RX6, "ifPaid", "(III)I"⟩
abbrev cX6_fairest : ByteArray := prog_1_method_27_code
def yX6_fairest : MethodName := ⟨RX6, "fairest", "(II)I"⟩
abbrev cX6_bestPiece : ByteArray := prog_1_method_28_code
def yX6_bestPiece : MethodName := ⟨RX6, "bestPiece", "(II)I"⟩
abbrev cX6_spread : ByteArray := prog_1_method_29_code
def yX6_spread : MethodName := ⟨RX6, "spread", "()D"⟩
abbrev cX6_needPen : ByteArray := prog_1_method_31_code
def yX6_needPen : MethodName := ⟨RX6, "needPen", "(I)V"⟩
abbrev cX6_needPiece : ByteArray := prog_1_method_32_code
def yX6_needPiece : MethodName := ⟨RX6, "needPiece", "(I)V"⟩
abbrev cX6_needSetting : ByteArray := prog_1_method_33_code
def yX6_needSetting : MethodName := ⟨RX6, "needSetting", "(I)V"⟩
abbrev cX6_needRange : ByteArray := prog_1_method_34_code
def yX6_needRange : MethodName := ⟨RX6, "needRange", "(III)V"⟩
abbrev cX6_needAtLeast : ByteArray := prog_1_method_35_code
def yX6_needAtLeast : MethodName := ⟨RX6, "needAtLeast", "(II)V"⟩
abbrev cX6_needUnended : ByteArray := prog_1_method_36_code
def yX6_needUnended : MethodName := ⟨RX6, "needUnended", "(I)V"⟩
abbrev cX6_needAccepted : ByteArray := prog_1_method_37_code
def yX6_needAccepted : MethodName := ⟨RX6, "needAccepted", "(I)V"⟩
abbrev cX6_save : ByteArray := prog_1_method_38_code
def yX6_save : MethodName := ⟨RX6, "save", "()V"⟩
abbrev cX6_bringIn : ByteArray := prog_1_method_39_code
def yX6_bringIn : MethodName := ⟨RX6, "bringIn", "(I)I"⟩
abbrev cX6_gainOf : ByteArray := prog_1_method_40_code
def yX6_gainOf : MethodName := ⟨RX6, "gainOf", "(I)I"⟩
abbrev cX6_findBest : ByteArray := prog_1_method_41_code
def yX6_findBest : MethodName := ⟨RX6, "findBest", "(I)V"⟩
abbrev cX6_preferIfBetter : ByteArray := prog_1_method_42_code
def yX6_preferIfBetter : MethodName := ⟨RX6, "preferIfBetter", "(I)V"⟩
abbrev cX6_withheld : ByteArray := prog_1_method_47_code
def yX6_withheld : MethodName := ⟨RX6, "withheld", "(II)I"⟩
abbrev cX6_at : ByteArray := prog_1_method_48_code
def yX6_at : MethodName := ⟨RX6, "at", "(II)I"⟩
abbrev cX6_isIn : ByteArray := prog_1_method_49_code
def yX6_isIn : MethodName := ⟨RX6, "isIn", "(II)Z"⟩
abbrev cX6_sum : ByteArray := prog_1_method_50_code
def yX6_sum : MethodName := ⟨RX6, "sum", "([I)I"⟩
abbrev cX6_sumOf : ByteArray := prog_1_method_51_code
def yX6_sumOf : MethodName := ⟨RX6, "sumOf", "([II)I"⟩
abbrev cX6_copyRow : ByteArray := prog_1_method_52_code
def yX6_copyRow : MethodName := ⟨RX6, "copyRow", "([I[I)V"⟩
def RX7 : String := "PenGuildModel"
def TX7 : u_T := fun k => match k with
  | _ => ("", "", "", false)
def tyX7 : Nat → FieldType := fun k => match k with
  | _ => .int
abbrev wsX70 : List Cond := u_ws RX7 TX7 0
theorem nmX7 : ∀ a, a < 0 → ∀ b, b < 0 → a ≠ b → (TX7 a).2.1 ≠ (TX7 b).2.1 := by decide +kernel
theorem tyX7_ok : ∀ k, k < 0 → parseFieldDescriptor (TX7 k).2.2.1 = some (tyX7 k) := by decide +kernel
def RJx145de : String := "java/io/Serializable"
def TJx145de : u_T := fun k => match k with
  | _ => ("", "", "", false)
def tyJx145de : Nat → FieldType := fun k => match k with
  | _ => .int
abbrev wsJx145de0 : List Cond := u_ws RJx145de TJx145de 0
theorem nmJx145de : ∀ a, a < 0 → ∀ b, b < 0 → a ≠ b → (TJx145de a).2.1 ≠ (TJx145de b).2.1 := by decide +kernel
theorem tyJx145de_ok : ∀ k, k < 0 → parseFieldDescriptor (TJx145de k).2.2.1 = some (tyJx145de k) := by decide +kernel
def RJx8e188 : String := "java/lang/Cloneable"
def TJx8e188 : u_T := fun k => match k with
  | _ => ("", "", "", false)
def tyJx8e188 : Nat → FieldType := fun k => match k with
  | _ => .int
abbrev wsJx8e1880 : List Cond := u_ws RJx8e188 TJx8e188 0
theorem nmJx8e188 : ∀ a, a < 0 → ∀ b, b < 0 → a ≠ b → (TJx8e188 a).2.1 ≠ (TJx8e188 b).2.1 := by decide +kernel
theorem tyJx8e188_ok : ∀ k, k < 0 → parseFieldDescriptor (TJx8e188 k).2.2.1 = some (tyJx8e188 k) := by decide +kernel
def RJ9 : String := "java/lang/Math"
def TJ9 : u_T := fun k => match k with
  | _ => ("", "", "", false)
def tyJ9 : Nat → FieldType := fun k => match k with
  | _ => .int
abbrev wsJ90 : List Cond := u_ws RJ9 TJ9 0
theorem nmJ9 : ∀ a, a < 0 → ∀ b, b < 0 → a ≠ b → (TJ9 a).2.1 ≠ (TJ9 b).2.1 := by decide +kernel
theorem tyJ9_ok : ∀ k, k < 0 → parseFieldDescriptor (TJ9 k).2.2.1 = some (tyJ9 k) := by decide +kernel
abbrev cJ9_abs_0f7a4 : ByteArray := prog_15_method_59_code
def yJ9_abs_0f7a4 : MethodName := ⟨RJ9, "abs", "(I)I"⟩
abbrev cJ9_max_7cf53 : ByteArray := prog_15_method_65_code
def yJ9_max_7cf53 : MethodName := ⟨RJ9, "max", "(II)I"⟩
abbrev cJ9_min_7cf53 : ByteArray := prog_15_method_69_code
def yJ9_min_7cf53 : MethodName := ⟨RJ9, "min", "(II)I"⟩
def RJ0 : String := "java/lang/String"
def TJ0 : u_T := fun k => match k with
  | _ => ("", "", "", false)
def tyJ0 : Nat → FieldType := fun k => match k with
  | _ => .int
abbrev wsJ00 : List Cond := u_ws RJ0 TJ0 0
theorem nmJ0 : ∀ a, a < 0 → ∀ b, b < 0 → a ≠ b → (TJ0 a).2.1 ≠ (TJ0 b).2.1 := by decide +kernel
theorem tyJ0_ok : ∀ k, k < 0 → parseFieldDescriptor (TJ0 k).2.2.1 = some (tyJ0 k) := by decide +kernel
def RJ10 : String := "java/lang/System"
def TJ10 : u_T := fun k => match k with
  | _ => ("", "", "", false)
def tyJ10 : Nat → FieldType := fun k => match k with
  | _ => .int
abbrev wsJ100 : List Cond := u_ws RJ10 TJ10 0
theorem nmJ10 : ∀ a, a < 0 → ∀ b, b < 0 → a ≠ b → (TJ10 a).2.1 ≠ (TJ10 b).2.1 := by decide +kernel
theorem tyJ10_ok : ∀ k, k < 0 → parseFieldDescriptor (TJ10 k).2.2.1 = some (tyJ10 k) := by decide +kernel
def RJ7 : String := "java/util/Arrays"
def TJ7 : u_T := fun k => match k with
  | _ => ("", "", "", false)
def tyJ7 : Nat → FieldType := fun k => match k with
  | _ => .int
abbrev wsJ70 : List Cond := u_ws RJ7 TJ7 0
theorem nmJ7 : ∀ a, a < 0 → ∀ b, b < 0 → a ≠ b → (TJ7 a).2.1 ≠ (TJ7 b).2.1 := by decide +kernel
theorem tyJ7_ok : ∀ k, k < 0 → parseFieldDescriptor (TJ7 k).2.2.1 = some (tyJ7 k) := by decide +kernel
abbrev cJ7_fill_53178 : ByteArray := prog_20_method_103_code
def yJ7_fill_53178 : MethodName := ⟨RJ7, "fill", "([II)V"⟩
def RL : String := "PenGuildLaw"
abbrev cL_cell : ByteArray := method_2_code
def yL_cell : MethodName := ⟨RL, "cell", "([II)I"⟩
abbrev cL_at : ByteArray := method_3_code
def yL_at : MethodName := ⟨RL, "at", "(II)I"⟩
abbrev cL_four : ByteArray := method_4_code
def yL_four : MethodName := ⟨RL, "four", "([II)I"⟩
abbrev cL_gets : ByteArray := method_5_code
def yL_gets : MethodName := ⟨RL, "gets", "(II[I[I)I"⟩
abbrev cL_share : ByteArray := method_6_code
def yL_share : MethodName := ⟨RL, "share", "(III[I)I"⟩
abbrev cL_comes : ByteArray := method_7_code
def yL_comes : MethodName := ⟨RL, "comes", "(IIZ[I[I[I[I[I[I)I"⟩
abbrev cL_kill : ByteArray := method_8_code
def yL_kill : MethodName := ⟨RL, "kill", "(I[I[I)I"⟩
abbrev cL_quarrels : ByteArray := method_9_code
def yL_quarrels : MethodName := ⟨RL, "quarrels", "(II[I[I[I)Z"⟩
abbrev cL_sum : ByteArray := method_10_code
def yL_sum : MethodName := ⟨RL, "sum", "(I[I[I)I"⟩
abbrev cL_pens : ByteArray := method_11_code
def yL_pens : MethodName := ⟨RL, "pens", "(LPenGuild;[I[I[I)Z"⟩
abbrev cL_pieces : ByteArray := method_12_code
def yL_pieces : MethodName := ⟨RL, "pieces", "(LPenGuild;[I[I[I[I[I[I)Z"⟩
abbrev cL_told : ByteArray := method_13_code
def yL_told : MethodName := ⟨RL, "told", "(LPenGuild;[I[I[I[I[I[I[I)Z"⟩
abbrev cL_same : ByteArray := method_14_code
def yL_same : MethodName := ⟨RL, "same", "([I[I)V"⟩
abbrev cL_fair : ByteArray := method_15_code
def yL_fair : MethodName := ⟨RL, "fair", "(II[I)I"⟩
abbrev cL_ahead : ByteArray := method_16_code
def yL_ahead : MethodName := ⟨RL, "ahead", "(LPenGuild;I[I[I[I[I[I[I[I)Z"⟩
abbrev cL_money : ByteArray := method_17_code
def yL_money : MethodName := ⟨RL, "money", "(LPenGuild;III[I[I)Z"⟩
abbrev cL_parts : ByteArray := method_18_code
def yL_parts : MethodName := ⟨RL, "parts", "(LPenGuild;III[I[I[I)Z"⟩
abbrev cL_act : ByteArray := method_19_code
def yL_act : MethodName := ⟨RL, "act", "(LPenGuild;III[I[I[I[I[I[I[I)Z"⟩
abbrev cL_law : ByteArray := code
def yL_law : MethodName := ⟨RL, "law", "([I)Z"⟩
def wsJ7_fill_53178 : List Cond := .code yJ7_fill_53178 cJ7_fill_53178 4 none :: ([])
def wsJ9_abs_0f7a4 : List Cond := .code yJ9_abs_0f7a4 cJ9_abs_0f7a4 1 (some .int) :: ([])
def wsJ9_max_7cf53 : List Cond := .code yJ9_max_7cf53 cJ9_max_7cf53 2 (some .int) :: ([])
def wsJ9_min_7cf53 : List Cond := .code yJ9_min_7cf53 cJ9_min_7cf53 2 (some .int) :: ([])
theorem inJx145de : ∀ w ∈ wsJx145de0, w ∈ lw_tbl := by decide +kernel
theorem inJx8e188 : ∀ w ∈ wsJx8e1880, w ∈ lw_tbl := by decide +kernel
theorem inJ9 : ∀ w ∈ wsJ90, w ∈ lw_tbl := by decide +kernel
theorem inJ0 : ∀ w ∈ wsJ00, w ∈ lw_tbl := by decide +kernel
theorem inJ10 : ∀ w ∈ wsJ100, w ∈ lw_tbl := by decide +kernel
theorem inJ7 : ∀ w ∈ wsJ70, w ∈ lw_tbl := by decide +kernel
theorem dJ9_abs_0f7a4_0 : decode cJ9_abs_0f7a4 0 = .ok (.iload_n 0, 1) := by decide +kernel
theorem dJ9_abs_0f7a4_1 : decode cJ9_abs_0f7a4 1 = .ok (.ifCond .ge 8, 3) := by decide +kernel
theorem dJ9_abs_0f7a4_4 : decode cJ9_abs_0f7a4 4 = .ok (.iload_n 0, 1) := by decide +kernel
theorem dJ9_abs_0f7a4_5 : decode cJ9_abs_0f7a4 5 = .ok (.ineg, 1) := by decide +kernel
theorem dJ9_abs_0f7a4_6 : decode cJ9_abs_0f7a4 6 = .ok (.goto 4, 3) := by decide +kernel
theorem dJ9_abs_0f7a4_9 : decode cJ9_abs_0f7a4 9 = .ok (.iload_n 0, 1) := by decide +kernel
theorem dJ9_abs_0f7a4_10 : decode cJ9_abs_0f7a4 10 = .ok (.ireturn, 1) := by decide +kernel
theorem dJ9_max_7cf53_0 : decode cJ9_max_7cf53 0 = .ok (.iload_n 0, 1) := by decide +kernel
theorem dJ9_max_7cf53_1 : decode cJ9_max_7cf53 1 = .ok (.iload_n 1, 1) := by decide +kernel
theorem dJ9_max_7cf53_2 : decode cJ9_max_7cf53 2 = .ok (.if_icmp .lt 7, 3) := by decide +kernel
theorem dJ9_max_7cf53_5 : decode cJ9_max_7cf53 5 = .ok (.iload_n 0, 1) := by decide +kernel
theorem dJ9_max_7cf53_6 : decode cJ9_max_7cf53 6 = .ok (.goto 4, 3) := by decide +kernel
theorem dJ9_max_7cf53_9 : decode cJ9_max_7cf53 9 = .ok (.iload_n 1, 1) := by decide +kernel
theorem dJ9_max_7cf53_10 : decode cJ9_max_7cf53 10 = .ok (.ireturn, 1) := by decide +kernel
theorem dJ9_min_7cf53_0 : decode cJ9_min_7cf53 0 = .ok (.iload_n 0, 1) := by decide +kernel
theorem dJ9_min_7cf53_1 : decode cJ9_min_7cf53 1 = .ok (.iload_n 1, 1) := by decide +kernel
theorem dJ9_min_7cf53_2 : decode cJ9_min_7cf53 2 = .ok (.if_icmp .gt 7, 3) := by decide +kernel
theorem dJ9_min_7cf53_5 : decode cJ9_min_7cf53 5 = .ok (.iload_n 0, 1) := by decide +kernel
theorem dJ9_min_7cf53_6 : decode cJ9_min_7cf53 6 = .ok (.goto 4, 3) := by decide +kernel
theorem dJ9_min_7cf53_9 : decode cJ9_min_7cf53 9 = .ok (.iload_n 1, 1) := by decide +kernel
theorem dJ9_min_7cf53_10 : decode cJ9_min_7cf53 10 = .ok (.ireturn, 1) := by decide +kernel
theorem dJ7_fill_53178_0 : decode cJ7_fill_53178 0 = .ok (.iconst 0, 1) := by decide +kernel
theorem dJ7_fill_53178_1 : decode cJ7_fill_53178 1 = .ok (.istore_n 2, 1) := by decide +kernel
theorem dJ7_fill_53178_2 : decode cJ7_fill_53178 2 = .ok (.aload_n 0, 1) := by decide +kernel
theorem dJ7_fill_53178_3 : decode cJ7_fill_53178 3 = .ok (.arraylength, 1) := by decide +kernel
theorem dJ7_fill_53178_4 : decode cJ7_fill_53178 4 = .ok (.istore_n 3, 1) := by decide +kernel
theorem dJ7_fill_53178_5 : decode cJ7_fill_53178 5 = .ok (.iload_n 2, 1) := by decide +kernel
theorem dJ7_fill_53178_6 : decode cJ7_fill_53178 6 = .ok (.iload_n 3, 1) := by decide +kernel
theorem dJ7_fill_53178_7 : decode cJ7_fill_53178 7 = .ok (.if_icmp .ge 13, 3) := by decide +kernel
theorem dJ7_fill_53178_10 : decode cJ7_fill_53178 10 = .ok (.aload_n 0, 1) := by decide +kernel
theorem dJ7_fill_53178_11 : decode cJ7_fill_53178 11 = .ok (.iload_n 2, 1) := by decide +kernel
theorem dJ7_fill_53178_12 : decode cJ7_fill_53178 12 = .ok (.iload_n 1, 1) := by decide +kernel
theorem dJ7_fill_53178_13 : decode cJ7_fill_53178 13 = .ok (.iastore, 1) := by decide +kernel
theorem dJ7_fill_53178_14 : decode cJ7_fill_53178 14 = .ok (.iinc 2 1, 3) := by decide +kernel
theorem dJ7_fill_53178_17 : decode cJ7_fill_53178 17 = .ok (.goto (-12), 3) := by decide +kernel
theorem dJ7_fill_53178_20 : decode cJ7_fill_53178 20 = .ok (.return_, 1) := by decide +kernel
abbrev vwCl : List vw_C := [(RX0, TX0, 6), (RX1, TX1, 6), (RX2, TX2, 7), (RX3, TX3, 7), (RX4, TX4, 9), (RX5, TX5, 8), (RX6, TX6, 9)]
