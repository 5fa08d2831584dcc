/-! ===== BEGIN printed: names, fields, word lists, decode rows ===== -/
def RX0 : String := "PenGuild$Division"
def TX0 : u_T := fun k => match k with
  | 0 => ("PenGuild$Division", "byPercent", "I", false)
  | 1 => ("PenGuild$Division", "overCap", "I", false)
  | 2 => ("PenGuild$Division", "bylineOwner", "I", false)
  | 3 => ("PenGuild$Division", "toByline", "I", false)
  | 4 => ("PenGuild$Division", "byParts", "[I", true)
  | _ => ("PenGuild$Division", "remainders", "[I", true)
def tyX0 : Nat → FieldType := fun k => match k with
  | 0 => .int
  | 1 => .int
  | 2 => .int
  | 3 => .int
  | 4 => .array .int
  | _ => .array .int
abbrev wsX00 : List Cond := u_ws RX0 TX0 6
theorem nmX0 : ∀ a, a < 6 → ∀ b, b < 6 → a ≠ b → (TX0 a).2.1 ≠ (TX0 b).2.1 := by decide +kernel
theorem tyX0_ok : ∀ k, k < 6 → parseFieldDescriptor (TX0 k).2.2.1 = some (tyX0 k) := by decide +kernel
abbrev cX0_init : ByteArray := prog_2_method_1_code
def yX0_init : MethodName := ⟨RX0, "<init>", "()V"⟩
abbrev cX0_divideFee : ByteArray := prog_2_method_2_code
def yX0_divideFee : MethodName := ⟨RX0, "divideFee", "(LPenGuild$State;II)V"⟩
abbrev cX0_divideRoyalty : ByteArray := prog_2_method_3_code
def yX0_divideRoyalty : MethodName := ⟨RX0, "divideRoyalty", "(LPenGuild$State;II)V"⟩
abbrev cX0_begin : ByteArray := prog_2_method_4_code
def yX0_begin : MethodName := ⟨RX0, "begin", "(LPenGuild$State;II)V"⟩
abbrev cX0_split : ByteArray := prog_2_method_5_code
def yX0_split : MethodName := ⟨RX0, "split", "(LPenGuild$Pieces;II)V"⟩
abbrev cX0_giveUnit : ByteArray := prog_2_method_6_code
def yX0_giveUnit : MethodName := ⟨RX0, "giveUnit", "()V"⟩
abbrev cX0_cutToCap : ByteArray := prog_2_method_7_code
def yX0_cutToCap : MethodName := ⟨RX0, "cutToCap", "(LPenGuild$Pieces;II)V"⟩
def RX1 : String := "PenGuild$FairParts"
def TX1 : u_T := fun k => match k with
  | 0 => ("PenGuild$FairParts", "parts", "[I", true)
  | 1 => ("PenGuild$FairParts", "writers", "[I", true)
  | 2 => ("PenGuild$FairParts", "drafts", "[I", true)
  | 3 => ("PenGuild$FairParts", "trial", "[I", true)
  | 4 => ("PenGuild$FairParts", "size", "I", false)
  | _ => ("PenGuild$FairParts", "allDrafts", "I", false)
def tyX1 : Nat → FieldType := fun k => match k with
  | 0 => .array .int
  | 1 => .array .int
  | 2 => .array .int
  | 3 => .array .int
  | 4 => .int
  | _ => .int
abbrev wsX10 : List Cond := u_ws RX1 TX1 6
theorem nmX1 : ∀ a, a < 6 → ∀ b, b < 6 → a ≠ b → (TX1 a).2.1 ≠ (TX1 b).2.1 := by decide +kernel
theorem tyX1_ok : ∀ k, k < 6 → parseFieldDescriptor (TX1 k).2.2.1 = some (tyX1 k) := by decide +kernel
abbrev cX1_init : ByteArray := prog_3_method_1_code
def yX1_init : MethodName := ⟨RX1, "<init>", "()V"⟩
abbrev cX1_find : ByteArray := prog_3_method_2_code
def yX1_find : MethodName := ⟨RX1, "find", "(LPenGuild$Pieces;I)V"⟩
abbrev cX1_begin : ByteArray := prog_3_method_3_code
def yX1_begin : MethodName := ⟨RX1, "begin", "(LPenGuild$Pieces;I)V"⟩
abbrev cX1_setTrial : ByteArray := prog_3_method_4_code
def yX1_setTrial : MethodName := ⟨RX1, "setTrial", "(I)I"⟩
abbrev cX1_gap : ByteArray := prog_3_method_5_code
def yX1_gap : MethodName := ⟨RX1, "gap", "(I)I"⟩
abbrev cX1_keepTrial : ByteArray := prog_3_method_6_code
def yX1_keepTrial : MethodName := ⟨RX1, "keepTrial", "()V"⟩
def RX2 : String := "PenGuild$PartsText"
def TX2 : u_T := fun k => match k with
  | 0 => ("PenGuild$PartsText", "codes", "[I", true)
  | 1 => ("PenGuild$PartsText", "length", "I", false)
  | 2 => ("PenGuild$PartsText", "parts", "[I", true)
  | 3 => ("PenGuild$PartsText", "place", "I", false)
  | 4 => ("PenGuild$PartsText", "itemPen", "I", false)
  | 5 => ("PenGuild$PartsText", "itemParts", "I", false)
  | _ => ("PenGuild$PartsText", "itemsEnded", "I", false)
def tyX2 : Nat → FieldType := fun k => match k with
  | 0 => .array .int
  | 1 => .int
  | 2 => .array .int
  | 3 => .int
  | 4 => .int
  | 5 => .int
  | _ => .int
abbrev wsX20 : List Cond := u_ws RX2 TX2 7
theorem nmX2 : ∀ a, a < 7 → ∀ b, b < 7 → a ≠ b → (TX2 a).2.1 ≠ (TX2 b).2.1 := by decide +kernel
theorem tyX2_ok : ∀ k, k < 7 → parseFieldDescriptor (TX2 k).2.2.1 = some (tyX2 k) := by decide +kernel
abbrev cX2_init : ByteArray := prog_4_method_1_code
def yX2_init : MethodName := ⟨RX2, "<init>", "()V"⟩
abbrev cX2_isList : ByteArray := prog_4_method_2_code
def yX2_isList : MethodName := ⟨RX2, "isList", "()Z"⟩
abbrev cX2_greatestPen : ByteArray := prog_4_method_3_code
def yX2_greatestPen : MethodName := ⟨RX2, "greatestPen", "()I"⟩
abbrev cX2_readToError : ByteArray := prog_4_method_4_code
def yX2_readToError : MethodName := ⟨RX2, "readToError", "()I"⟩
abbrev cX2_takes : ByteArray := prog_4_method_5_code
def yX2_takes : MethodName := ⟨RX2, "takes", "(I)Z"⟩
abbrev cX2_takesDigit : ByteArray := prog_4_method_6_code
def yX2_takesDigit : MethodName := ⟨RX2, "takesDigit", "(I)Z"⟩
abbrev cX2_takesOne : ByteArray := prog_4_method_7_code
def yX2_takesOne : MethodName := ⟨RX2, "takesOne", "()Z"⟩
abbrev cX2_takesAfterOne : ByteArray := prog_4_method_8_code
def yX2_takesAfterOne : MethodName := ⟨RX2, "takesAfterOne", "(I)Z"⟩
abbrev cX2_takesPen : ByteArray := prog_4_method_9_code
def yX2_takesPen : MethodName := ⟨RX2, "takesPen", "(I)Z"⟩
abbrev cX2_takesStar : ByteArray := prog_4_method_10_code
def yX2_takesStar : MethodName := ⟨RX2, "takesStar", "(I)Z"⟩
abbrev cX2_takesFactor : ByteArray := prog_4_method_11_code
def yX2_takesFactor : MethodName := ⟨RX2, "takesFactor", "(I)Z"⟩
abbrev cX2_takesComma : ByteArray := prog_4_method_12_code
def yX2_takesComma : MethodName := ⟨RX2, "takesComma", "(I)Z"⟩
abbrev cX2_endItem : ByteArray := prog_4_method_13_code
def yX2_endItem : MethodName := ⟨RX2, "endItem", "()V"⟩
def RX3 : String := "PenGuild$Pens"
def TX3 : u_T := fun k => match k with
  | 0 => ("PenGuild$Pens", "size", "I", false)
  | 1 => ("PenGuild$Pens", "balance", "[I", true)
  | 2 => ("PenGuild$Pens", "owed", "[I", true)
  | 3 => ("PenGuild$Pens", "income", "[I", true)
  | 4 => ("PenGuild$Pens", "owner", "[I", true)
  | 5 => ("PenGuild$Pens", "price", "[I", true)
  | _ => ("PenGuild$Pens", "paidOut", "[I", true)
def tyX3 : Nat → FieldType := fun k => match k with
  | 0 => .int
  | 1 => .array .int
  | 2 => .array .int
  | 3 => .array .int
  | 4 => .array .int
  | 5 => .array .int
  | _ => .array .int
abbrev wsX30 : List Cond := u_ws RX3 TX3 7
theorem nmX3 : ∀ a, a < 7 → ∀ b, b < 7 → a ≠ b → (TX3 a).2.1 ≠ (TX3 b).2.1 := by decide +kernel
theorem tyX3_ok : ∀ k, k < 7 → parseFieldDescriptor (TX3 k).2.2.1 = some (tyX3 k) := by decide +kernel
abbrev cX3_init : ByteArray := prog_5_method_1_code
def yX3_init : MethodName := ⟨RX3, "<init>", "()V"⟩
abbrev cX3_copyFrom : ByteArray := prog_5_method_2_code
def yX3_copyFrom : MethodName := ⟨RX3, "copyFrom", "(LPenGuild$Pens;)V"⟩
abbrev cX3_passByline : ByteArray := prog_5_method_3_code
def yX3_passByline : MethodName := ⟨RX3, "passByline", "(III)V"⟩
abbrev cX3_earn : ByteArray := prog_5_method_4_code
def yX3_earn : MethodName := ⟨RX3, "earn", "(II)I"⟩
abbrev cX3_bylinesOf : ByteArray := prog_5_method_5_code
def yX3_bylinesOf : MethodName := ⟨RX3, "bylinesOf", "(I)I"⟩
abbrev cX3_bylinesAway : ByteArray := prog_5_method_6_code
def yX3_bylinesAway : MethodName := ⟨RX3, "bylinesAway", "()I"⟩
abbrev cX3_placeOf : ByteArray := prog_5_method_7_code
def yX3_placeOf : MethodName := ⟨RX3, "placeOf", "(I)I"⟩
abbrev cX3_differences : ByteArray := prog_5_method_8_code
def yX3_differences : MethodName := ⟨RX3, "differences", "()I"⟩
def RX4 : String := "PenGuild$Pieces"
def TX4 : u_T := fun k => match k with
  | 0 => ("PenGuild$Pieces", "size", "I", false)
  | 1 => ("PenGuild$Pieces", "byline", "[I", true)
  | 2 => ("PenGuild$Pieces", "fee", "[I", true)
  | 3 => ("PenGuild$Pieces", "stage", "[I", true)
  | 4 => ("PenGuild$Pieces", "contract", "[I", true)
  | 5 => ("PenGuild$Pieces", "royalties", "[I", true)
  | 6 => ("PenGuild$Pieces", "parts", "[I", true)
  | 7 => ("PenGuild$Pieces", "drafts", "[I", true)
  | _ => ("PenGuild$Pieces", "gotThisYear", "[I", true)
def tyX4 : Nat → FieldType := fun k => match k with
  | 0 => .int
  | 1 => .array .int
  | 2 => .array .int
  | 3 => .array .int
  | 4 => .array .int
  | 5 => .array .int
  | 6 => .array .int
  | 7 => .array .int
  | _ => .array .int
abbrev wsX40 : List Cond := u_ws RX4 TX4 9
theorem nmX4 : ∀ a, a < 9 → ∀ b, b < 9 → a ≠ b → (TX4 a).2.1 ≠ (TX4 b).2.1 := by decide +kernel
theorem tyX4_ok : ∀ k, k < 9 → parseFieldDescriptor (TX4 k).2.2.1 = some (tyX4 k) := by decide +kernel
abbrev cX4_init : ByteArray := prog_6_method_1_code
def yX4_init : MethodName := ⟨RX4, "<init>", "()V"⟩
abbrev cX4_copyFrom : ByteArray := prog_6_method_2_code
def yX4_copyFrom : MethodName := ⟨RX4, "copyFrom", "(LPenGuild$Pieces;)V"⟩
abbrev cX4_begin : ByteArray := prog_6_method_3_code
def yX4_begin : MethodName := ⟨RX4, "begin", "(II)I"⟩
abbrev cX4_allParts : ByteArray := prog_6_method_4_code
def yX4_allParts : MethodName := ⟨RX4, "allParts", "(I)I"⟩
abbrev cX4_allDrafts : ByteArray := prog_6_method_5_code
def yX4_allDrafts : MethodName := ⟨RX4, "allDrafts", "(I)I"⟩
abbrev cX4_draftsBy : ByteArray := prog_6_method_6_code
def yX4_draftsBy : MethodName := ⟨RX4, "draftsBy", "(I)I"⟩
abbrev cX4_sharers : ByteArray := prog_6_method_7_code
def yX4_sharers : MethodName := ⟨RX4, "sharers", "(I)I"⟩
abbrev cX4_inStage : ByteArray := prog_6_method_8_code
def yX4_inStage : MethodName := ⟨RX4, "inStage", "(I)I"⟩
abbrev cX4_disputers : ByteArray := prog_6_method_9_code
def yX4_disputers : MethodName := ⟨RX4, "disputers", "(I)I"⟩
abbrev cX4_takeParts : ByteArray := prog_6_method_10_code
def yX4_takeParts : MethodName := ⟨RX4, "takeParts", "(I[I)V"⟩
abbrev cX4_takePartsFromDrafts : ByteArray := prog_6_method_11_code
def yX4_takePartsFromDrafts : MethodName := ⟨RX4, "takePartsFromDrafts", "(I)V"⟩
abbrev cX4_addToYear : ByteArray := prog_6_method_12_code
def yX4_addToYear : MethodName := ⟨RX4, "addToYear", "(I[I)V"⟩
abbrev cX4_writers : ByteArray := prog_6_method_13_code
def yX4_writers : MethodName := ⟨RX4, "writers", "(I)I"⟩
abbrev cX4_writerWithMost : ByteArray := prog_6_method_14_code
def yX4_writerWithMost : MethodName := ⟨RX4, "writerWithMost", "(II)I"⟩
def RX5 : String := "PenGuild$State"
def TX5 : u_T := fun k => match k with
  | 0 => ("PenGuild$State", "pens", "LPenGuild$Pens;", true)
  | 1 => ("PenGuild$State", "pieces", "LPenGuild$Pieces;", true)
  | 2 => ("PenGuild$State", "settings", "[I", true)
  | 3 => ("PenGuild$State", "year", "I", false)
  | 4 => ("PenGuild$State", "reserve", "I", false)
  | 5 => ("PenGuild$State", "cameIn", "I", false)
  | 6 => ("PenGuild$State", "overCap", "I", false)
  | _ => ("PenGuild$State", "disputes", "I", false)
def tyX5 : Nat → FieldType := fun k => match k with
  | 0 => .object "PenGuild$Pens"
  | 1 => .object "PenGuild$Pieces"
  | 2 => .array .int
  | 3 => .int
  | 4 => .int
  | 5 => .int
  | 6 => .int
  | _ => .int
abbrev wsX50 : List Cond := u_ws RX5 TX5 8
theorem nmX5 : ∀ a, a < 8 → ∀ b, b < 8 → a ≠ b → (TX5 a).2.1 ≠ (TX5 b).2.1 := by decide +kernel
theorem tyX5_ok : ∀ k, k < 8 → parseFieldDescriptor (TX5 k).2.2.1 = some (tyX5 k) := by decide +kernel
abbrev cX5_init : ByteArray := prog_7_method_1_code
def yX5_init : MethodName := ⟨RX5, "<init>", "()V"⟩
abbrev cX5_copyFrom : ByteArray := prog_7_method_2_code
def yX5_copyFrom : MethodName := ⟨RX5, "copyFrom", "(LPenGuild$State;)V"⟩
abbrev cX5_killFee : ByteArray := prog_7_method_3_code
def yX5_killFee : MethodName := ⟨RX5, "killFee", "(I)I"⟩
def RX6 : String := "PenGuild"
def TX6 : u_T := fun k => match k with
  | 0 => ("PenGuild", "ring", "[LPenGuild$State;", true)
  | 1 => ("PenGuild", "present", "I", false)
  | 2 => ("PenGuild", "saved", "I", false)
  | 3 => ("PenGuild", "now", "LPenGuild$State;", false)
  | 4 => ("PenGuild", "text", "LPenGuild$PartsText;", true)
  | 5 => ("PenGuild", "division", "LPenGuild$Division;", true)
  | 6 => ("PenGuild", "fair", "LPenGuild$FairParts;", true)
  | 7 => ("PenGuild", "best", "[I", true)
  | _ => ("PenGuild", "bestGain", "[I", true)
def tyX6 : Nat → FieldType := fun k => match k with
  | 0 => .array (.object "PenGuild$State")
  | 1 => .int
  | 2 => .int
  | 3 => .object "PenGuild$State"
  | 4 => .object "PenGuild$PartsText"
  | 5 => .object "PenGuild$Division"
  | 6 => .object "PenGuild$FairParts"
  | 7 => .array .int
  | _ => .array .int
abbrev wsX60 : List Cond := u_ws RX6 TX6 9
theorem nmX6 : ∀ a, a < 9 → ∀ b, b < 9 → a ≠ b → (TX6 a).2.1 ≠ (TX6 b).2.1 := by decide +kernel
theorem tyX6_ok : ∀ k, k < 9 → parseFieldDescriptor (TX6 k).2.2.1 = some (tyX6 k) := by decide +kernel
abbrev cX6_init : ByteArray := prog_1_method_1_code
def yX6_init : MethodName := ⟨RX6, "<init>", "()V"⟩
abbrev cX6_addPen : ByteArray := prog_1_method_2_code
def yX6_addPen : MethodName := ⟨RX6, "addPen", "()I"⟩
abbrev cX6_sell : ByteArray := prog_1_method_3_code
def yX6_sell : MethodName := ⟨RX6, "sell", "(III)I"⟩
abbrev cX6_buyBack : ByteArray := prog_1_method_4_code
def yX6_buyBack : MethodName := ⟨RX6, "buyBack", "(I)I"⟩
abbrev cX6_advance : ByteArray := prog_1_method_5_code
def yX6_advance : MethodName := ⟨RX6, "advance", "(II)I"⟩
abbrev cX6_withdraw : ByteArray := prog_1_method_6_code
def yX6_withdraw : MethodName := ⟨RX6, "withdraw", "(II)I"⟩
abbrev cX6_set : ByteArray := prog_1_method_7_code
def yX6_set : MethodName := ⟨RX6, "set", "(II)I"⟩
abbrev cX6_nextYear : ByteArray := prog_1_method_8_code
def yX6_nextYear : MethodName := ⟨RX6, "nextYear", "()I"⟩
abbrev cX6_order : ByteArray := prog_1_method_9_code
def yX6_order : MethodName := ⟨RX6, "order", "(II)I"⟩
abbrev cX6_draft : ByteArray := prog_1_method_10_code
def yX6_draft : MethodName := ⟨RX6, "draft", "(II)I"⟩
abbrev cX6_revise : ByteArray := prog_1_method_11_code
def yX6_revise : MethodName := ⟨RX6, "revise", "(II)I"⟩
abbrev cX6_share : ByteArray := prog_1_method_12_code
def yX6_share : MethodName := ⟨RX6, "share", "(I)I"⟩
abbrev cX6_accept : ByteArray := prog_1_method_13_code
def yX6_accept : MethodName := ⟨RX6, "accept", "(I)I"⟩
abbrev cX6_kill : ByteArray := prog_1_method_14_code
def yX6_kill : MethodName := ⟨RX6, "kill", "(I)I"⟩
abbrev cX6_royalty : ByteArray := prog_1_method_15_code
def yX6_royalty : MethodName := ⟨RX6, "royalty", "(II)I"⟩
abbrev cX6_dispute : ByteArray := prog_1_method_16_code
def yX6_dispute : MethodName := ⟨RX6, "dispute", "(II)I"⟩
abbrev cX6_append : ByteArray := prog_1_method_17_code
def yX6_append : MethodName := ⟨RX6, "append", "(I)I"⟩
abbrev cX6_clearBuffer : ByteArray := prog_1_method_18_code
def yX6_clearBuffer : MethodName := ⟨RX6, "clearBuffer", "()I"⟩
abbrev cX6_firstError : ByteArray := prog_1_method_19_code
def yX6_firstError : MethodName := ⟨RX6, "firstError", "()I"⟩
abbrev cX6_undo : ByteArray := prog_1_method_20_code
def yX6_undo : MethodName := ⟨RX6, "undo", "()I"⟩
abbrev cX6_pen : ByteArray := prog_1_method_21_code
def yX6_pen : MethodName := ⟨RX6, "pen", "(II)I"⟩
abbrev cX6_piece : ByteArray := prog_1_method_22_code
def yX6_piece : MethodName := ⟨RX6, "piece", "(II)I"⟩
abbrev cX6_between : ByteArray := prog_1_method_23_code
def yX6_between : MethodName := ⟨RX6, "between", "(III)I"⟩
abbrev cX6_count : ByteArray := prog_1_method_24_code
def yX6_count : MethodName := ⟨RX6, "count", "(I)I"⟩
abbrev cX6_setting : ByteArray := prog_1_method_25_code
def yX6_setting : MethodName := ⟨RX6, "setting", "(I)I"⟩
abbrev cX6_ifPaid : ByteArray := prog_1_method_26_code
def yX6_ifPaid : MethodName := ⟨RX6, "ifPaid", "(III)I"⟩
abbrev cX6_fairest : ByteArray := prog_1_method_27_code
def yX6_fairest : MethodName := ⟨RX6, "fairest", "(II)I"⟩
abbrev cX6_bestPiece : ByteArray := prog_1_method_28_code
def yX6_bestPiece : MethodName := ⟨RX6, "bestPiece", "(II)I"⟩
abbrev cX6_spread : ByteArray := prog_1_method_29_code
def yX6_spread : MethodName := ⟨RX6, "spread", "()D"⟩
abbrev cX6_digest : ByteArray := prog_1_method_30_code
def yX6_digest : MethodName := ⟨RX6, "digest", "()J"⟩
abbrev cX6_needPen : ByteArray := prog_1_method_31_code
def yX6_needPen : MethodName := ⟨RX6, "needPen", "(I)V"⟩
abbrev cX6_needPiece : ByteArray := prog_1_method_32_code
def yX6_needPiece : MethodName := ⟨RX6, "needPiece", "(I)V"⟩
abbrev cX6_needSetting : ByteArray := prog_1_method_33_code
def yX6_needSetting : MethodName := ⟨RX6, "needSetting", "(I)V"⟩
abbrev cX6_needRange : ByteArray := prog_1_method_34_code
def yX6_needRange : MethodName := ⟨RX6, "needRange", "(III)V"⟩
abbrev cX6_needAtLeast : ByteArray := prog_1_method_35_code
def yX6_needAtLeast : MethodName := ⟨RX6, "needAtLeast", "(II)V"⟩
abbrev cX6_needUnended : ByteArray := prog_1_method_36_code
def yX6_needUnended : MethodName := ⟨RX6, "needUnended", "(I)V"⟩
abbrev cX6_needAccepted : ByteArray := prog_1_method_37_code
def yX6_needAccepted : MethodName := ⟨RX6, "needAccepted", "(I)V"⟩
abbrev cX6_save : ByteArray := prog_1_method_38_code
def yX6_save : MethodName := ⟨RX6, "save", "()V"⟩
abbrev cX6_bringIn : ByteArray := prog_1_method_39_code
def yX6_bringIn : MethodName := ⟨RX6, "bringIn", "(I)I"⟩
abbrev cX6_gainOf : ByteArray := prog_1_method_40_code
def yX6_gainOf : MethodName := ⟨RX6, "gainOf", "(I)I"⟩
abbrev cX6_findBest : ByteArray := prog_1_method_41_code
def yX6_findBest : MethodName := ⟨RX6, "findBest", "(I)V"⟩
abbrev cX6_preferIfBetter : ByteArray := prog_1_method_42_code
def yX6_preferIfBetter : MethodName := ⟨RX6, "preferIfBetter", "(I)V"⟩
abbrev cX6_mixPen : ByteArray := prog_1_method_43_code
def yX6_mixPen : MethodName := ⟨RX6, "mixPen", "(JI)J"⟩
abbrev cX6_mixPiece : ByteArray := prog_1_method_44_code
def yX6_mixPiece : MethodName := ⟨RX6, "mixPiece", "(JI)J"⟩
abbrev cX6_mix : ByteArray := prog_1_method_45_code
def yX6_mix : MethodName := ⟨RX6, "mix", "(JJ)J"⟩
abbrev cX6_bitsOf : ByteArray := prog_1_method_46_code
def yX6_bitsOf : MethodName := ⟨RX6, "bitsOf", "(D)J"⟩
abbrev cX6_withheld : ByteArray := prog_1_method_47_code
def yX6_withheld : MethodName := ⟨RX6, "withheld", "(II)I"⟩
abbrev cX6_at : ByteArray := prog_1_method_48_code
def yX6_at : MethodName := ⟨RX6, "at", "(II)I"⟩
abbrev cX6_isIn : ByteArray := prog_1_method_49_code
def yX6_isIn : MethodName := ⟨RX6, "isIn", "(II)Z"⟩
abbrev cX6_sum : ByteArray := prog_1_method_50_code
def yX6_sum : MethodName := ⟨RX6, "sum", "([I)I"⟩
abbrev cX6_sumOf : ByteArray := prog_1_method_51_code
def yX6_sumOf : MethodName := ⟨RX6, "sumOf", "([II)I"⟩
abbrev cX6_copyRow : ByteArray := prog_1_method_52_code
def yX6_copyRow : MethodName := ⟨RX6, "copyRow", "([I[I)V"⟩
def RX7 : String := "PenGuildModel"
def TX7 : u_T := fun k => match k with
  | 0 => ("PenGuildModel", "z", "[I", true)
  | 1 => ("PenGuildModel", "aside", "[I", true)
  | 2 => ("PenGuildModel", "rows", "[I", true)
  | 3 => ("PenGuildModel", "text", "[I", true)
  | 4 => ("PenGuildModel", "readParts", "[I", true)
  | 5 => ("PenGuildModel", "shares", "[I", true)
  | 6 => ("PenGuildModel", "rests", "[I", true)
  | 7 => ("PenGuildModel", "writers", "[I", true)
  | 8 => ("PenGuildModel", "bestParts", "[I", true)
  | 9 => ("PenGuildModel", "nowParts", "[I", true)
  | 10 => ("PenGuildModel", "writersMany", "I", false)
  | 11 => ("PenGuildModel", "toReserve", "I", false)
  | 12 => ("PenGuildModel", "saved", "I", false)
  | 13 => ("PenGuildModel", "length", "I", false)
  | 14 => ("PenGuildModel", "thrown", "I", false)
  | 15 => ("PenGuildModel", "state", "I", false)
  | 16 => ("PenGuildModel", "entries", "I", false)
  | 17 => ("PenGuildModel", "used", "I", false)
  | 18 => ("PenGuildModel", "number", "I", false)
  | 19 => ("PenGuildModel", "parts", "I", false)
  | _ => ("PenGuildModel", "h", "J", false)
def tyX7 : Nat → FieldType := fun k => match k with
  | 0 => .array .int
  | 1 => .array .int
  | 2 => .array .int
  | 3 => .array .int
  | 4 => .array .int
  | 5 => .array .int
  | 6 => .array .int
  | 7 => .array .int
  | 8 => .array .int
  | 9 => .array .int
  | 10 => .int
  | 11 => .int
  | 12 => .int
  | 13 => .int
  | 14 => .int
  | 15 => .int
  | 16 => .int
  | 17 => .int
  | 18 => .int
  | 19 => .int
  | _ => .long
abbrev wsX70 : List Cond := u_ws RX7 TX7 21
theorem nmX7 : ∀ a, a < 21 → ∀ b, b < 21 → a ≠ b → (TX7 a).2.1 ≠ (TX7 b).2.1 := by decide +kernel
theorem tyX7_ok : ∀ k, k < 21 → parseFieldDescriptor (TX7 k).2.2.1 = some (tyX7 k) := by decide +kernel
abbrev cX7_init : ByteArray := prog_9_method_1_code
def yX7_init : MethodName := ⟨RX7, "<init>", "()V"⟩
abbrev cX7_thrown : ByteArray := prog_9_method_2_code
def yX7_thrown : MethodName := ⟨RX7, "thrown", "()I"⟩
abbrev cX7_fails : ByteArray := prog_9_method_3_code
def yX7_fails : MethodName := ⟨RX7, "fails", "(I)I"⟩
abbrev cX7_within : ByteArray := prog_9_method_4_code
def yX7_within : MethodName := ⟨RX7, "within", "(III)Z"⟩
abbrev cX7_isPen : ByteArray := prog_9_method_5_code
def yX7_isPen : MethodName := ⟨RX7, "isPen", "(I)Z"⟩
abbrev cX7_isPiece : ByteArray := prog_9_method_6_code
def yX7_isPiece : MethodName := ⟨RX7, "isPiece", "(I)Z"⟩
abbrev cX7_of : ByteArray := prog_9_method_7_code
def yX7_of : MethodName := ⟨RX7, "of", "(II)I"⟩
abbrev cX7_in : ByteArray := prog_9_method_8_code
def yX7_in : MethodName := ⟨RX7, "in", "(II)I"⟩
abbrev cX7_drafts : ByteArray := prog_9_method_9_code
def yX7_drafts : MethodName := ⟨RX7, "drafts", "(II)I"⟩
abbrev cX7_partsOf : ByteArray := prog_9_method_10_code
def yX7_partsOf : MethodName := ⟨RX7, "partsOf", "(II)I"⟩
abbrev cX7_save : ByteArray := prog_9_method_11_code
def yX7_save : MethodName := ⟨RX7, "save", "()V"⟩
abbrev cX7_keep : ByteArray := prog_9_method_12_code
def yX7_keep : MethodName := ⟨RX7, "keep", "()V"⟩
abbrev cX7_bring : ByteArray := prog_9_method_13_code
def yX7_bring : MethodName := ⟨RX7, "bring", "()V"⟩
abbrev cX7_rowSum : ByteArray := prog_9_method_14_code
def yX7_rowSum : MethodName := ⟨RX7, "rowSum", "(I)I"⟩
abbrev cX7_allDrafts : ByteArray := prog_9_method_15_code
def yX7_allDrafts : MethodName := ⟨RX7, "allDrafts", "(I)I"⟩
abbrev cX7_allParts : ByteArray := prog_9_method_16_code
def yX7_allParts : MethodName := ⟨RX7, "allParts", "(I)I"⟩
abbrev cX7_addPen : ByteArray := prog_9_method_17_code
def yX7_addPen : MethodName := ⟨RX7, "addPen", "()I"⟩
abbrev cX7_sold : ByteArray := prog_9_method_18_code
def yX7_sold : MethodName := ⟨RX7, "sold", "(III)I"⟩
abbrev cX7_sell : ByteArray := prog_9_method_19_code
def yX7_sell : MethodName := ⟨RX7, "sell", "(III)I"⟩
abbrev cX7_buyBack : ByteArray := prog_9_method_20_code
def yX7_buyBack : MethodName := ⟨RX7, "buyBack", "(I)I"⟩
abbrev cX7_advance : ByteArray := prog_9_method_21_code
def yX7_advance : MethodName := ⟨RX7, "advance", "(II)I"⟩
abbrev cX7_withdraw : ByteArray := prog_9_method_22_code
def yX7_withdraw : MethodName := ⟨RX7, "withdraw", "(II)I"⟩
abbrev cX7_mostOf : ByteArray := prog_9_method_23_code
def yX7_mostOf : MethodName := ⟨RX7, "mostOf", "(I)I"⟩
abbrev cX7_set : ByteArray := prog_9_method_24_code
def yX7_set : MethodName := ⟨RX7, "set", "(II)I"⟩
abbrev cX7_nextYear : ByteArray := prog_9_method_25_code
def yX7_nextYear : MethodName := ⟨RX7, "nextYear", "()I"⟩
abbrev cX7_order : ByteArray := prog_9_method_26_code
def yX7_order : MethodName := ⟨RX7, "order", "(II)I"⟩
abbrev cX7_draft : ByteArray := prog_9_method_27_code
def yX7_draft : MethodName := ⟨RX7, "draft", "(II)I"⟩
abbrev cX7_revise : ByteArray := prog_9_method_28_code
def yX7_revise : MethodName := ⟨RX7, "revise", "(II)I"⟩
abbrev cX7_isUsed : ByteArray := prog_9_method_29_code
def yX7_isUsed : MethodName := ⟨RX7, "isUsed", "(I)Z"⟩
abbrev cX7_begins : ByteArray := prog_9_method_30_code
def yX7_begins : MethodName := ⟨RX7, "begins", "(I)Z"⟩
abbrev cX7_isOver : ByteArray := prog_9_method_31_code
def yX7_isOver : MethodName := ⟨RX7, "isOver", "()Z"⟩
abbrev cX7_ends : ByteArray := prog_9_method_32_code
def yX7_ends : MethodName := ⟨RX7, "ends", "()V"⟩
abbrev cX7_goesOn : ByteArray := prog_9_method_33_code
def yX7_goesOn : MethodName := ⟨RX7, "goesOn", "(I)Z"⟩
abbrev cX7_takes : ByteArray := prog_9_method_34_code
def yX7_takes : MethodName := ⟨RX7, "takes", "(I)Z"⟩
abbrev cX7_read : ByteArray := prog_9_method_35_code
def yX7_read : MethodName := ⟨RX7, "read", "()I"⟩
abbrev cX7_isList : ByteArray := prog_9_method_36_code
def yX7_isList : MethodName := ⟨RX7, "isList", "()Z"⟩
abbrev cX7_areThere : ByteArray := prog_9_method_37_code
def yX7_areThere : MethodName := ⟨RX7, "areThere", "()Z"⟩
abbrev cX7_share : ByteArray := prog_9_method_38_code
def yX7_share : MethodName := ⟨RX7, "share", "(I)I"⟩
abbrev cX7_reserves : ByteArray := prog_9_method_39_code
def yX7_reserves : MethodName := ⟨RX7, "reserves", "(I)V"⟩
abbrev cX7_income : ByteArray := prog_9_method_40_code
def yX7_income : MethodName := ⟨RX7, "income", "(II)V"⟩
abbrev cX7_split : ByteArray := prog_9_method_41_code
def yX7_split : MethodName := ⟨RX7, "split", "(II)V"⟩
abbrev cX7_capped : ByteArray := prog_9_method_42_code
def yX7_capped : MethodName := ⟨RX7, "capped", "(III)I"⟩
abbrev cX7_comesIn : ByteArray := prog_9_method_43_code
def yX7_comesIn : MethodName := ⟨RX7, "comesIn", "(IIZ)V"⟩
abbrev cX7_accept : ByteArray := prog_9_method_44_code
def yX7_accept : MethodName := ⟨RX7, "accept", "(I)I"⟩
abbrev cX7_killFee : ByteArray := prog_9_method_45_code
def yX7_killFee : MethodName := ⟨RX7, "killFee", "(I)I"⟩
abbrev cX7_kill : ByteArray := prog_9_method_46_code
def yX7_kill : MethodName := ⟨RX7, "kill", "(I)I"⟩
abbrev cX7_royalty : ByteArray := prog_9_method_47_code
def yX7_royalty : MethodName := ⟨RX7, "royalty", "(II)I"⟩
abbrev cX7_canDispute : ByteArray := prog_9_method_48_code
def yX7_canDispute : MethodName := ⟨RX7, "canDispute", "(II)Z"⟩
abbrev cX7_isWriter : ByteArray := prog_9_method_49_code
def yX7_isWriter : MethodName := ⟨RX7, "isWriter", "(I)Z"⟩
abbrev cX7_layWriters : ByteArray := prog_9_method_50_code
def yX7_layWriters : MethodName := ⟨RX7, "layWriters", "(I)V"⟩
abbrev cX7_dispute : ByteArray := prog_9_method_51_code
def yX7_dispute : MethodName := ⟨RX7, "dispute", "(II)I"⟩
abbrev cX7_append : ByteArray := prog_9_method_52_code
def yX7_append : MethodName := ⟨RX7, "append", "(I)I"⟩
abbrev cX7_clearBuffer : ByteArray := prog_9_method_53_code
def yX7_clearBuffer : MethodName := ⟨RX7, "clearBuffer", "()I"⟩
abbrev cX7_firstError : ByteArray := prog_9_method_54_code
def yX7_firstError : MethodName := ⟨RX7, "firstError", "()I"⟩
abbrev cX7_undo : ByteArray := prog_9_method_55_code
def yX7_undo : MethodName := ⟨RX7, "undo", "()I"⟩
abbrev cX7_owns : ByteArray := prog_9_method_56_code
def yX7_owns : MethodName := ⟨RX7, "owns", "(I)I"⟩
abbrev cX7_wrote : ByteArray := prog_9_method_57_code
def yX7_wrote : MethodName := ⟨RX7, "wrote", "(I)I"⟩
abbrev cX7_placeOf : ByteArray := prog_9_method_58_code
def yX7_placeOf : MethodName := ⟨RX7, "placeOf", "(I)I"⟩
abbrev cX7_penNow : ByteArray := prog_9_method_59_code
def yX7_penNow : MethodName := ⟨RX7, "penNow", "(II)I"⟩
abbrev cX7_pen : ByteArray := prog_9_method_60_code
def yX7_pen : MethodName := ⟨RX7, "pen", "(II)I"⟩
abbrev cX7_pensWith : ByteArray := prog_9_method_61_code
def yX7_pensWith : MethodName := ⟨RX7, "pensWith", "(I)I"⟩
abbrev cX7_whoDisputes : ByteArray := prog_9_method_62_code
def yX7_whoDisputes : MethodName := ⟨RX7, "whoDisputes", "(I)I"⟩
abbrev cX7_pieceNow : ByteArray := prog_9_method_63_code
def yX7_pieceNow : MethodName := ⟨RX7, "pieceNow", "(II)I"⟩
abbrev cX7_piece : ByteArray := prog_9_method_64_code
def yX7_piece : MethodName := ⟨RX7, "piece", "(II)I"⟩
abbrev cX7_betweenNow : ByteArray := prog_9_method_65_code
def yX7_betweenNow : MethodName := ⟨RX7, "betweenNow", "(III)I"⟩
abbrev cX7_between : ByteArray := prog_9_method_66_code
def yX7_between : MethodName := ⟨RX7, "between", "(III)I"⟩
abbrev cX7_sumOf : ByteArray := prog_9_method_67_code
def yX7_sumOf : MethodName := ⟨RX7, "sumOf", "(I)I"⟩
abbrev cX7_inStage : ByteArray := prog_9_method_68_code
def yX7_inStage : MethodName := ⟨RX7, "inStage", "(I)I"⟩
abbrev cX7_soldOnes : ByteArray := prog_9_method_69_code
def yX7_soldOnes : MethodName := ⟨RX7, "soldOnes", "()I"⟩
abbrev cX7_counted : ByteArray := prog_9_method_70_code
def yX7_counted : MethodName := ⟨RX7, "counted", "(I)I"⟩
abbrev cX7_count : ByteArray := prog_9_method_71_code
def yX7_count : MethodName := ⟨RX7, "count", "(I)I"⟩
abbrev cX7_setting : ByteArray := prog_9_method_72_code
def yX7_setting : MethodName := ⟨RX7, "setting", "(I)I"⟩
abbrev cX7_paidNow : ByteArray := prog_9_method_73_code
def yX7_paidNow : MethodName := ⟨RX7, "paidNow", "(III)I"⟩
abbrev cX7_ifPaid : ByteArray := prog_9_method_74_code
def yX7_ifPaid : MethodName := ⟨RX7, "ifPaid", "(III)I"⟩
abbrev cX7_writersDrafts : ByteArray := prog_9_method_75_code
def yX7_writersDrafts : MethodName := ⟨RX7, "writersDrafts", "(I)I"⟩
abbrev cX7_layParts : ByteArray := prog_9_method_76_code
def yX7_layParts : MethodName := ⟨RX7, "layParts", "(I)I"⟩
abbrev cX7_unfair : ByteArray := prog_9_method_77_code
def yX7_unfair : MethodName := ⟨RX7, "unfair", "(III)I"⟩
abbrev cX7_layFairest : ByteArray := prog_9_method_78_code
def yX7_layFairest : MethodName := ⟨RX7, "layFairest", "(I)V"⟩
abbrev cX7_fairOf : ByteArray := prog_9_method_79_code
def yX7_fairOf : MethodName := ⟨RX7, "fairOf", "(I)I"⟩
abbrev cX7_fairest : ByteArray := prog_9_method_80_code
def yX7_fairest : MethodName := ⟨RX7, "fairest", "(II)I"⟩
abbrev cX7_bestNow : ByteArray := prog_9_method_81_code
def yX7_bestNow : MethodName := ⟨RX7, "bestNow", "(II)I"⟩
abbrev cX7_bestPiece : ByteArray := prog_9_method_82_code
def yX7_bestPiece : MethodName := ⟨RX7, "bestPiece", "(II)I"⟩
abbrev cX7_spreadNow : ByteArray := prog_9_method_83_code
def yX7_spreadNow : MethodName := ⟨RX7, "spreadNow", "()D"⟩
abbrev cX7_spread : ByteArray := prog_9_method_84_code
def yX7_spread : MethodName := ⟨RX7, "spread", "()D"⟩
abbrev cX7_mix : ByteArray := prog_9_method_85_code
def yX7_mix : MethodName := ⟨RX7, "mix", "(J)V"⟩
abbrev cX7_mixPiece : ByteArray := prog_9_method_86_code
def yX7_mixPiece : MethodName := ⟨RX7, "mixPiece", "(I)V"⟩
abbrev cX7_digest : ByteArray := prog_9_method_87_code
def yX7_digest : MethodName := ⟨RX7, "digest", "()J"⟩
def RJx145de : String := "java/io/Serializable"
def TJx145de : u_T := fun k => match k with
  | _ => ("", "", "", false)
def tyJx145de : Nat → FieldType := fun k => match k with
  | _ => .int
abbrev wsJx145de0 : List Cond := u_ws RJx145de TJx145de 0
theorem nmJx145de : ∀ a, a < 0 → ∀ b, b < 0 → a ≠ b → (TJx145de a).2.1 ≠ (TJx145de b).2.1 := by decide +kernel
theorem tyJx145de_ok : ∀ k, k < 0 → parseFieldDescriptor (TJx145de k).2.2.1 = some (tyJx145de k) := by decide +kernel
def RJx8e188 : String := "java/lang/Cloneable"
def TJx8e188 : u_T := fun k => match k with
  | _ => ("", "", "", false)
def tyJx8e188 : Nat → FieldType := fun k => match k with
  | _ => .int
abbrev wsJx8e1880 : List Cond := u_ws RJx8e188 TJx8e188 0
theorem nmJx8e188 : ∀ a, a < 0 → ∀ b, b < 0 → a ≠ b → (TJx8e188 a).2.1 ≠ (TJx8e188 b).2.1 := by decide +kernel
theorem tyJx8e188_ok : ∀ k, k < 0 → parseFieldDescriptor (TJx8e188 k).2.2.1 = some (tyJx8e188 k) := by decide +kernel
def RJxb160c : String := "java/lang/Comparable"
def TJxb160c : u_T := fun k => match k with
  | _ => ("", "", "", false)
def tyJxb160c : Nat → FieldType := fun k => match k with
  | _ => .int
abbrev wsJxb160c0 : List Cond := u_ws RJxb160c TJxb160c 0
theorem nmJxb160c : ∀ a, a < 0 → ∀ b, b < 0 → a ≠ b → (TJxb160c a).2.1 ≠ (TJxb160c b).2.1 := by decide +kernel
theorem tyJxb160c_ok : ∀ k, k < 0 → parseFieldDescriptor (TJxb160c k).2.2.1 = some (tyJxb160c k) := by decide +kernel
def RJxe99ae : String := "java/lang/Double"
def TJxe99ae : u_T := fun k => match k with
  | _ => ("", "", "", false)
def tyJxe99ae : Nat → FieldType := fun k => match k with
  | _ => .int
abbrev wsJxe99ae0 : List Cond := u_ws RJxe99ae TJxe99ae 0
theorem nmJxe99ae : ∀ a, a < 0 → ∀ b, b < 0 → a ≠ b → (TJxe99ae a).2.1 ≠ (TJxe99ae b).2.1 := by decide +kernel
theorem tyJxe99ae_ok : ∀ k, k < 0 → parseFieldDescriptor (TJxe99ae k).2.2.1 = some (tyJxe99ae k) := by decide +kernel
abbrev cJxe99ae_isNaN_b9ae7 : ByteArray := prog_11_method_6_code
def yJxe99ae_isNaN_b9ae7 : MethodName := ⟨RJxe99ae, "isNaN", "(D)Z"⟩
abbrev cJxe99ae_doubleToLongBits_ccdee : ByteArray := prog_11_method_23_code
def yJxe99ae_doubleToLongBits_ccdee : MethodName := ⟨RJxe99ae, "doubleToLongBits", "(D)J"⟩
def RJ9 : String := "java/lang/Math"
def TJ9 : u_T := fun k => match k with
  | _ => ("", "", "", false)
def tyJ9 : Nat → FieldType := fun k => match k with
  | _ => .int
abbrev wsJ90 : List Cond := u_ws RJ9 TJ9 0
theorem nmJ9 : ∀ a, a < 0 → ∀ b, b < 0 → a ≠ b → (TJ9 a).2.1 ≠ (TJ9 b).2.1 := by decide +kernel
theorem tyJ9_ok : ∀ k, k < 0 → parseFieldDescriptor (TJ9 k).2.2.1 = some (tyJ9 k) := by decide +kernel
abbrev cJ9_abs_0f7a4 : ByteArray := prog_16_method_59_code
def yJ9_abs_0f7a4 : MethodName := ⟨RJ9, "abs", "(I)I"⟩
abbrev cJ9_max_7cf53 : ByteArray := prog_16_method_65_code
def yJ9_max_7cf53 : MethodName := ⟨RJ9, "max", "(II)I"⟩
abbrev cJ9_min_7cf53 : ByteArray := prog_16_method_69_code
def yJ9_min_7cf53 : MethodName := ⟨RJ9, "min", "(II)I"⟩
def RJxd2413 : String := "java/lang/Number"
def TJxd2413 : u_T := fun k => match k with
  | _ => ("", "", "", false)
def tyJxd2413 : Nat → FieldType := fun k => match k with
  | _ => .int
abbrev wsJxd24130 : List Cond := u_ws RJxd2413 TJxd2413 0
theorem nmJxd2413 : ∀ a, a < 0 → ∀ b, b < 0 → a ≠ b → (TJxd2413 a).2.1 ≠ (TJxd2413 b).2.1 := by decide +kernel
theorem tyJxd2413_ok : ∀ k, k < 0 → parseFieldDescriptor (TJxd2413 k).2.2.1 = some (tyJxd2413 k) := by decide +kernel
def RJ0 : String := "java/lang/String"
def TJ0 : u_T := fun k => match k with
  | _ => ("", "", "", false)
def tyJ0 : Nat → FieldType := fun k => match k with
  | _ => .int
abbrev wsJ00 : List Cond := u_ws RJ0 TJ0 0
theorem nmJ0 : ∀ a, a < 0 → ∀ b, b < 0 → a ≠ b → (TJ0 a).2.1 ≠ (TJ0 b).2.1 := by decide +kernel
theorem tyJ0_ok : ∀ k, k < 0 → parseFieldDescriptor (TJ0 k).2.2.1 = some (tyJ0 k) := by decide +kernel
def RJ10 : String := "java/lang/System"
def TJ10 : u_T := fun k => match k with
  | _ => ("", "", "", false)
def tyJ10 : Nat → FieldType := fun k => match k with
  | _ => .int
abbrev wsJ100 : List Cond := u_ws RJ10 TJ10 0
theorem nmJ10 : ∀ a, a < 0 → ∀ b, b < 0 → a ≠ b → (TJ10 a).2.1 ≠ (TJ10 b).2.1 := by decide +kernel
theorem tyJ10_ok : ∀ k, k < 0 → parseFieldDescriptor (TJ10 k).2.2.1 = some (tyJ10 k) := by decide +kernel
def RJxfd54e : String := "java/lang/constant/Constable"
def TJxfd54e : u_T := fun k => match k with
  | _ => ("", "", "", false)
def tyJxfd54e : Nat → FieldType := fun k => match k with
  | _ => .int
abbrev wsJxfd54e0 : List Cond := u_ws RJxfd54e TJxfd54e 0
theorem nmJxfd54e : ∀ a, a < 0 → ∀ b, b < 0 → a ≠ b → (TJxfd54e a).2.1 ≠ (TJxfd54e b).2.1 := by decide +kernel
theorem tyJxfd54e_ok : ∀ k, k < 0 → parseFieldDescriptor (TJxfd54e k).2.2.1 = some (tyJxfd54e k) := by decide +kernel
def RJx3cf43 : String := "java/lang/constant/ConstantDesc"
def TJx3cf43 : u_T := fun k => match k with
  | _ => ("", "", "", false)
def tyJx3cf43 : Nat → FieldType := fun k => match k with
  | _ => .int
abbrev wsJx3cf430 : List Cond := u_ws RJx3cf43 TJx3cf43 0
theorem nmJx3cf43 : ∀ a, a < 0 → ∀ b, b < 0 → a ≠ b → (TJx3cf43 a).2.1 ≠ (TJx3cf43 b).2.1 := by decide +kernel
theorem tyJx3cf43_ok : ∀ k, k < 0 → parseFieldDescriptor (TJx3cf43 k).2.2.1 = some (tyJx3cf43 k) := by decide +kernel
def RJ7 : String := "java/util/Arrays"
def TJ7 : u_T := fun k => match k with
  | _ => ("", "", "", false)
def tyJ7 : Nat → FieldType := fun k => match k with
  | _ => .int
abbrev wsJ70 : List Cond := u_ws RJ7 TJ7 0
theorem nmJ7 : ∀ a, a < 0 → ∀ b, b < 0 → a ≠ b → (TJ7 a).2.1 ≠ (TJ7 b).2.1 := by decide +kernel
theorem tyJ7_ok : ∀ k, k < 0 → parseFieldDescriptor (TJ7 k).2.2.1 = some (tyJ7 k) := by decide +kernel
abbrev cJ7_fill_53178 : ByteArray := prog_22_method_103_code
def yJ7_fill_53178 : MethodName := ⟨RJ7, "fill", "([II)V"⟩
def RL : String := "PenGuildLaw"
abbrev cL_addPen : ByteArray := method_3_code
def yL_addPen : MethodName := ⟨RL, "addPen", "(LPenGuild;[J)I"⟩
abbrev cL_sell : ByteArray := method_4_code
def yL_sell : MethodName := ⟨RL, "sell", "(LPenGuild;III[J)I"⟩
abbrev cL_buyBack : ByteArray := method_5_code
def yL_buyBack : MethodName := ⟨RL, "buyBack", "(LPenGuild;I[J)I"⟩
abbrev cL_advance : ByteArray := method_6_code
def yL_advance : MethodName := ⟨RL, "advance", "(LPenGuild;II[J)I"⟩
abbrev cL_withdraw : ByteArray := method_7_code
def yL_withdraw : MethodName := ⟨RL, "withdraw", "(LPenGuild;II[J)I"⟩
abbrev cL_set : ByteArray := method_8_code
def yL_set : MethodName := ⟨RL, "set", "(LPenGuild;II[J)I"⟩
abbrev cL_order : ByteArray := method_9_code
def yL_order : MethodName := ⟨RL, "order", "(LPenGuild;II[J)I"⟩
abbrev cL_draft : ByteArray := method_10_code
def yL_draft : MethodName := ⟨RL, "draft", "(LPenGuild;II[J)I"⟩
abbrev cL_revise : ByteArray := method_11_code
def yL_revise : MethodName := ⟨RL, "revise", "(LPenGuild;II[J)I"⟩
abbrev cL_share : ByteArray := method_12_code
def yL_share : MethodName := ⟨RL, "share", "(LPenGuild;I[J)I"⟩
abbrev cL_accept : ByteArray := method_13_code
def yL_accept : MethodName := ⟨RL, "accept", "(LPenGuild;I[J)I"⟩
abbrev cL_kill : ByteArray := method_14_code
def yL_kill : MethodName := ⟨RL, "kill", "(LPenGuild;I[J)I"⟩
abbrev cL_royalty : ByteArray := method_15_code
def yL_royalty : MethodName := ⟨RL, "royalty", "(LPenGuild;II[J)I"⟩
abbrev cL_dispute : ByteArray := method_16_code
def yL_dispute : MethodName := ⟨RL, "dispute", "(LPenGuild;II[J)I"⟩
abbrev cL_append : ByteArray := method_17_code
def yL_append : MethodName := ⟨RL, "append", "(LPenGuild;I[J)I"⟩
abbrev cL_undo : ByteArray := method_18_code
def yL_undo : MethodName := ⟨RL, "undo", "(LPenGuild;[J)I"⟩
abbrev cL_pen : ByteArray := method_19_code
def yL_pen : MethodName := ⟨RL, "pen", "(LPenGuild;II[J)I"⟩
abbrev cL_piece : ByteArray := method_20_code
def yL_piece : MethodName := ⟨RL, "piece", "(LPenGuild;II[J)I"⟩
abbrev cL_between : ByteArray := method_21_code
def yL_between : MethodName := ⟨RL, "between", "(LPenGuild;III[J)I"⟩
abbrev cL_count : ByteArray := method_22_code
def yL_count : MethodName := ⟨RL, "count", "(LPenGuild;I[J)I"⟩
abbrev cL_setting : ByteArray := method_23_code
def yL_setting : MethodName := ⟨RL, "setting", "(LPenGuild;I[J)I"⟩
abbrev cL_ifPaid : ByteArray := method_24_code
def yL_ifPaid : MethodName := ⟨RL, "ifPaid", "(LPenGuild;III[J)I"⟩
abbrev cL_fairest : ByteArray := method_25_code
def yL_fairest : MethodName := ⟨RL, "fairest", "(LPenGuild;II[J)I"⟩
abbrev cL_bestPiece : ByteArray := method_26_code
def yL_bestPiece : MethodName := ⟨RL, "bestPiece", "(LPenGuild;II[J)I"⟩
abbrev cL_law : ByteArray := code
def yL_law : MethodName := ⟨RL, "law", "([I)Z"⟩
def wsJ7_fill_53178 : List Cond := .code yJ7_fill_53178 cJ7_fill_53178 4 none :: ([])
def wsJxe99ae_isNaN_b9ae7 : List Cond := .code yJxe99ae_isNaN_b9ae7 cJxe99ae_isNaN_b9ae7 2 (some .boolean) :: ([])
def wsJxe99ae_doubleToLongBits_ccdee : List Cond := .code yJxe99ae_doubleToLongBits_ccdee cJxe99ae_doubleToLongBits_ccdee 2 (some .long) :: ([.methodLink RJxe99ae 134 ⟨"java/lang/Double", "doubleToRawLongBits", "(D)J"⟩, .native ⟨"java/lang/Double", "doubleToRawLongBits", "(D)J"⟩, .static ⟨"java/lang/Double", "doubleToRawLongBits", "(D)J"⟩, .initialized "java/lang/Double", .constantLong RJxe99ae 137 (9221120237041090560), .methodLink RJxe99ae 122 yJxe99ae_isNaN_b9ae7, .static yJxe99ae_isNaN_b9ae7, .initialized RJxe99ae, .code yJxe99ae_isNaN_b9ae7 cJxe99ae_isNaN_b9ae7 2 (some .boolean)])
def wsJ9_abs_0f7a4 : List Cond := .code yJ9_abs_0f7a4 cJ9_abs_0f7a4 1 (some .int) :: ([])
def wsJ9_max_7cf53 : List Cond := .code yJ9_max_7cf53 cJ9_max_7cf53 2 (some .int) :: ([])
def wsJ9_min_7cf53 : List Cond := .code yJ9_min_7cf53 cJ9_min_7cf53 2 (some .int) :: ([])
theorem inJx145de : ∀ w ∈ wsJx145de0, w ∈ lw_tbl := by decide +kernel
theorem inJx8e188 : ∀ w ∈ wsJx8e1880, w ∈ lw_tbl := by decide +kernel
theorem inJxb160c : ∀ w ∈ wsJxb160c0, w ∈ lw_tbl := by decide +kernel
theorem inJxe99ae : ∀ w ∈ wsJxe99ae0, w ∈ lw_tbl := by decide +kernel
theorem inJ9 : ∀ w ∈ wsJ90, w ∈ lw_tbl := by decide +kernel
theorem inJxd2413 : ∀ w ∈ wsJxd24130, w ∈ lw_tbl := by decide +kernel
theorem inJ0 : ∀ w ∈ wsJ00, w ∈ lw_tbl := by decide +kernel
theorem inJ10 : ∀ w ∈ wsJ100, w ∈ lw_tbl := by decide +kernel
theorem inJxfd54e : ∀ w ∈ wsJxfd54e0, w ∈ lw_tbl := by decide +kernel
theorem inJx3cf43 : ∀ w ∈ wsJx3cf430, w ∈ lw_tbl := by decide +kernel
theorem inJ7 : ∀ w ∈ wsJ70, w ∈ lw_tbl := by decide +kernel
theorem dJxe99ae_isNaN_b9ae7_0 : decode cJxe99ae_isNaN_b9ae7 0 = .ok (.dload_n 0, 1) := by decide +kernel
theorem dJxe99ae_isNaN_b9ae7_1 : decode cJxe99ae_isNaN_b9ae7 1 = .ok (.dload_n 0, 1) := by decide +kernel
theorem dJxe99ae_isNaN_b9ae7_2 : decode cJxe99ae_isNaN_b9ae7 2 = .ok (.dcmp .l, 1) := by decide +kernel
theorem dJxe99ae_isNaN_b9ae7_3 : decode cJxe99ae_isNaN_b9ae7 3 = .ok (.ifCond .eq 7, 3) := by decide +kernel
theorem dJxe99ae_isNaN_b9ae7_6 : decode cJxe99ae_isNaN_b9ae7 6 = .ok (.iconst 1, 1) := by decide +kernel
theorem dJxe99ae_isNaN_b9ae7_7 : decode cJxe99ae_isNaN_b9ae7 7 = .ok (.goto 4, 3) := by decide +kernel
theorem dJxe99ae_isNaN_b9ae7_10 : decode cJxe99ae_isNaN_b9ae7 10 = .ok (.iconst 0, 1) := by decide +kernel
theorem dJxe99ae_isNaN_b9ae7_11 : decode cJxe99ae_isNaN_b9ae7 11 = .ok (.ireturn, 1) := by decide +kernel
set_option maxRecDepth 20000 in
theorem ggJxe99ae_doubleToLongBits_ccdee_Jxe99ae_isNaN_b9ae7 : GoodIn wsJxe99ae_doubleToLongBits_ccdee wsJxe99ae_isNaN_b9ae7 := goodIn_r _ [9] (by decide +kernel) (by decide +kernel)
set_option maxRecDepth 20000 in
theorem gJxe99ae_doubleToLongBits_ccdee_Jxe99ae_isNaN_b9ae7 : GoodIn wsJxe99ae_doubleToLongBits_ccdee (va_wsS RJxe99ae 122 yJxe99ae_isNaN_b9ae7 wsJxe99ae_isNaN_b9ae7) := goodIn_app (goodIn_of _ (by decide +kernel)) ggJxe99ae_doubleToLongBits_ccdee_Jxe99ae_isNaN_b9ae7
theorem dJxe99ae_doubleToLongBits_ccdee_0 : decode cJxe99ae_doubleToLongBits_ccdee 0 = .ok (.dload_n 0, 1) := by decide +kernel
theorem dJxe99ae_doubleToLongBits_ccdee_1 : decode cJxe99ae_doubleToLongBits_ccdee 1 = .ok (.invokestatic 122, 3) := by decide +kernel
theorem dJxe99ae_doubleToLongBits_ccdee_4 : decode cJxe99ae_doubleToLongBits_ccdee 4 = .ok (.ifCond .ne 8, 3) := by decide +kernel
theorem dJxe99ae_doubleToLongBits_ccdee_7 : decode cJxe99ae_doubleToLongBits_ccdee 7 = .ok (.dload_n 0, 1) := by decide +kernel
theorem dJxe99ae_doubleToLongBits_ccdee_8 : decode cJxe99ae_doubleToLongBits_ccdee 8 = .ok (.invokestatic 134, 3) := by decide +kernel
theorem dJxe99ae_doubleToLongBits_ccdee_11 : decode cJxe99ae_doubleToLongBits_ccdee 11 = .ok (.lreturn, 1) := by decide +kernel
theorem dJxe99ae_doubleToLongBits_ccdee_12 : decode cJxe99ae_doubleToLongBits_ccdee 12 = .ok (.ldc2_w 137, 3) := by decide +kernel
theorem dJxe99ae_doubleToLongBits_ccdee_15 : decode cJxe99ae_doubleToLongBits_ccdee 15 = .ok (.lreturn, 1) := by decide +kernel
theorem dJ9_abs_0f7a4_0 : decode cJ9_abs_0f7a4 0 = .ok (.iload_n 0, 1) := by decide +kernel
theorem dJ9_abs_0f7a4_1 : decode cJ9_abs_0f7a4 1 = .ok (.ifCond .ge 8, 3) := by decide +kernel
theorem dJ9_abs_0f7a4_4 : decode cJ9_abs_0f7a4 4 = .ok (.iload_n 0, 1) := by decide +kernel
theorem dJ9_abs_0f7a4_5 : decode cJ9_abs_0f7a4 5 = .ok (.ineg, 1) := by decide +kernel
theorem dJ9_abs_0f7a4_6 : decode cJ9_abs_0f7a4 6 = .ok (.goto 4, 3) := by decide +kernel
theorem dJ9_abs_0f7a4_9 : decode cJ9_abs_0f7a4 9 = .ok (.iload_n 0, 1) := by decide +kernel
theorem dJ9_abs_0f7a4_10 : decode cJ9_abs_0f7a4 10 = .ok (.ireturn, 1) := by decide +kernel
theorem dJ9_max_7cf53_0 : decode cJ9_max_7cf53 0 = .ok (.iload_n 0, 1) := by decide +kernel
theorem dJ9_max_7cf53_1 : decode cJ9_max_7cf53 1 = .ok (.iload_n 1, 1) := by decide +kernel
theorem dJ9_max_7cf53_2 : decode cJ9_max_7cf53 2 = .ok (.if_icmp .lt 7, 3) := by decide +kernel
theorem dJ9_max_7cf53_5 : decode cJ9_max_7cf53 5 = .ok (.iload_n 0, 1) := by decide +kernel
theorem dJ9_max_7cf53_6 : decode cJ9_max_7cf53 6 = .ok (.goto 4, 3) := by decide +kernel
theorem dJ9_max_7cf53_9 : decode cJ9_max_7cf53 9 = .ok (.iload_n 1, 1) := by decide +kernel
theorem dJ9_max_7cf53_10 : decode cJ9_max_7cf53 10 = .ok (.ireturn, 1) := by decide +kernel
theorem dJ9_min_7cf53_0 : decode cJ9_min_7cf53 0 = .ok (.iload_n 0, 1) := by decide +kernel
theorem dJ9_min_7cf53_1 : decode cJ9_min_7cf53 1 = .ok (.iload_n 1, 1) := by decide +kernel
theorem dJ9_min_7cf53_2 : decode cJ9_min_7cf53 2 = .ok (.if_icmp .gt 7, 3) := by decide +kernel
theorem dJ9_min_7cf53_5 : decode cJ9_min_7cf53 5 = .ok (.iload_n 0, 1) := by decide +kernel
theorem dJ9_min_7cf53_6 : decode cJ9_min_7cf53 6 = .ok (.goto 4, 3) := by decide +kernel
theorem dJ9_min_7cf53_9 : decode cJ9_min_7cf53 9 = .ok (.iload_n 1, 1) := by decide +kernel
theorem dJ9_min_7cf53_10 : decode cJ9_min_7cf53 10 = .ok (.ireturn, 1) := by decide +kernel
theorem dJ7_fill_53178_0 : decode cJ7_fill_53178 0 = .ok (.iconst 0, 1) := by decide +kernel
theorem dJ7_fill_53178_1 : decode cJ7_fill_53178 1 = .ok (.istore_n 2, 1) := by decide +kernel
theorem dJ7_fill_53178_2 : decode cJ7_fill_53178 2 = .ok (.aload_n 0, 1) := by decide +kernel
theorem dJ7_fill_53178_3 : decode cJ7_fill_53178 3 = .ok (.arraylength, 1) := by decide +kernel
theorem dJ7_fill_53178_4 : decode cJ7_fill_53178 4 = .ok (.istore_n 3, 1) := by decide +kernel
theorem dJ7_fill_53178_5 : decode cJ7_fill_53178 5 = .ok (.iload_n 2, 1) := by decide +kernel
theorem dJ7_fill_53178_6 : decode cJ7_fill_53178 6 = .ok (.iload_n 3, 1) := by decide +kernel
theorem dJ7_fill_53178_7 : decode cJ7_fill_53178 7 = .ok (.if_icmp .ge 13, 3) := by decide +kernel
theorem dJ7_fill_53178_10 : decode cJ7_fill_53178 10 = .ok (.aload_n 0, 1) := by decide +kernel
theorem dJ7_fill_53178_11 : decode cJ7_fill_53178 11 = .ok (.iload_n 2, 1) := by decide +kernel
theorem dJ7_fill_53178_12 : decode cJ7_fill_53178 12 = .ok (.iload_n 1, 1) := by decide +kernel
theorem dJ7_fill_53178_13 : decode cJ7_fill_53178 13 = .ok (.iastore, 1) := by decide +kernel
theorem dJ7_fill_53178_14 : decode cJ7_fill_53178 14 = .ok (.iinc 2 1, 3) := by decide +kernel
theorem dJ7_fill_53178_17 : decode cJ7_fill_53178 17 = .ok (.goto (-12), 3) := by decide +kernel
theorem dJ7_fill_53178_20 : decode cJ7_fill_53178 20 = .ok (.return_, 1) := by decide +kernel
abbrev vwCl : List vw_C := [(RX0, TX0, 6), (RX1, TX1, 6), (RX2, TX2, 7), (RX3, TX3, 7), (RX4, TX4, 9), (RX5, TX5, 8), (RX6, TX6, 9), (RX7, TX7, 21)]
