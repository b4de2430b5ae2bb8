def RX0 : String := "RowsColumns$Cloth"
def TX0 : u_T := fun k => match k with
  | 0 => ("RowsColumns$Cloth", "there", "Z", false)
  | 1 => ("RowsColumns$Cloth", "high", "I", false)
  | 2 => ("RowsColumns$Cloth", "wide", "I", false)
  | _ => ("RowsColumns$Cloth", "dark", "J", false)
def tyX0 : Nat → FieldType := fun k => match k with
  | 0 => .boolean
  | 1 => .int
  | 2 => .int
  | _ => .long
theorem nmX0 : ∀ a, a < 4 → ∀ b, b < 4 → a ≠ b → (TX0 a).2.1 ≠ (TX0 b).2.1 := by decide +kernel
theorem tyX0_ok : ∀ k, k < 4 → parseFieldDescriptor (TX0 k).2.2.1 = some (tyX0 k) := by decide +kernel
abbrev cX0_init : ByteArray := prog_2_method_1_code
def yX0_init : MethodName := ⟨RX0, "<init>", "(Z)V"⟩
abbrev cX0_forget : ByteArray := prog_2_method_2_code
def yX0_forget : MethodName := ⟨RX0, "forget", "()V"⟩
abbrev cX0_become : ByteArray := prog_2_method_3_code
def yX0_become : MethodName := ⟨RX0, "become", "(LRowsColumns$Cloth;)V"⟩
abbrev cX0_resize : ByteArray := prog_2_method_4_code
def yX0_resize : MethodName := ⟨RX0, "resize", "(IIJ)V"⟩
abbrev cX0_sameSize : ByteArray := prog_2_method_5_code
def yX0_sameSize : MethodName := ⟨RX0, "sameSize", "(LRowsColumns$Cloth;)Z"⟩
abbrev cX0_darkSquares : ByteArray := prog_2_method_6_code
def yX0_darkSquares : MethodName := ⟨RX0, "darkSquares", "()I"⟩
abbrev cX0_everyRow : ByteArray := prog_2_method_7_code
def yX0_everyRow : MethodName := ⟨RX0, "everyRow", "()I"⟩
abbrev cX0_everyColumn : ByteArray := prog_2_method_8_code
def yX0_everyColumn : MethodName := ⟨RX0, "everyColumn", "()I"⟩
abbrev cX0_allSquares : ByteArray := prog_2_method_9_code
def yX0_allSquares : MethodName := ⟨RX0, "allSquares", "()J"⟩
abbrev cX0_hasSquare : ByteArray := prog_2_method_10_code
def yX0_hasSquare : MethodName := ⟨RX0, "hasSquare", "(II)Z"⟩
abbrev cX0_squareAt : ByteArray := prog_2_method_11_code
def yX0_squareAt : MethodName := ⟨RX0, "squareAt", "(II)I"⟩
abbrev cX0_colour : ByteArray := prog_2_method_12_code
def yX0_colour : MethodName := ⟨RX0, "colour", "(IIZ)I"⟩
abbrev cX0_linesOf : ByteArray := prog_2_method_13_code
def yX0_linesOf : MethodName := ⟨RX0, "linesOf", "(I)I"⟩
abbrev cX0_hasLine : ByteArray := prog_2_method_14_code
def yX0_hasLine : MethodName := ⟨RX0, "hasLine", "(II)Z"⟩
abbrev cX0_squaresOf : ByteArray := prog_2_method_15_code
def yX0_squaresOf : MethodName := ⟨RX0, "squaresOf", "(II)J"⟩
abbrev cX0_columnSquares : ByteArray := prog_2_method_16_code
def yX0_columnSquares : MethodName := ⟨RX0, "columnSquares", "(I)J"⟩
abbrev cX0_slantSquares : ByteArray := prog_2_method_17_code
def yX0_slantSquares : MethodName := ⟨RX0, "slantSquares", "(I)J"⟩
abbrev cX0_squaresTurned : ByteArray := prog_2_method_18_code
def yX0_squaresTurned : MethodName := ⟨RX0, "squaresTurned", "(II)J"⟩
abbrev cX0_columnsOfFirstRow : ByteArray := prog_2_method_19_code
def yX0_columnsOfFirstRow : MethodName := ⟨RX0, "columnsOfFirstRow", "(J)I"⟩
abbrev cX0_rowsUnlikeFirst : ByteArray := prog_2_method_20_code
def yX0_rowsUnlikeFirst : MethodName := ⟨RX0, "rowsUnlikeFirst", "(J)I"⟩
abbrev cX0_formOf : ByteArray := prog_2_method_21_code
def yX0_formOf : MethodName := ⟨RX0, "formOf", "(J)J"⟩
abbrev cX0_rotateBy : ByteArray := prog_2_method_22_code
def yX0_rotateBy : MethodName := ⟨RX0, "rotateBy", "(I)V"⟩
abbrev cX0_mirror : ByteArray := prog_2_method_23_code
def yX0_mirror : MethodName := ⟨RX0, "mirror", "()V"⟩
abbrev cX0_quarterRight : ByteArray := prog_2_method_24_code
def yX0_quarterRight : MethodName := ⟨RX0, "quarterRight", "()V"⟩
def RX1 : String := "RowsColumns$Days"
def TX1 : u_T := fun k => match k with
  | 0 => ("RowsColumns$Days", "many", "I", false)
  | 1 => ("RowsColumns$Days", "acts", "[I", true)
  | _ => ("RowsColumns$Days", "codes", "[I", true)
def tyX1 : Nat → FieldType := fun k => match k with
  | 0 => .int
  | 1 => .array .int
  | _ => .array .int
theorem nmX1 : ∀ a, a < 3 → ∀ b, b < 3 → a ≠ b → (TX1 a).2.1 ≠ (TX1 b).2.1 := by decide +kernel
theorem tyX1_ok : ∀ k, k < 3 → parseFieldDescriptor (TX1 k).2.2.1 = some (tyX1 k) := by decide +kernel
abbrev cX1_init : ByteArray := prog_3_method_1_code
def yX1_init : MethodName := ⟨RX1, "<init>", "()V"⟩
abbrev cX1_clear : ByteArray := prog_3_method_2_code
def yX1_clear : MethodName := ⟨RX1, "clear", "()V"⟩
abbrev cX1_become : ByteArray := prog_3_method_3_code
def yX1_become : MethodName := ⟨RX1, "become", "(LRowsColumns$Days;)V"⟩
abbrev cX1_begin : ByteArray := prog_3_method_4_code
def yX1_begin : MethodName := ⟨RX1, "begin", "()V"⟩
abbrev cX1_add : ByteArray := prog_3_method_5_code
def yX1_add : MethodName := ⟨RX1, "add", "(II)V"⟩
abbrev cX1_actsOf : ByteArray := prog_3_method_6_code
def yX1_actsOf : MethodName := ⟨RX1, "actsOf", "(I)I"⟩
abbrev cX1_codeOf : ByteArray := prog_3_method_7_code
def yX1_codeOf : MethodName := ⟨RX1, "codeOf", "(II)I"⟩
abbrev cX1_kindOf : ByteArray := prog_3_method_8_code
def yX1_kindOf : MethodName := ⟨RX1, "kindOf", "(II)I"⟩
abbrev cX1_numberOf : ByteArray := prog_3_method_9_code
def yX1_numberOf : MethodName := ⟨RX1, "numberOf", "(II)I"⟩
def RX2 : String := "RowsColumns$Name"
def TX2 : u_T := fun k => match k with
  | 0 => ("RowsColumns$Name", "high", "I", false)
  | 1 => ("RowsColumns$Name", "wide", "I", false)
  | 2 => ("RowsColumns$Name", "form", "J", false)
  | _ => ("RowsColumns$Name", "turning", "I", false)
def tyX2 : Nat → FieldType := fun k => match k with
  | 0 => .int
  | 1 => .int
  | 2 => .long
  | _ => .int
theorem nmX2 : ∀ a, a < 4 → ∀ b, b < 4 → a ≠ b → (TX2 a).2.1 ≠ (TX2 b).2.1 := by decide +kernel
theorem tyX2_ok : ∀ k, k < 4 → parseFieldDescriptor (TX2 k).2.2.1 = some (tyX2 k) := by decide +kernel
abbrev cX2_init : ByteArray := prog_4_method_1_code
def yX2_init : MethodName := ⟨RX2, "<init>", "()V"⟩
abbrev cX2_find : ByteArray := prog_4_method_2_code
def yX2_find : MethodName := ⟨RX2, "find", "(LRowsColumns$Cloth;LRowsColumns$Cloth;)V"⟩
abbrev cX2_sameAs : ByteArray := prog_4_method_3_code
def yX2_sameAs : MethodName := ⟨RX2, "sameAs", "(LRowsColumns$Name;)Z"⟩
def RX3 : String := "RowsColumns$Sheet"
def TX3 : u_T := fun k => match k with
  | 0 => ("RowsColumns$Sheet", "size", "I", false)
  | 1 => ("RowsColumns$Sheet", "lane", "I", false)
  | _ => ("RowsColumns$Sheet", "cells", "[I", true)
def tyX3 : Nat → FieldType := fun k => match k with
  | 0 => .int
  | 1 => .int
  | _ => .array .int
theorem nmX3 : ∀ a, a < 3 → ∀ b, b < 3 → a ≠ b → (TX3 a).2.1 ≠ (TX3 b).2.1 := by decide +kernel
theorem tyX3_ok : ∀ k, k < 3 → parseFieldDescriptor (TX3 k).2.2.1 = some (tyX3 k) := by decide +kernel
abbrev cX3_init : ByteArray := prog_5_method_1_code
def yX3_init : MethodName := ⟨RX3, "<init>", "()V"⟩
abbrev cX3_isNothing : ByteArray := prog_5_method_2_code
def yX3_isNothing : MethodName := ⟨RX3, "isNothing", "()Z"⟩
abbrev cX3_renew : ByteArray := prog_5_method_3_code
def yX3_renew : MethodName := ⟨RX3, "renew", "(II)V"⟩
abbrev cX3_put : ByteArray := prog_5_method_4_code
def yX3_put : MethodName := ⟨RX3, "put", "(II)Z"⟩
abbrev cX3_cell : ByteArray := prog_5_method_5_code
def yX3_cell : MethodName := ⟨RX3, "cell", "(I)I"⟩
abbrev cX3_faultOfLane : ByteArray := prog_5_method_6_code
def yX3_faultOfLane : MethodName := ⟨RX3, "faultOfLane", "(I)I"⟩
abbrev cX3_pairsFrom : ByteArray := prog_5_method_7_code
def yX3_pairsFrom : MethodName := ⟨RX3, "pairsFrom", "(I)I"⟩
def RX4 : String := "RowsColumns$Sheets"
def TX4 : u_T := fun k => match k with
  | _ => ("RowsColumns$Sheets", "all", "[LRowsColumns$Sheet;", true)
def tyX4 : Nat → FieldType := fun k => match k with
  | _ => .array (.object "RowsColumns$Sheet")
theorem nmX4 : ∀ a, a < 1 → ∀ b, b < 1 → a ≠ b → (TX4 a).2.1 ≠ (TX4 b).2.1 := by decide +kernel
theorem tyX4_ok : ∀ k, k < 1 → parseFieldDescriptor (TX4 k).2.2.1 = some (tyX4 k) := by decide +kernel
abbrev cX4_init : ByteArray := prog_6_method_1_code
def yX4_init : MethodName := ⟨RX4, "<init>", "()V"⟩
abbrev cX4_at : ByteArray := prog_6_method_2_code
def yX4_at : MethodName := ⟨RX4, "at", "(I)LRowsColumns$Sheet;"⟩
abbrev cX4_cellsOf : ByteArray := prog_6_method_3_code
def yX4_cellsOf : MethodName := ⟨RX4, "cellsOf", "(I)I"⟩
def RX5 : String := "RowsColumns$Tape"
def TX5 : u_T := fun k => match k with
  | 0 => ("RowsColumns$Tape", "length", "I", false)
  | _ => ("RowsColumns$Tape", "bytes", "[B", true)
def tyX5 : Nat → FieldType := fun k => match k with
  | 0 => .int
  | _ => .array .byte
theorem nmX5 : ∀ a, a < 2 → ∀ b, b < 2 → a ≠ b → (TX5 a).2.1 ≠ (TX5 b).2.1 := by decide +kernel
theorem tyX5_ok : ∀ k, k < 2 → parseFieldDescriptor (TX5 k).2.2.1 = some (tyX5 k) := by decide +kernel
abbrev cX5_init : ByteArray := prog_7_method_1_code
def yX5_init : MethodName := ⟨RX5, "<init>", "()V"⟩
abbrev cX5_add : ByteArray := prog_7_method_2_code
def yX5_add : MethodName := ⟨RX5, "add", "(J)Z"⟩
abbrev cX5_byteAt : ByteArray := prog_7_method_3_code
def yX5_byteAt : MethodName := ⟨RX5, "byteAt", "(I)I"⟩
def RX6 : String := "RowsColumns$Teller"
def TX6 : u_T := fun k => match k with
  | 0 => ("RowsColumns$Teller", "told", "LRowsColumns$Cloth;", true)
  | 1 => ("RowsColumns$Teller", "wished", "LRowsColumns$Cloth;", true)
  | 2 => ("RowsColumns$Teller", "days", "LRowsColumns$Days;", true)
  | 3 => ("RowsColumns$Teller", "fault", "I", false)
  | 4 => ("RowsColumns$Teller", "tape", "LRowsColumns$Tape;", true)
  | 5 => ("RowsColumns$Teller", "place", "I", false)
  | 6 => ("RowsColumns$Teller", "token", "I", false)
  | 7 => ("RowsColumns$Teller", "first", "I", false)
  | 8 => ("RowsColumns$Teller", "next", "I", false)
  | _ => ("RowsColumns$Teller", "value", "I", false)
def tyX6 : Nat → FieldType := fun k => match k with
  | 0 => .object "RowsColumns$Cloth"
  | 1 => .object "RowsColumns$Cloth"
  | 2 => .object "RowsColumns$Days"
  | 3 => .int
  | 4 => .object "RowsColumns$Tape"
  | 5 => .int
  | 6 => .int
  | 7 => .int
  | 8 => .int
  | _ => .int
theorem nmX6 : ∀ a, a < 10 → ∀ b, b < 10 → a ≠ b → (TX6 a).2.1 ≠ (TX6 b).2.1 := by decide +kernel
theorem tyX6_ok : ∀ k, k < 10 → parseFieldDescriptor (TX6 k).2.2.1 = some (tyX6 k) := by decide +kernel
abbrev cX6_init : ByteArray := prog_8_method_1_code
def yX6_init : MethodName := ⟨RX6, "<init>", "(LRowsColumns$Tape;)V"⟩
abbrev cX6_takeText : ByteArray := prog_8_method_2_code
def yX6_takeText : MethodName := ⟨RX6, "takeText", "()I"⟩
abbrev cX6_refuse : ByteArray := prog_8_method_3_code
def yX6_refuse : MethodName := ⟨RX6, "refuse", "(I)Z"⟩
abbrev cX6_takeLine : ByteArray := prog_8_method_4_code
def yX6_takeLine : MethodName := ⟨RX6, "takeLine", "()Z"⟩
abbrev cX6_takeRows : ByteArray := prog_8_method_5_code
def yX6_takeRows : MethodName := ⟨RX6, "takeRows", "(LRowsColumns$Cloth;)Z"⟩
abbrev cX6_takeRow : ByteArray := prog_8_method_6_code
def yX6_takeRow : MethodName := ⟨RX6, "takeRow", "(LRowsColumns$Cloth;)Z"⟩
abbrev cX6_takeDay : ByteArray := prog_8_method_7_code
def yX6_takeDay : MethodName := ⟨RX6, "takeDay", "()Z"⟩
abbrev cX6_takeNumber : ByteArray := prog_8_method_8_code
def yX6_takeNumber : MethodName := ⟨RX6, "takeNumber", "(I)Z"⟩
abbrev cX6_judgeWhole : ByteArray := prog_8_method_9_code
def yX6_judgeWhole : MethodName := ⟨RX6, "judgeWhole", "()V"⟩
abbrev cX6_kindNamed : ByteArray := prog_8_method_10_code
def yX6_kindNamed : MethodName := ⟨RX6, "kindNamed", "()I"⟩
abbrev cX6_isNamed : ByteArray := prog_8_method_11_code
def yX6_isNamed : MethodName := ⟨RX6, "isNamed", "(Ljava/lang/String;)Z"⟩
abbrev cX6_isRow : ByteArray := prog_8_method_12_code
def yX6_isRow : MethodName := ⟨RX6, "isRow", "()Z"⟩
abbrev cX6_step : ByteArray := prog_8_method_13_code
def yX6_step : MethodName := ⟨RX6, "step", "()V"⟩
abbrev cX6_stepNumber : ByteArray := prog_8_method_14_code
def yX6_stepNumber : MethodName := ⟨RX6, "stepNumber", "()V"⟩
abbrev cX6_isLetter : ByteArray := prog_8_method_15_code
def yX6_isLetter : MethodName := ⟨RX6, "isLetter", "(I)Z"⟩
abbrev cX6_isFigure : ByteArray := prog_8_method_16_code
def yX6_isFigure : MethodName := ⟨RX6, "isFigure", "(I)Z"⟩
def RX7 : String := "RowsColumns$Way"
def TX7 : u_T := fun k => match k with
  | 0 => ("RowsColumns$Way", "found", "Z", false)
  | 1 => ("RowsColumns$Way", "rows", "I", false)
  | 2 => ("RowsColumns$Way", "columns", "I", false)
  | 3 => ("RowsColumns$Way", "slants", "I", false)
  | 4 => ("RowsColumns$Way", "unlike", "I", false)
  | 5 => ("RowsColumns$Way", "days", "I", false)
  | 6 => ("RowsColumns$Way", "many", "I", false)
  | 7 => ("RowsColumns$Way", "first", "I", false)
  | 8 => ("RowsColumns$Way", "slantSets", "[J", true)
  | _ => ("RowsColumns$Way", "squareForms", "[J", true)
def tyX7 : Nat → FieldType := fun k => match k with
  | 0 => .boolean
  | 1 => .int
  | 2 => .int
  | 3 => .int
  | 4 => .int
  | 5 => .int
  | 6 => .int
  | 7 => .int
  | 8 => .array .long
  | _ => .array .long
theorem nmX7 : ∀ a, a < 10 → ∀ b, b < 10 → a ≠ b → (TX7 a).2.1 ≠ (TX7 b).2.1 := by decide +kernel
theorem tyX7_ok : ∀ k, k < 10 → parseFieldDescriptor (TX7 k).2.2.1 = some (tyX7 k) := by decide +kernel
abbrev cX7_init : ByteArray := prog_9_method_1_code
def yX7_init : MethodName := ⟨RX7, "<init>", "()V"⟩
abbrev cX7_acts : ByteArray := prog_9_method_2_code
def yX7_acts : MethodName := ⟨RX7, "acts", "()I"⟩
abbrev cX7_take : ByteArray := prog_9_method_3_code
def yX7_take : MethodName := ⟨RX7, "take", "(III)V"⟩
abbrev cX7_findPlan : ByteArray := prog_9_method_4_code
def yX7_findPlan : MethodName := ⟨RX7, "findPlan", "(LRowsColumns$Cloth;J)V"⟩
abbrev cX7_findNearest : ByteArray := prog_9_method_5_code
def yX7_findNearest : MethodName := ⟨RX7, "findNearest", "(LRowsColumns$Cloth;J)V"⟩
abbrev cX7_tryRows : ByteArray := prog_9_method_6_code
def yX7_tryRows : MethodName := ⟨RX7, "tryRows", "(LRowsColumns$Cloth;IJ)V"⟩
abbrev cX7_goBlind : ByteArray := prog_9_method_7_code
def yX7_goBlind : MethodName := ⟨RX7, "goBlind", "(LRowsColumns$Cloth;J)V"⟩
abbrev cX7_mostUnlike : ByteArray := prog_9_method_8_code
def yX7_mostUnlike : MethodName := ⟨RX7, "mostUnlike", "(LRowsColumns$Cloth;IJ)I"⟩
abbrev cX7_findSlanted : ByteArray := prog_9_method_9_code
def yX7_findSlanted : MethodName := ⟨RX7, "findSlanted", "(LRowsColumns$Cloth;J)V"⟩
abbrev cX7_trySlants : ByteArray := prog_9_method_10_code
def yX7_trySlants : MethodName := ⟨RX7, "trySlants", "(IIJ)V"⟩
abbrev cX7_slantsThatMake : ByteArray := prog_9_method_11_code
def yX7_slantsThatMake : MethodName := ⟨RX7, "slantsThatMake", "(J)I"⟩
abbrev cX7_findSpoilt : ByteArray := prog_9_method_12_code
def yX7_findSpoilt : MethodName := ⟨RX7, "findSpoilt", "(LRowsColumns$Cloth;J)V"⟩
abbrev cX7_findBothSpoilt : ByteArray := prog_9_method_13_code
def yX7_findBothSpoilt : MethodName := ⟨RX7, "findBothSpoilt", "(LRowsColumns$Cloth;J)V"⟩
abbrev cX7_pairWith : ByteArray := prog_9_method_14_code
def yX7_pairWith : MethodName := ⟨RX7, "pairWith", "(LRowsColumns$Cloth;IJ)V"⟩
def RX8 : String := "RowsColumns"
def TX8 : u_T := fun k => match k with
  | 0 => ("RowsColumns", "cloth", "LRowsColumns$Cloth;", true)
  | 1 => ("RowsColumns", "pattern", "LRowsColumns$Cloth;", true)
  | 2 => ("RowsColumns", "firstImage", "LRowsColumns$Cloth;", true)
  | 3 => ("RowsColumns", "secondImage", "LRowsColumns$Cloth;", true)
  | 4 => ("RowsColumns", "scratch", "LRowsColumns$Cloth;", true)
  | 5 => ("RowsColumns", "days", "LRowsColumns$Days;", true)
  | 6 => ("RowsColumns", "tape", "LRowsColumns$Tape;", true)
  | 7 => ("RowsColumns", "teller", "LRowsColumns$Teller;", true)
  | 8 => ("RowsColumns", "sheets", "LRowsColumns$Sheets;", true)
  | 9 => ("RowsColumns", "way", "LRowsColumns$Way;", true)
  | 10 => ("RowsColumns", "ownName", "LRowsColumns$Name;", true)
  | 11 => ("RowsColumns", "otherName", "LRowsColumns$Name;", true)
  | 12 => ("RowsColumns", "independent", "[J", true)
  | 13 => ("RowsColumns", "latestFault", "I", false)
  | _ => ("RowsColumns", "latestTorn", "I", false)
def tyX8 : Nat → FieldType := fun k => match k with
  | 0 => .object "RowsColumns$Cloth"
  | 1 => .object "RowsColumns$Cloth"
  | 2 => .object "RowsColumns$Cloth"
  | 3 => .object "RowsColumns$Cloth"
  | 4 => .object "RowsColumns$Cloth"
  | 5 => .object "RowsColumns$Days"
  | 6 => .object "RowsColumns$Tape"
  | 7 => .object "RowsColumns$Teller"
  | 8 => .object "RowsColumns$Sheets"
  | 9 => .object "RowsColumns$Way"
  | 10 => .object "RowsColumns$Name"
  | 11 => .object "RowsColumns$Name"
  | 12 => .array .long
  | 13 => .int
  | _ => .int
theorem nmX8 : ∀ a, a < 15 → ∀ b, b < 15 → a ≠ b → (TX8 a).2.1 ≠ (TX8 b).2.1 := by decide +kernel
theorem tyX8_ok : ∀ k, k < 15 → parseFieldDescriptor (TX8 k).2.2.1 = some (tyX8 k) := by decide +kernel
abbrev cX8_init : ByteArray := prog_1_method_1_code
def yX8_init : MethodName := ⟨RX8, "<init>", "()V"⟩
abbrev cX8_feed : ByteArray := prog_1_method_2_code
def yX8_feed : MethodName := ⟨RX8, "feed", "(J)I"⟩
abbrev cX8_end : ByteArray := prog_1_method_3_code
def yX8_end : MethodName := ⟨RX8, "end", "(I)I"⟩
abbrev cX8_text : ByteArray := prog_1_method_4_code
def yX8_text : MethodName := ⟨RX8, "text", "()I"⟩
abbrev cX8_fault : ByteArray := prog_1_method_5_code
def yX8_fault : MethodName := ⟨RX8, "fault", "()I"⟩
abbrev cX8_rule : ByteArray := prog_1_method_6_code
def yX8_rule : MethodName := ⟨RX8, "rule", "(I)I"⟩
abbrev cX8_day : ByteArray := prog_1_method_7_code
def yX8_day : MethodName := ⟨RX8, "day", "(II)I"⟩
abbrev cX8_cloth : ByteArray := prog_1_method_8_code
def yX8_cloth : MethodName := ⟨RX8, "cloth", "(I)J"⟩
abbrev cX8_square : ByteArray := prog_1_method_9_code
def yX8_square : MethodName := ⟨RX8, "square", "(II)I"⟩
abbrev cX8_paint : ByteArray := prog_1_method_10_code
def yX8_paint : MethodName := ⟨RX8, "paint", "(IIZ)I"⟩
abbrev cX8_wish : ByteArray := prog_1_method_11_code
def yX8_wish : MethodName := ⟨RX8, "wish", "(IIZ)I"⟩
abbrev cX8_act : ByteArray := prog_1_method_12_code
def yX8_act : MethodName := ⟨RX8, "act", "(II)I"⟩
abbrev cX8_turn : ByteArray := prog_1_method_13_code
def yX8_turn : MethodName := ⟨RX8, "turn", "(II)I"⟩
abbrev cX8_go : ByteArray := prog_1_method_14_code
def yX8_go : MethodName := ⟨RX8, "go", "(I)I"⟩
abbrev cX8_form : ByteArray := prog_1_method_15_code
def yX8_form : MethodName := ⟨RX8, "form", "(I)J"⟩
abbrev cX8_forms : ByteArray := prog_1_method_16_code
def yX8_forms : MethodName := ⟨RX8, "forms", "()J"⟩
abbrev cX8_alike : ByteArray := prog_1_method_17_code
def yX8_alike : MethodName := ⟨RX8, "alike", "(I)I"⟩
abbrev cX8_plan : ByteArray := prog_1_method_18_code
def yX8_plan : MethodName := ⟨RX8, "plan", "(I)I"⟩
abbrev cX8_nearest : ByteArray := prog_1_method_19_code
def yX8_nearest : MethodName := ⟨RX8, "nearest", "(I)I"⟩
abbrev cX8_lightest : ByteArray := prog_1_method_20_code
def yX8_lightest : MethodName := ⟨RX8, "lightest", "(I)I"⟩
abbrev cX8_blind : ByteArray := prog_1_method_21_code
def yX8_blind : MethodName := ⟨RX8, "blind", "(I)I"⟩
abbrev cX8_slanted : ByteArray := prog_1_method_22_code
def yX8_slanted : MethodName := ⟨RX8, "slanted", "(I)I"⟩
abbrev cX8_power : ByteArray := prog_1_method_23_code
def yX8_power : MethodName := ⟨RX8, "power", "(I)I"⟩
abbrev cX8_duel : ByteArray := prog_1_method_24_code
def yX8_duel : MethodName := ⟨RX8, "duel", "(IZI)I"⟩
abbrev cX8_turned : ByteArray := prog_1_method_25_code
def yX8_turned : MethodName := ⟨RX8, "turned", "(II)I"⟩
abbrev cX8_spoilt : ByteArray := prog_1_method_26_code
def yX8_spoilt : MethodName := ⟨RX8, "spoilt", "(I)I"⟩
abbrev cX8_both : ByteArray := prog_1_method_27_code
def yX8_both : MethodName := ⟨RX8, "both", "(I)I"⟩
abbrev cX8_rotate : ByteArray := prog_1_method_28_code
def yX8_rotate : MethodName := ⟨RX8, "rotate", "(I)I"⟩
abbrev cX8_cut : ByteArray := prog_1_method_29_code
def yX8_cut : MethodName := ⟨RX8, "cut", "(IIII)I"⟩
abbrev cX8_sew : ByteArray := prog_1_method_30_code
def yX8_sew : MethodName := ⟨RX8, "sew", "(IZ)I"⟩
abbrev cX8_name : ByteArray := prog_1_method_31_code
def yX8_name : MethodName := ⟨RX8, "name", "(I)J"⟩
abbrev cX8_cousin : ByteArray := prog_1_method_32_code
def yX8_cousin : MethodName := ⟨RX8, "cousin", "(I)I"⟩
abbrev cX8_keep : ByteArray := prog_1_method_33_code
def yX8_keep : MethodName := ⟨RX8, "keep", "(I)I"⟩
abbrev cX8_back : ByteArray := prog_1_method_34_code
def yX8_back : MethodName := ⟨RX8, "back", "(I)I"⟩
abbrev cX8_sheet : ByteArray := prog_1_method_35_code
def yX8_sheet : MethodName := ⟨RX8, "sheet", "(III)I"⟩
abbrev cX8_lay : ByteArray := prog_1_method_36_code
def yX8_lay : MethodName := ⟨RX8, "lay", "(III)I"⟩
abbrev cX8_read : ByteArray := prog_1_method_37_code
def yX8_read : MethodName := ⟨RX8, "read", "(IIII)I"⟩
abbrev cX8_torn : ByteArray := prog_1_method_38_code
def yX8_torn : MethodName := ⟨RX8, "torn", "()I"⟩
abbrev cX8_count : ByteArray := prog_1_method_39_code
def yX8_count : MethodName := ⟨RX8, "count", "(I)I"⟩
abbrev cX8_imageOf : ByteArray := prog_1_method_40_code
def yX8_imageOf : MethodName := ⟨RX8, "imageOf", "(I)LRowsColumns$Cloth;"⟩
abbrev cX8_forgetPlans : ByteArray := prog_1_method_41_code
def yX8_forgetPlans : MethodName := ⟨RX8, "forgetPlans", "()V"⟩
abbrev cX8_toldOf : ByteArray := prog_1_method_42_code
def yX8_toldOf : MethodName := ⟨RX8, "toldOf", "(II)I"⟩
abbrev cX8_spoiltTold : ByteArray := prog_1_method_43_code
def yX8_spoiltTold : MethodName := ⟨RX8, "spoiltTold", "(I)I"⟩
abbrev cX8_isPart : ByteArray := prog_1_method_44_code
def yX8_isPart : MethodName := ⟨RX8, "isPart", "(III)Z"⟩
abbrev cX8_isLane : ByteArray := prog_1_method_45_code
def yX8_isLane : MethodName := ⟨RX8, "isLane", "(I)Z"⟩
abbrev cX8_isBetter : ByteArray := prog_1_method_46_code
def yX8_isBetter : MethodName := ⟨RX8, "isBetter", "(ZII)Z"⟩
abbrev cX8_endOfDuel : ByteArray := prog_1_method_47_code
def yX8_endOfDuel : MethodName := ⟨RX8, "endOfDuel", "(LRowsColumns$Cloth;JIZ)I"⟩
abbrev cX8_independentLines : ByteArray := prog_1_method_48_code
def yX8_independentLines : MethodName := ⟨RX8, "independentLines", "(I)I"⟩
def RX9 : String := "RowsColumnsModel"
def TX9 : u_T := fun k => match k with
  | 0 => ("RowsColumnsModel", "high", "I", false)
  | 1 => ("RowsColumnsModel", "wide", "I", false)
  | 2 => ("RowsColumnsModel", "cloth", "J", false)
  | 3 => ("RowsColumnsModel", "pattern", "J", false)
  | 4 => ("RowsColumnsModel", "hasPattern", "Z", false)
  | 5 => ("RowsColumnsModel", "days", "I", false)
  | 6 => ("RowsColumnsModel", "day", "[I", true)
  | 7 => ("RowsColumnsModel", "image", "[J", true)
  | 8 => ("RowsColumnsModel", "imageHigh", "[I", true)
  | 9 => ("RowsColumnsModel", "imageWide", "[I", true)
  | 10 => ("RowsColumnsModel", "dHigh", "I", false)
  | 11 => ("RowsColumnsModel", "dWide", "I", false)
  | 12 => ("RowsColumnsModel", "dCloth", "J", false)
  | 13 => ("RowsColumnsModel", "pHigh", "I", false)
  | 14 => ("RowsColumnsModel", "pWide", "I", false)
  | 15 => ("RowsColumnsModel", "dPattern", "J", false)
  | 16 => ("RowsColumnsModel", "hasCloth", "Z", false)
  | 17 => ("RowsColumnsModel", "dHasPattern", "Z", false)
  | 18 => ("RowsColumnsModel", "dDays", "I", false)
  | 19 => ("RowsColumnsModel", "dDay", "[I", true)
  | 20 => ("RowsColumnsModel", "tape", "[I", true)
  | 21 => ("RowsColumnsModel", "taped", "I", false)
  | 22 => ("RowsColumnsModel", "pos", "I", false)
  | 23 => ("RowsColumnsModel", "from", "I", false)
  | 24 => ("RowsColumnsModel", "sort", "I", false)
  | 25 => ("RowsColumnsModel", "value", "I", false)
  | 26 => ("RowsColumnsModel", "fault", "I", false)
  | 27 => ("RowsColumnsModel", "wrongAt", "I", false)
  | 28 => ("RowsColumnsModel", "rowsRead", "I", false)
  | 29 => ("RowsColumnsModel", "wideRead", "I", false)
  | 30 => ("RowsColumnsModel", "setRead", "J", false)
  | 31 => ("RowsColumnsModel", "planRows", "I", false)
  | 32 => ("RowsColumnsModel", "planColumns", "I", false)
  | 33 => ("RowsColumnsModel", "nearMany", "I", false)
  | 34 => ("RowsColumnsModel", "nearRows", "I", false)
  | 35 => ("RowsColumnsModel", "nearColumns", "I", false)
  | 36 => ("RowsColumnsModel", "base", "[J", true)
  | 37 => ("RowsColumnsModel", "worth", "[I", true)
  | 38 => ("RowsColumnsModel", "firstMove", "I", false)
  | 39 => ("RowsColumnsModel", "nameForm", "J", false)
  | 40 => ("RowsColumnsModel", "nameTurning", "I", false)
  | 41 => ("RowsColumnsModel", "nameHigh", "I", false)
  | 42 => ("RowsColumnsModel", "nameWide", "I", false)
  | 43 => ("RowsColumnsModel", "lanes", "[I", true)
  | 44 => ("RowsColumnsModel", "sizes", "[I", true)
  | 45 => ("RowsColumnsModel", "cells", "[I", true)
  | _ => ("RowsColumnsModel", "torn", "I", false)
def tyX9 : Nat → FieldType := fun k => match k with
  | 0 => .int
  | 1 => .int
  | 2 => .long
  | 3 => .long
  | 4 => .boolean
  | 5 => .int
  | 6 => .array .int
  | 7 => .array .long
  | 8 => .array .int
  | 9 => .array .int
  | 10 => .int
  | 11 => .int
  | 12 => .long
  | 13 => .int
  | 14 => .int
  | 15 => .long
  | 16 => .boolean
  | 17 => .boolean
  | 18 => .int
  | 19 => .array .int
  | 20 => .array .int
  | 21 => .int
  | 22 => .int
  | 23 => .int
  | 24 => .int
  | 25 => .int
  | 26 => .int
  | 27 => .int
  | 28 => .int
  | 29 => .int
  | 30 => .long
  | 31 => .int
  | 32 => .int
  | 33 => .int
  | 34 => .int
  | 35 => .int
  | 36 => .array .long
  | 37 => .array .int
  | 38 => .int
  | 39 => .long
  | 40 => .int
  | 41 => .int
  | 42 => .int
  | 43 => .array .int
  | 44 => .array .int
  | 45 => .array .int
  | _ => .int
theorem nmX9 : ∀ a, a < 47 → ∀ b, b < 47 → a ≠ b → (TX9 a).2.1 ≠ (TX9 b).2.1 := by decide +kernel
theorem tyX9_ok : ∀ k, k < 47 → parseFieldDescriptor (TX9 k).2.2.1 = some (tyX9 k) := by decide +kernel
abbrev cX9_init : ByteArray := prog_11_method_1_code
def yX9_init : MethodName := ⟨RX9, "<init>", "()V"⟩
abbrev cX9_in : ByteArray := prog_11_method_3_code
def yX9_in : MethodName := ⟨RX9, "in", "(JJJ)Z"⟩
abbrev cX9_flag : ByteArray := prog_11_method_4_code
def yX9_flag : MethodName := ⟨RX9, "flag", "(Z)I"⟩
abbrev cX9_bitOf : ByteArray := prog_11_method_5_code
def yX9_bitOf : MethodName := ⟨RX9, "bitOf", "(II)J"⟩
abbrev cX9_many : ByteArray := prog_11_method_6_code
def yX9_many : MethodName := ⟨RX9, "many", "(J)I"⟩
abbrev cX9_firstDraft : ByteArray := prog_11_method_7_code
def yX9_firstDraft : MethodName := ⟨RX9, "firstDraft", "()V"⟩
abbrev cX9_keepDraft : ByteArray := prog_11_method_8_code
def yX9_keepDraft : MethodName := ⟨RX9, "keepDraft", "()V"⟩
abbrev cX9_feed : ByteArray := prog_11_method_9_code
def yX9_feed : MethodName := ⟨RX9, "feed", "(J)I"⟩
abbrev cX9_end : ByteArray := prog_11_method_10_code
def yX9_end : MethodName := ⟨RX9, "end", "(I)I"⟩
abbrev cX9_needs : ByteArray := prog_11_method_11_code
def yX9_needs : MethodName := ⟨RX9, "needs", "(ZI)V"⟩
abbrev cX9_look : ByteArray := prog_11_method_12_code
def yX9_look : MethodName := ⟨RX9, "look", "(I)I"⟩
abbrev cX9_is : ByteArray := prog_11_method_13_code
def yX9_is : MethodName := ⟨RX9, "is", "(IIII)Z"⟩
abbrev cX9_goesOn : ByteArray := prog_11_method_14_code
def yX9_goesOn : MethodName := ⟨RX9, "goesOn", "(IIII)Z"⟩
abbrev cX9_lineNow : ByteArray := prog_11_method_15_code
def yX9_lineNow : MethodName := ⟨RX9, "lineNow", "()I"⟩
abbrev cX9_actNow : ByteArray := prog_11_method_16_code
def yX9_actNow : MethodName := ⟨RX9, "actNow", "()I"⟩
abbrev cX9_isRowName : ByteArray := prog_11_method_17_code
def yX9_isRowName : MethodName := ⟨RX9, "isRowName", "()Z"⟩
abbrev cX9_next : ByteArray := prog_11_method_18_code
def yX9_next : MethodName := ⟨RX9, "next", "()V"⟩
abbrev cX9_readRows : ByteArray := prog_11_method_19_code
def yX9_readRows : MethodName := ⟨RX9, "readRows", "()V"⟩
abbrev cX9_readAct : ByteArray := prog_11_method_20_code
def yX9_readAct : MethodName := ⟨RX9, "readAct", "(I)V"⟩
abbrev cX9_readDay : ByteArray := prog_11_method_21_code
def yX9_readDay : MethodName := ⟨RX9, "readDay", "()V"⟩
abbrev cX9_readLine : ByteArray := prog_11_method_22_code
def yX9_readLine : MethodName := ⟨RX9, "readLine", "()V"⟩
abbrev cX9_isActOf : ByteArray := prog_11_method_23_code
def yX9_isActOf : MethodName := ⟨RX9, "isActOf", "(IIII)Z"⟩
abbrev cX9_areActs : ByteArray := prog_11_method_24_code
def yX9_areActs : MethodName := ⟨RX9, "areActs", "()Z"⟩
abbrev cX9_text : ByteArray := prog_11_method_25_code
def yX9_text : MethodName := ⟨RX9, "text", "()I"⟩
abbrev cX9_fault : ByteArray := prog_11_method_26_code
def yX9_fault : MethodName := ⟨RX9, "fault", "()I"⟩
abbrev cX9_rule : ByteArray := prog_11_method_27_code
def yX9_rule : MethodName := ⟨RX9, "rule", "(I)I"⟩
abbrev cX9_day : ByteArray := prog_11_method_28_code
def yX9_day : MethodName := ⟨RX9, "day", "(II)I"⟩
abbrev cX9_cloth : ByteArray := prog_11_method_29_code
def yX9_cloth : MethodName := ⟨RX9, "cloth", "(I)J"⟩
abbrev cX9_isSquare : ByteArray := prog_11_method_30_code
def yX9_isSquare : MethodName := ⟨RX9, "isSquare", "(II)Z"⟩
abbrev cX9_isDark : ByteArray := prog_11_method_31_code
def yX9_isDark : MethodName := ⟨RX9, "isDark", "(JII)I"⟩
abbrev cX9_square : ByteArray := prog_11_method_32_code
def yX9_square : MethodName := ⟨RX9, "square", "(II)I"⟩
abbrev cX9_paint : ByteArray := prog_11_method_33_code
def yX9_paint : MethodName := ⟨RX9, "paint", "(IIZ)I"⟩
abbrev cX9_wish : ByteArray := prog_11_method_34_code
def yX9_wish : MethodName := ⟨RX9, "wish", "(IIZ)I"⟩
abbrev cX9_actSet : ByteArray := prog_11_method_35_code
def yX9_actSet : MethodName := ⟨RX9, "actSet", "(II)J"⟩
abbrev cX9_turnSet : ByteArray := prog_11_method_36_code
def yX9_turnSet : MethodName := ⟨RX9, "turnSet", "(II)J"⟩
abbrev cX9_isAct : ByteArray := prog_11_method_37_code
def yX9_isAct : MethodName := ⟨RX9, "isAct", "(II)Z"⟩
abbrev cX9_act : ByteArray := prog_11_method_38_code
def yX9_act : MethodName := ⟨RX9, "act", "(II)I"⟩
abbrev cX9_turn : ByteArray := prog_11_method_39_code
def yX9_turn : MethodName := ⟨RX9, "turn", "(II)I"⟩
abbrev cX9_go : ByteArray := prog_11_method_40_code
def yX9_go : MethodName := ⟨RX9, "go", "(I)I"⟩
abbrev cX9_formOf : ByteArray := prog_11_method_41_code
def yX9_formOf : MethodName := ⟨RX9, "formOf", "(JII)J"⟩
abbrev cX9_formNow : ByteArray := prog_11_method_42_code
def yX9_formNow : MethodName := ⟨RX9, "formNow", "(J)J"⟩
abbrev cX9_form : ByteArray := prog_11_method_43_code
def yX9_form : MethodName := ⟨RX9, "form", "(I)J"⟩
abbrev cX9_forms : ByteArray := prog_11_method_44_code
def yX9_forms : MethodName := ⟨RX9, "forms", "()J"⟩
abbrev cX9_isImage : ByteArray := prog_11_method_45_code
def yX9_isImage : MethodName := ⟨RX9, "isImage", "(I)Z"⟩
abbrev cX9_isKept : ByteArray := prog_11_method_46_code
def yX9_isKept : MethodName := ⟨RX9, "isKept", "(I)Z"⟩
abbrev cX9_isOfSize : ByteArray := prog_11_method_47_code
def yX9_isOfSize : MethodName := ⟨RX9, "isOfSize", "(I)Z"⟩
abbrev cX9_alike : ByteArray := prog_11_method_48_code
def yX9_alike : MethodName := ⟨RX9, "alike", "(I)I"⟩
abbrev cX9_findPlan : ByteArray := prog_11_method_49_code
def yX9_findPlan : MethodName := ⟨RX9, "findPlan", "(J)Z"⟩
abbrev cX9_planTold : ByteArray := prog_11_method_50_code
def yX9_planTold : MethodName := ⟨RX9, "planTold", "(I)I"⟩
abbrev cX9_plan : ByteArray := prog_11_method_51_code
def yX9_plan : MethodName := ⟨RX9, "plan", "(I)I"⟩
abbrev cX9_findNearest : ByteArray := prog_11_method_52_code
def yX9_findNearest : MethodName := ⟨RX9, "findNearest", "(J)V"⟩
abbrev cX9_nearTold : ByteArray := prog_11_method_53_code
def yX9_nearTold : MethodName := ⟨RX9, "nearTold", "(I)I"⟩
abbrev cX9_nearest : ByteArray := prog_11_method_54_code
def yX9_nearest : MethodName := ⟨RX9, "nearest", "(I)I"⟩
abbrev cX9_lightest : ByteArray := prog_11_method_55_code
def yX9_lightest : MethodName := ⟨RX9, "lightest", "(I)I"⟩
abbrev cX9_mostOf : ByteArray := prog_11_method_56_code
def yX9_mostOf : MethodName := ⟨RX9, "mostOf", "(JI)I"⟩
abbrev cX9_blind : ByteArray := prog_11_method_57_code
def yX9_blind : MethodName := ⟨RX9, "blind", "(I)I"⟩
abbrev cX9_isBefore : ByteArray := prog_11_method_58_code
def yX9_isBefore : MethodName := ⟨RX9, "isBefore", "(IIIIIIII)Z"⟩
abbrev cX9_slanted : ByteArray := prog_11_method_59_code
def yX9_slanted : MethodName := ⟨RX9, "slanted", "(I)I"⟩
abbrev cX9_isNew : ByteArray := prog_11_method_60_code
def yX9_isNew : MethodName := ⟨RX9, "isNew", "(J)Z"⟩
abbrev cX9_power : ByteArray := prog_11_method_61_code
def yX9_power : MethodName := ⟨RX9, "power", "(I)I"⟩
abbrev cX9_isMove : ByteArray := prog_11_method_62_code
def yX9_isMove : MethodName := ⟨RX9, "isMove", "(ZI)Z"⟩
abbrev cX9_worthOf : ByteArray := prog_11_method_63_code
def yX9_worthOf : MethodName := ⟨RX9, "worthOf", "(IIZ)I"⟩
abbrev cX9_best : ByteArray := prog_11_method_64_code
def yX9_best : MethodName := ⟨RX9, "best", "(IZ)I"⟩
abbrev cX9_duel : ByteArray := prog_11_method_65_code
def yX9_duel : MethodName := ⟨RX9, "duel", "(IZI)I"⟩
abbrev cX9_turned : ByteArray := prog_11_method_66_code
def yX9_turned : MethodName := ⟨RX9, "turned", "(II)I"⟩
abbrev cX9_spoilt : ByteArray := prog_11_method_67_code
def yX9_spoilt : MethodName := ⟨RX9, "spoilt", "(I)I"⟩
abbrev cX9_both : ByteArray := prog_11_method_68_code
def yX9_both : MethodName := ⟨RX9, "both", "(I)I"⟩
abbrev cX9_mirrored : ByteArray := prog_11_method_69_code
def yX9_mirrored : MethodName := ⟨RX9, "mirrored", "(JII)J"⟩
abbrev cX9_quarter : ByteArray := prog_11_method_70_code
def yX9_quarter : MethodName := ⟨RX9, "quarter", "(JII)J"⟩
abbrev cX9_rotated : ByteArray := prog_11_method_71_code
def yX9_rotated : MethodName := ⟨RX9, "rotated", "(JIII)J"⟩
abbrev cX9_endsPattern : ByteArray := prog_11_method_72_code
def yX9_endsPattern : MethodName := ⟨RX9, "endsPattern", "()V"⟩
abbrev cX9_rotate : ByteArray := prog_11_method_73_code
def yX9_rotate : MethodName := ⟨RX9, "rotate", "(I)I"⟩
abbrev cX9_cut : ByteArray := prog_11_method_74_code
def yX9_cut : MethodName := ⟨RX9, "cut", "(IIII)I"⟩
abbrev cX9_sew : ByteArray := prog_11_method_75_code
def yX9_sew : MethodName := ⟨RX9, "sew", "(IZ)I"⟩
abbrev cX9_findName : ByteArray := prog_11_method_76_code
def yX9_findName : MethodName := ⟨RX9, "findName", "(JII)V"⟩
abbrev cX9_name : ByteArray := prog_11_method_77_code
def yX9_name : MethodName := ⟨RX9, "name", "(I)J"⟩
abbrev cX9_cousin : ByteArray := prog_11_method_78_code
def yX9_cousin : MethodName := ⟨RX9, "cousin", "(I)I"⟩
abbrev cX9_keep : ByteArray := prog_11_method_79_code
def yX9_keep : MethodName := ⟨RX9, "keep", "(I)I"⟩
abbrev cX9_back : ByteArray := prog_11_method_80_code
def yX9_back : MethodName := ⟨RX9, "back", "(I)I"⟩
abbrev cX9_isSheet : ByteArray := prog_11_method_81_code
def yX9_isSheet : MethodName := ⟨RX9, "isSheet", "(II)Z"⟩
abbrev cX9_sheet : ByteArray := prog_11_method_82_code
def yX9_sheet : MethodName := ⟨RX9, "sheet", "(III)I"⟩
abbrev cX9_lay : ByteArray := prog_11_method_83_code
def yX9_lay : MethodName := ⟨RX9, "lay", "(III)I"⟩
abbrev cX9_read : ByteArray := prog_11_method_84_code
def yX9_read : MethodName := ⟨RX9, "read", "(IIII)I"⟩
abbrev cX9_torn : ByteArray := prog_11_method_85_code
def yX9_torn : MethodName := ⟨RX9, "torn", "()I"⟩
abbrev cX9_count : ByteArray := prog_11_method_86_code
def yX9_count : MethodName := ⟨RX9, "count", "(I)I"⟩
def RJ6 : String := "java/lang/Integer"
abbrev cJ6_bitCount_0f7a4 : ByteArray := prog_12_method_49_code
def yJ6_bitCount_0f7a4 : MethodName := ⟨RJ6, "bitCount", "(I)I"⟩
def RJ13 : String := "java/lang/Long"
abbrev cJ13_bitCount_95d88 : ByteArray := prog_13_method_50_code
def yJ13_bitCount_95d88 : MethodName := ⟨RJ13, "bitCount", "(J)I"⟩
def RJ9 : String := "java/lang/Math"
abbrev cJ9_max_7cf53 : ByteArray := prog_14_method_65_code
def yJ9_max_7cf53 : MethodName := ⟨RJ9, "max", "(II)I"⟩
abbrev cJ9_min_7cf53 : ByteArray := prog_14_method_69_code
def yJ9_min_7cf53 : MethodName := ⟨RJ9, "min", "(II)I"⟩
def RJ0 : String := "java/lang/String"
abbrev cJ0_length_8abf5 : ByteArray := prog_15_method_54_code
def yJ0_length_8abf5 : MethodName := ⟨RJ0, "length", "()I"⟩
abbrev cJ0_charAt_5068e : ByteArray := prog_15_method_56_code
def yJ0_charAt_5068e : MethodName := ⟨RJ0, "charAt", "(I)C"⟩
abbrev cJ0_coder_7d493 : ByteArray := prog_15_method_152_code
def yJ0_coder_7d493 : MethodName := ⟨RJ0, "coder", "()B"⟩
abbrev cJ0_isLatin1_aae02 : ByteArray := prog_15_method_154_code
def yJ0_isLatin1_aae02 : MethodName := ⟨RJ0, "isLatin1", "()Z"⟩
abbrev cJ0_checkIndex_df160 : ByteArray := prog_15_method_155_code
def yJ0_checkIndex_df160 : MethodName := ⟨RJ0, "checkIndex", "(II)V"⟩
def RJ1 : String := "java/lang/StringLatin1"
abbrev cJ1_charAt_3b067 : ByteArray := prog_16_method_2_code
def yJ1_charAt_3b067 : MethodName := ⟨RJ1, "charAt", "([BI)C"⟩
def RJ2 : String := "java/lang/StringUTF16"
abbrev cJ2_getChar_3b067 : ByteArray := prog_17_method_5_code
def yJ2_getChar_3b067 : MethodName := ⟨RJ2, "getChar", "([BI)C"⟩
abbrev cJ2_length_9d52b : ByteArray := prog_17_method_6_code
def yJ2_length_9d52b : MethodName := ⟨RJ2, "length", "([B)I"⟩
abbrev cJ2_charAt_3b067 : ByteArray := prog_17_method_83_code
def yJ2_charAt_3b067 : MethodName := ⟨RJ2, "charAt", "([BI)C"⟩
abbrev cJ2_checkIndex_2214a : ByteArray := prog_17_method_91_code
def yJ2_checkIndex_2214a : MethodName := ⟨RJ2, "checkIndex", "(I[B)V"⟩
def RJ3 : String := "jdk/internal/util/Preconditions"
abbrev cJ3_checkIndex_8e157 : ByteArray := prog_18_method_11_code
def yJ3_checkIndex_8e157 : MethodName := ⟨RJ3, "checkIndex", "(IILjava/util/function/BiFunction;)I"⟩
def RL : String := "RowsColumnsLaw"
abbrev cL_law : ByteArray := code
def yL_law : MethodName := ⟨RL, "law", "([I)Z"⟩
abbrev classes : List vw_C := [(RX0, TX0, 4), (RX1, TX1, 3), (RX2, TX2, 4), (RX3, TX3, 3), (RX4, TX4, 1), (RX5, TX5, 2), (RX6, TX6, 10), (RX7, TX7, 10), (RX8, TX8, 15), (RX9, TX9, 47)]
def tyC (c : Nat) : Nat → FieldType := match c with
  | 0 => tyX0
  | 1 => tyX1
  | 2 => tyX2
  | 3 => tyX3
  | 4 => tyX4
  | 5 => tyX5
  | 6 => tyX6
  | 7 => tyX7
  | 8 => tyX8
  | _ => tyX9
theorem uw_X0 : ∀ j, j < 4 → u_lay RX0 TX0 j ∈ lw_tbl := fun j hj => match j, hj with
  | 0, _ => (mt1 _ (List.mem_of_getElem? (i := 49) rfl))
  | 1, _ => (mt1 _ (List.mem_of_getElem? (i := 51) rfl))
  | 2, _ => (mt1 _ (List.mem_of_getElem? (i := 53) rfl))
  | 3, _ => (mt1 _ (List.mem_of_getElem? (i := 55) rfl))
  | j + 4, hj => absurd hj (by omega)
theorem uw_X1 : ∀ j, j < 3 → u_lay RX1 TX1 j ∈ lw_tbl := fun j hj => match j, hj with
  | 0, _ => (mt1 _ (List.mem_of_getElem? (i := 69) rfl))
  | 1, _ => (mt1 _ (List.mem_of_getElem? (i := 71) rfl))
  | 2, _ => (mt1 _ (List.mem_of_getElem? (i := 73) rfl))
  | j + 3, hj => absurd hj (by omega)
theorem uw_X2 : ∀ j, j < 4 → u_lay RX2 TX2 j ∈ lw_tbl := fun j hj => match j, hj with
  | 0, _ => (mt1 _ (List.mem_of_getElem? (i := 224) rfl))
  | 1, _ => (mt1 _ (List.mem_of_getElem? (i := 226) rfl))
  | 2, _ => (mt1 _ (List.mem_of_getElem? (i := 228) rfl))
  | 3, _ => (mt1 _ (List.mem_of_getElem? (i := 230) rfl))
  | j + 4, hj => absurd hj (by omega)
theorem uw_X3 : ∀ j, j < 3 → u_lay RX3 TX3 j ∈ lw_tbl := fun j hj => match j, hj with
  | 0, _ => (mt1 _ (List.mem_of_getElem? (i := 155) rfl))
  | 1, _ => (mt1 _ (List.mem_of_getElem? (i := 157) rfl))
  | 2, _ => (mt1 _ (List.mem_of_getElem? (i := 159) rfl))
  | j + 3, hj => absurd hj (by omega)
theorem uw_X4 : ∀ j, j < 1 → u_lay RX4 TX4 j ∈ lw_tbl := fun j hj => match j, hj with
  | 0, _ => (mt1 _ (List.mem_of_getElem? (i := 163) rfl))
  | j + 1, hj => absurd hj (by omega)
theorem uw_X5 : ∀ j, j < 2 → u_lay RX5 TX5 j ∈ lw_tbl := fun j hj => match j, hj with
  | 0, _ => (mt1 _ (List.mem_of_getElem? (i := 87) rfl))
  | 1, _ => (mt1 _ (List.mem_of_getElem? (i := 89) rfl))
  | j + 2, hj => absurd hj (by omega)
theorem uw_X6 : ∀ j, j < 10 → u_lay RX6 TX6 j ∈ lw_tbl := fun j hj => match j, hj with
  | 0, _ => (mt1 _ (List.mem_of_getElem? (i := 117) rfl))
  | 1, _ => (mt1 _ (List.mem_of_getElem? (i := 119) rfl))
  | 2, _ => (mt1 _ (List.mem_of_getElem? (i := 121) rfl))
  | 3, _ => (mt1 _ (List.mem_of_getElem? (i := 123) rfl))
  | 4, _ => (mt1 _ (List.mem_of_getElem? (i := 125) rfl))
  | 5, _ => (mt1 _ (List.mem_of_getElem? (i := 127) rfl))
  | 6, _ => (mt1 _ (List.mem_of_getElem? (i := 129) rfl))
  | 7, _ => (mt1 _ (List.mem_of_getElem? (i := 131) rfl))
  | 8, _ => (mt1 _ (List.mem_of_getElem? (i := 133) rfl))
  | 9, _ => (mt1 _ (List.mem_of_getElem? (i := 135) rfl))
  | j + 10, hj => absurd hj (by omega)
theorem uw_X7 : ∀ j, j < 10 → u_lay RX7 TX7 j ∈ lw_tbl := fun j hj => match j, hj with
  | 0, _ => (mt1 _ (List.mem_of_getElem? (i := 190) rfl))
  | 1, _ => (mt1 _ (List.mem_of_getElem? (i := 192) rfl))
  | 2, _ => (mt1 _ (List.mem_of_getElem? (i := 194) rfl))
  | 3, _ => (mt1 _ (List.mem_of_getElem? (i := 196) rfl))
  | 4, _ => (mt1 _ (List.mem_of_getElem? (i := 198) rfl))
  | 5, _ => (mt1 _ (List.mem_of_getElem? (i := 200) rfl))
  | 6, _ => (mt1 _ (List.mem_of_getElem? (i := 202) rfl))
  | 7, _ => (mt1 _ (List.mem_of_getElem? (i := 204) rfl))
  | 8, _ => (mt1 _ (List.mem_of_getElem? (i := 206) rfl))
  | 9, _ => (mt1 _ (List.mem_of_getElem? (i := 208) rfl))
  | j + 10, hj => absurd hj (by omega)
theorem uw_X8 : ∀ j, j < 15 → u_lay RX8 TX8 j ∈ lw_tbl := fun j hj => match j, hj with
  | 0, _ => (mt2 _ (List.mem_of_getElem? (i := 8) rfl))
  | 1, _ => (mt2 _ (List.mem_of_getElem? (i := 10) rfl))
  | 2, _ => (mt2 _ (List.mem_of_getElem? (i := 12) rfl))
  | 3, _ => (mt2 _ (List.mem_of_getElem? (i := 14) rfl))
  | 4, _ => (mt2 _ (List.mem_of_getElem? (i := 16) rfl))
  | 5, _ => (mt2 _ (List.mem_of_getElem? (i := 18) rfl))
  | 6, _ => (mt2 _ (List.mem_of_getElem? (i := 20) rfl))
  | 7, _ => (mt2 _ (List.mem_of_getElem? (i := 22) rfl))
  | 8, _ => (mt2 _ (List.mem_of_getElem? (i := 24) rfl))
  | 9, _ => (mt2 _ (List.mem_of_getElem? (i := 26) rfl))
  | 10, _ => (mt2 _ (List.mem_of_getElem? (i := 28) rfl))
  | 11, _ => (mt2 _ (List.mem_of_getElem? (i := 30) rfl))
  | 12, _ => (mt2 _ (List.mem_of_getElem? (i := 32) rfl))
  | 13, _ => (mt2 _ (List.mem_of_getElem? (i := 34) rfl))
  | 14, _ => (mt2 _ (List.mem_of_getElem? (i := 36) rfl))
  | j + 15, hj => absurd hj (by omega)
theorem uw_X9 : ∀ j, j < 47 → u_lay RX9 TX9 j ∈ lw_tbl := fun j hj => match j, hj with
  | 0, _ => (mt4 _ (List.mem_of_getElem? (i := 195) rfl))
  | 1, _ => (mt4 _ (List.mem_of_getElem? (i := 197) rfl))
  | 2, _ => (mt4 _ (List.mem_of_getElem? (i := 199) rfl))
  | 3, _ => (mt4 _ (List.mem_of_getElem? (i := 201) rfl))
  | 4, _ => (mt4 _ (List.mem_of_getElem? (i := 203) rfl))
  | 5, _ => (mt4 _ (List.mem_of_getElem? (i := 205) rfl))
  | 6, _ => (mt4 _ (List.mem_of_getElem? (i := 207) rfl))
  | 7, _ => (mt4 _ (List.mem_of_getElem? (i := 209) rfl))
  | 8, _ => (mt4 _ (List.mem_of_getElem? (i := 211) rfl))
  | 9, _ => (mt4 _ (List.mem_of_getElem? (i := 213) rfl))
  | 10, _ => (mt4 _ (List.mem_of_getElem? (i := 215) rfl))
  | 11, _ => (mt4 _ (List.mem_of_getElem? (i := 217) rfl))
  | 12, _ => (mt4 _ (List.mem_of_getElem? (i := 219) rfl))
  | 13, _ => (mt4 _ (List.mem_of_getElem? (i := 221) rfl))
  | 14, _ => (mt4 _ (List.mem_of_getElem? (i := 223) rfl))
  | 15, _ => (mt4 _ (List.mem_of_getElem? (i := 225) rfl))
  | 16, _ => (mt4 _ (List.mem_of_getElem? (i := 227) rfl))
  | 17, _ => (mt4 _ (List.mem_of_getElem? (i := 229) rfl))
  | 18, _ => (mt4 _ (List.mem_of_getElem? (i := 231) rfl))
  | 19, _ => (mt4 _ (List.mem_of_getElem? (i := 233) rfl))
  | 20, _ => (mt4 _ (List.mem_of_getElem? (i := 235) rfl))
  | 21, _ => (mt4 _ (List.mem_of_getElem? (i := 237) rfl))
  | 22, _ => (mt4 _ (List.mem_of_getElem? (i := 239) rfl))
  | 23, _ => (mt5 _ (List.mem_of_getElem? (i := 1) rfl))
  | 24, _ => (mt5 _ (List.mem_of_getElem? (i := 3) rfl))
  | 25, _ => (mt5 _ (List.mem_of_getElem? (i := 5) rfl))
  | 26, _ => (mt5 _ (List.mem_of_getElem? (i := 7) rfl))
  | 27, _ => (mt5 _ (List.mem_of_getElem? (i := 9) rfl))
  | 28, _ => (mt5 _ (List.mem_of_getElem? (i := 11) rfl))
  | 29, _ => (mt5 _ (List.mem_of_getElem? (i := 13) rfl))
  | 30, _ => (mt5 _ (List.mem_of_getElem? (i := 15) rfl))
  | 31, _ => (mt5 _ (List.mem_of_getElem? (i := 17) rfl))
  | 32, _ => (mt5 _ (List.mem_of_getElem? (i := 19) rfl))
  | 33, _ => (mt5 _ (List.mem_of_getElem? (i := 21) rfl))
  | 34, _ => (mt5 _ (List.mem_of_getElem? (i := 23) rfl))
  | 35, _ => (mt5 _ (List.mem_of_getElem? (i := 25) rfl))
  | 36, _ => (mt5 _ (List.mem_of_getElem? (i := 27) rfl))
  | 37, _ => (mt5 _ (List.mem_of_getElem? (i := 29) rfl))
  | 38, _ => (mt5 _ (List.mem_of_getElem? (i := 31) rfl))
  | 39, _ => (mt5 _ (List.mem_of_getElem? (i := 33) rfl))
  | 40, _ => (mt5 _ (List.mem_of_getElem? (i := 35) rfl))
  | 41, _ => (mt5 _ (List.mem_of_getElem? (i := 37) rfl))
  | 42, _ => (mt5 _ (List.mem_of_getElem? (i := 39) rfl))
  | 43, _ => (mt5 _ (List.mem_of_getElem? (i := 41) rfl))
  | 44, _ => (mt5 _ (List.mem_of_getElem? (i := 43) rfl))
  | 45, _ => (mt5 _ (List.mem_of_getElem? (i := 45) rfl))
  | 46, _ => (mt5 _ (List.mem_of_getElem? (i := 47) rfl))
  | j + 47, hj => absurd hj (by omega)
abbrev Mx : Type := MethodName × ByteArray × Nat × Option FieldType
def MOb (X : Mx) (n : Nat) : Prop := Cond.code X.1 X.2.1 X.2.2.1 X.2.2.2 ∈ lw_tbl ∧ Cond.initialized X.1.cls ∈ lw_tbl ∧ (X.1.cls ≠ "java/lang/invoke/MethodHandle" ∧ X.1.cls ≠ "java/lang/invoke/VarHandle" ∧ (parseMethodDescriptor X.1.desc).map (fun d => d.parameters.length) = some n) ∧ plainName X.1.cls = true
def MOv (X : Mx) (n : Nat) : Prop := MOb X n ∧ Cond.instanceMethod X.1 ∈ lw_tbl ∧ Cond.selects X.1.cls X.1 X.1 ∈ lw_tbl
def MOs (X : Mx) (n : Nat) : Prop := MOb X n ∧ Cond.static X.1 ∈ lw_tbl
def MOi (X : Mx) (n : Nat) : Prop := MOb X n ∧ Cond.instanceMethod X.1 ∈ lw_tbl ∧ X.1.name = "<init>"
def x_X0_init : Mx := (yX0_init, cX0_init, 2, none)
