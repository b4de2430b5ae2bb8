def RJ0 : String := "java/lang/String"
abbrev cJ0_length_8abf5 : ByteArray := prog_15_method_54_code
def yJ0_length_8abf5 : MethodName := ⟨RJ0, "length", "()I"⟩
abbrev cJ0_charAt_5068e : ByteArray := prog_15_method_56_code
def yJ0_charAt_5068e : MethodName := ⟨RJ0, "charAt", "(I)C"⟩
abbrev cJ0_coder_7d493 : ByteArray := prog_15_method_152_code
def yJ0_coder_7d493 : MethodName := ⟨RJ0, "coder", "()B"⟩
abbrev cJ0_isLatin1_aae02 : ByteArray := prog_15_method_154_code
def yJ0_isLatin1_aae02 : MethodName := ⟨RJ0, "isLatin1", "()Z"⟩
abbrev cJ0_checkIndex_df160 : ByteArray := prog_15_method_155_code
def yJ0_checkIndex_df160 : MethodName := ⟨RJ0, "checkIndex", "(II)V"⟩
def RJ1 : String := "java/lang/StringLatin1"
abbrev cJ1_charAt_3b067 : ByteArray := prog_16_method_2_code
def yJ1_charAt_3b067 : MethodName := ⟨RJ1, "charAt", "([BI)C"⟩
def RJ2 : String := "java/lang/StringUTF16"
abbrev cJ2_getChar_3b067 : ByteArray := prog_17_method_5_code
def yJ2_getChar_3b067 : MethodName := ⟨RJ2, "getChar", "([BI)C"⟩
abbrev cJ2_length_9d52b : ByteArray := prog_17_method_6_code
def yJ2_length_9d52b : MethodName := ⟨RJ2, "length", "([B)I"⟩
abbrev cJ2_charAt_3b067 : ByteArray := prog_17_method_83_code
def yJ2_charAt_3b067 : MethodName := ⟨RJ2, "charAt", "([BI)C"⟩
abbrev cJ2_checkIndex_2214a : ByteArray := prog_17_method_91_code
def yJ2_checkIndex_2214a : MethodName := ⟨RJ2, "checkIndex", "(I[B)V"⟩
def RJ3 : String := "jdk/internal/util/Preconditions"
abbrev cJ3_checkIndex_8e157 : ByteArray := prog_18_method_11_code
def yJ3_checkIndex_8e157 : MethodName := ⟨RJ3, "checkIndex", "(IILjava/util/function/BiFunction;)I"⟩
def RL : String := "RowsColumnsLaw"
abbrev cL_law : ByteArray := code
def yL_law : MethodName := ⟨RL, "law", "([I)Z"⟩
abbrev classes : List vw_C := [(RX0, TX0, 4), (RX1, TX1, 3), (RX2, TX2, 4), (RX3, TX3, 3), (RX4, TX4, 1), (RX5, TX5, 2), (RX6, TX6, 10), (RX7, TX7, 10), (RX8, TX8, 15), (RX9, TX9, 47)]
def tyC (c : Nat) : Nat → FieldType := match c with
  | 0 => tyX0
  | 1 => tyX1
  | 2 => tyX2
  | 3 => tyX3
  | 4 => tyX4
  | 5 => tyX5
  | 6 => tyX6
  | 7 => tyX7
  | 8 => tyX8
  | _ => tyX9
theorem uw_X0 : ∀ j, j < 4 → u_lay RX0 TX0 j ∈ lw_tbl := fun j hj => match j, hj with
  | 0, _ => (mt1 _ (List.mem_of_getElem? (i := 49) rfl))
  | 1, _ => (mt1 _ (List.mem_of_getElem? (i := 51) rfl))
  | 2, _ => (mt1 _ (List.mem_of_getElem? (i := 53) rfl))
  | 3, _ => (mt1 _ (List.mem_of_getElem? (i := 55) rfl))
  | j + 4, hj => absurd hj (by omega)
theorem uw_X1 : ∀ j, j < 3 → u_lay RX1 TX1 j ∈ lw_tbl := fun j hj => match j, hj with
  | 0, _ => (mt1 _ (List.mem_of_getElem? (i := 69) rfl))
  | 1, _ => (mt1 _ (List.mem_of_getElem? (i := 71) rfl))
  | 2, _ => (mt1 _ (List.mem_of_getElem? (i := 73) rfl))
  | j + 3, hj => absurd hj (by omega)
theorem uw_X2 : ∀ j, j < 4 → u_lay RX2 TX2 j ∈ lw_tbl := fun j hj => match j, hj with
  | 0, _ => (mt1 _ (List.mem_of_getElem? (i := 224) rfl))
  | 1, _ => (mt1 _ (List.mem_of_getElem? (i := 226) rfl))
  | 2, _ => (mt1 _ (List.mem_of_getElem? (i := 228) rfl))
  | 3, _ => (mt1 _ (List.mem_of_getElem? (i := 230) rfl))
  | j + 4, hj => absurd hj (by omega)
theorem uw_X3 : ∀ j, j < 3 → u_lay RX3 TX3 j ∈ lw_tbl := fun j hj => match j, hj with
  | 0, _ => (mt1 _ (List.mem_of_getElem? (i := 155) rfl))
  | 1, _ => (mt1 _ (List.mem_of_getElem? (i := 157) rfl))
  | 2, _ => (mt1 _ (List.mem_of_getElem? (i := 159) rfl))
  | j + 3, hj => absurd hj (by omega)
theorem uw_X4 : ∀ j, j < 1 → u_lay RX4 TX4 j ∈ lw_tbl := fun j hj => match j, hj with
  | 0, _ => (mt1 _ (List.mem_of_getElem? (i := 163) rfl))
  | j + 1, hj => absurd hj (by omega)
theorem uw_X5 : ∀ j, j < 2 → u_lay RX5 TX5 j ∈ lw_tbl := fun j hj => match j, hj with
  | 0, _ => (mt1 _ (List.mem_of_getElem? (i := 87) rfl))
  | 1, _ => (mt1 _ (List.mem_of_getElem? (i := 89) rfl))
  | j + 2, hj => absurd hj (by omega)
theorem uw_X6 : ∀ j, j < 10 → u_lay RX6 TX6 j ∈ lw_tbl := fun j hj => match j, hj with
  | 0, _ => (mt1 _ (List.mem_of_getElem? (i := 117) rfl))
  | 1, _ => (mt1 _ (List.mem_of_getElem? (i := 119) rfl))
  | 2, _ => (mt1 _ (List.mem_of_getElem? (i := 121) rfl))
  | 3, _ => (mt1 _ (List.mem_of_getElem? (i := 123) rfl))
  | 4, _ => (mt1 _ (List.mem_of_getElem? (i := 125) rfl))
  | 5, _ => (mt1 _ (List.mem_of_getElem? (i := 127) rfl))
  | 6, _ => (mt1 _ (List.mem_of_getElem? (i := 129) rfl))
  | 7, _ => (mt1 _ (List.mem_of_getElem? (i := 131) rfl))
  | 8, _ => (mt1 _ (List.mem_of_getElem? (i := 133) rfl))
  | 9, _ => (mt1 _ (List.mem_of_getElem? (i := 135) rfl))
  | j + 10, hj => absurd hj (by omega)
theorem uw_X7 : ∀ j, j < 10 → u_lay RX7 TX7 j ∈ lw_tbl := fun j hj => match j, hj with
  | 0, _ => (mt1 _ (List.mem_of_getElem? (i := 190) rfl))
  | 1, _ => (mt1 _ (List.mem_of_getElem? (i := 192) rfl))
  | 2, _ => (mt1 _ (List.mem_of_getElem? (i := 194) rfl))
  | 3, _ => (mt1 _ (List.mem_of_getElem? (i := 196) rfl))
  | 4, _ => (mt1 _ (List.mem_of_getElem? (i := 198) rfl))
  | 5, _ => (mt1 _ (List.mem_of_getElem? (i := 200) rfl))
  | 6, _ => (mt1 _ (List.mem_of_getElem? (i := 202) rfl))
  | 7, _ => (mt1 _ (List.mem_of_getElem? (i := 204) rfl))
  | 8, _ => (mt1 _ (List.mem_of_getElem? (i := 206) rfl))
  | 9, _ => (mt1 _ (List.mem_of_getElem? (i := 208) rfl))
  | j + 10, hj => absurd hj (by omega)
theorem uw_X8 : ∀ j, j < 15 → u_lay RX8 TX8 j ∈ lw_tbl := fun j hj => match j, hj with
  | 0, _ => (mt2 _ (List.mem_of_getElem? (i := 8) rfl))
  | 1, _ => (mt2 _ (List.mem_of_getElem? (i := 10) rfl))
  | 2, _ => (mt2 _ (List.mem_of_getElem? (i := 12) rfl))
  | 3, _ => (mt2 _ (List.mem_of_getElem? (i := 14) rfl))
  | 4, _ => (mt2 _ (List.mem_of_getElem? (i := 16) rfl))
  | 5, _ => (mt2 _ (List.mem_of_getElem? (i := 18) rfl))
  | 6, _ => (mt2 _ (List.mem_of_getElem? (i := 20) rfl))
  | 7, _ => (mt2 _ (List.mem_of_getElem? (i := 22) rfl))
  | 8, _ => (mt2 _ (List.mem_of_getElem? (i := 24) rfl))
  | 9, _ => (mt2 _ (List.mem_of_getElem? (i := 26) rfl))
  | 10, _ => (mt2 _ (List.mem_of_getElem? (i := 28) rfl))
  | 11, _ => (mt2 _ (List.mem_of_getElem? (i := 30) rfl))
  | 12, _ => (mt2 _ (List.mem_of_getElem? (i := 32) rfl))
  | 13, _ => (mt2 _ (List.mem_of_getElem? (i := 34) rfl))
  | 14, _ => (mt2 _ (List.mem_of_getElem? (i := 36) rfl))
  | j + 15, hj => absurd hj (by omega)
theorem uw_X9 : ∀ j, j < 47 → u_lay RX9 TX9 j ∈ lw_tbl := fun j hj => match j, hj with
  | 0, _ => (mt4 _ (List.mem_of_getElem? (i := 195) rfl))
  | 1, _ => (mt4 _ (List.mem_of_getElem? (i := 197) rfl))
  | 2, _ => (mt4 _ (List.mem_of_getElem? (i := 199) rfl))
  | 3, _ => (mt4 _ (List.mem_of_getElem? (i := 201) rfl))
  | 4, _ => (mt4 _ (List.mem_of_getElem? (i := 203) rfl))
  | 5, _ => (mt4 _ (List.mem_of_getElem? (i := 205) rfl))
  | 6, _ => (mt4 _ (List.mem_of_getElem? (i := 207) rfl))
  | 7, _ => (mt4 _ (List.mem_of_getElem? (i := 209) rfl))
  | 8, _ => (mt4 _ (List.mem_of_getElem? (i := 211) rfl))
  | 9, _ => (mt4 _ (List.mem_of_getElem? (i := 213) rfl))
  | 10, _ => (mt4 _ (List.mem_of_getElem? (i := 215) rfl))
  | 11, _ => (mt4 _ (List.mem_of_getElem? (i := 217) rfl))
  | 12, _ => (mt4 _ (List.mem_of_getElem? (i := 219) rfl))
  | 13, _ => (mt4 _ (List.mem_of_getElem? (i := 221) rfl))
  | 14, _ => (mt4 _ (List.mem_of_getElem? (i := 223) rfl))
  | 15, _ => (mt4 _ (List.mem_of_getElem? (i := 225) rfl))
  | 16, _ => (mt4 _ (List.mem_of_getElem? (i := 227) rfl))
  | 17, _ => (mt4 _ (List.mem_of_getElem? (i := 229) rfl))
  | 18, _ => (mt4 _ (List.mem_of_getElem? (i := 231) rfl))
  | 19, _ => (mt4 _ (List.mem_of_getElem? (i := 233) rfl))
  | 20, _ => (mt4 _ (List.mem_of_getElem? (i := 235) rfl))
  | 21, _ => (mt4 _ (List.mem_of_getElem? (i := 237) rfl))
  | 22, _ => (mt4 _ (List.mem_of_getElem? (i := 239) rfl))
  | 23, _ => (mt5 _ (List.mem_of_getElem? (i := 1) rfl))
  | 24, _ => (mt5 _ (List.mem_of_getElem? (i := 3) rfl))
  | 25, _ => (mt5 _ (List.mem_of_getElem? (i := 5) rfl))
  | 26, _ => (mt5 _ (List.mem_of_getElem? (i := 7) rfl))
  | 27, _ => (mt5 _ (List.mem_of_getElem? (i := 9) rfl))
  | 28, _ => (mt5 _ (List.mem_of_getElem? (i := 11) rfl))
  | 29, _ => (mt5 _ (List.mem_of_getElem? (i := 13) rfl))
  | 30, _ => (mt5 _ (List.mem_of_getElem? (i := 15) rfl))
  | 31, _ => (mt5 _ (List.mem_of_getElem? (i := 17) rfl))
  | 32, _ => (mt5 _ (List.mem_of_getElem? (i := 19) rfl))
  | 33, _ => (mt5 _ (List.mem_of_getElem? (i := 21) rfl))
  | 34, _ => (mt5 _ (List.mem_of_getElem? (i := 23) rfl))
  | 35, _ => (mt5 _ (List.mem_of_getElem? (i := 25) rfl))
  | 36, _ => (mt5 _ (List.mem_of_getElem? (i := 27) rfl))
  | 37, _ => (mt5 _ (List.mem_of_getElem? (i := 29) rfl))
  | 38, _ => (mt5 _ (List.mem_of_getElem? (i := 31) rfl))
  | 39, _ => (mt5 _ (List.mem_of_getElem? (i := 33) rfl))
  | 40, _ => (mt5 _ (List.mem_of_getElem? (i := 35) rfl))
  | 41, _ => (mt5 _ (List.mem_of_getElem? (i := 37) rfl))
  | 42, _ => (mt5 _ (List.mem_of_getElem? (i := 39) rfl))
  | 43, _ => (mt5 _ (List.mem_of_getElem? (i := 41) rfl))
  | 44, _ => (mt5 _ (List.mem_of_getElem? (i := 43) rfl))
  | 45, _ => (mt5 _ (List.mem_of_getElem? (i := 45) rfl))
  | 46, _ => (mt5 _ (List.mem_of_getElem? (i := 47) rfl))
  | j + 47, hj => absurd hj (by omega)
abbrev Mx : Type := MethodName × ByteArray × Nat × Option FieldType
def MOb (X : Mx) (n : Nat) : Prop := Cond.code X.1 X.2.1 X.2.2.1 X.2.2.2 ∈ lw_tbl ∧ Cond.initialized X.1.cls ∈ lw_tbl ∧ (X.1.cls ≠ "java/lang/invoke/MethodHandle" ∧ X.1.cls ≠ "java/lang/invoke/VarHandle" ∧ (parseMethodDescriptor X.1.desc).map (fun d => d.parameters.length) = some n) ∧ plainName X.1.cls = true
def MOv (X : Mx) (n : Nat) : Prop := MOb X n ∧ Cond.instanceMethod X.1 ∈ lw_tbl ∧ Cond.selects X.1.cls X.1 X.1 ∈ lw_tbl
def MOs (X : Mx) (n : Nat) : Prop := MOb X n ∧ Cond.static X.1 ∈ lw_tbl
def MOi (X : Mx) (n : Nat) : Prop := MOb X n ∧ Cond.instanceMethod X.1 ∈ lw_tbl ∧ X.1.name = "<init>"
def x_X0_init : Mx := (yX0_init, cX0_init, 2, none)
theorem mo_X0_init : MOi x_X0_init 1 := ⟨⟨(mt1 _ (List.mem_of_getElem? (i := 30) rfl)), (mt1 _ (List.mem_of_getElem? (i := 2) rfl)), ⟨by decide +kernel, by decide +kernel, by decide +kernel⟩, by decide +kernel⟩, (mt1 _ (List.mem_of_getElem? (i := 29) rfl)), rfl⟩
def x_X0_forget : Mx := (yX0_forget, cX0_forget, 1, none)
theorem mo_X0_forget : MOv x_X0_forget 0 := ⟨⟨(mt2 _ (List.mem_of_getElem? (i := 62) rfl)), (mt1 _ (List.mem_of_getElem? (i := 2) rfl)), ⟨by decide +kernel, by decide +kernel, by decide +kernel⟩, by decide +kernel⟩, (mt2 _ (List.mem_of_getElem? (i := 60) rfl)), (mt2 _ (List.mem_of_getElem? (i := 61) rfl))⟩
def x_X0_become : Mx := (yX0_become, cX0_become, 2, none)
theorem mo_X0_become : MOv x_X0_become 1 := ⟨⟨(mt2 _ (List.mem_of_getElem? (i := 219) rfl)), (mt1 _ (List.mem_of_getElem? (i := 2) rfl)), ⟨by decide +kernel, by decide +kernel, by decide +kernel⟩, by decide +kernel⟩, (mt2 _ (List.mem_of_getElem? (i := 217) rfl)), (mt2 _ (List.mem_of_getElem? (i := 218) rfl))⟩
def x_X0_resize : Mx := (yX0_resize, cX0_resize, 5, none)
theorem mo_X0_resize : MOv x_X0_resize 3 := ⟨⟨(mt4 _ (List.mem_of_getElem? (i := 35) rfl)), (mt1 _ (List.mem_of_getElem? (i := 2) rfl)), ⟨by decide +kernel, by decide +kernel, by decide +kernel⟩, by decide +kernel⟩, (mt4 _ (List.mem_of_getElem? (i := 33) rfl)), (mt4 _ (List.mem_of_getElem? (i := 34) rfl))⟩
def x_X0_sameSize : Mx := (yX0_sameSize, cX0_sameSize, 2, (some .boolean))
theorem mo_X0_sameSize : MOv x_X0_sameSize 1 := ⟨⟨(mt2 _ (List.mem_of_getElem? (i := 194) rfl)), (mt1 _ (List.mem_of_getElem? (i := 2) rfl)), ⟨by decide +kernel, by decide +kernel, by decide +kernel⟩, by decide +kernel⟩, (mt2 _ (List.mem_of_getElem? (i := 192) rfl)), (mt2 _ (List.mem_of_getElem? (i := 193) rfl))⟩
def x_X0_darkSquares : Mx := (yX0_darkSquares, cX0_darkSquares, 1, (some .int))
theorem mo_X0_darkSquares : MOv x_X0_darkSquares 0 := ⟨⟨(mt3 _ (List.mem_of_getElem? (i := 56) rfl)), (mt1 _ (List.mem_of_getElem? (i := 2) rfl)), ⟨by decide +kernel, by decide +kernel, by decide +kernel⟩, by decide +kernel⟩, (mt3 _ (List.mem_of_getElem? (i := 54) rfl)), (mt3 _ (List.mem_of_getElem? (i := 55) rfl))⟩
def x_X0_everyRow : Mx := (yX0_everyRow, cX0_everyRow, 1, (some .int))
theorem mo_X0_everyRow : MOv x_X0_everyRow 0 := ⟨⟨(mt3 _ (List.mem_of_getElem? (i := 70) rfl)), (mt1 _ (List.mem_of_getElem? (i := 2) rfl)), ⟨by decide +kernel, by decide +kernel, by decide +kernel⟩, by decide +kernel⟩, (mt3 _ (List.mem_of_getElem? (i := 68) rfl)), (mt3 _ (List.mem_of_getElem? (i := 69) rfl))⟩
def x_X0_everyColumn : Mx := (yX0_everyColumn, cX0_everyColumn, 1, (some .int))
theorem mo_X0_everyColumn : MOv x_X0_everyColumn 0 := ⟨⟨(mt3 _ (List.mem_of_getElem? (i := 42) rfl)), (mt1 _ (List.mem_of_getElem? (i := 2) rfl)), ⟨by decide +kernel, by decide +kernel, by decide +kernel⟩, by decide +kernel⟩, (mt3 _ (List.mem_of_getElem? (i := 40) rfl)), (mt3 _ (List.mem_of_getElem? (i := 41) rfl))⟩
def x_X0_allSquares : Mx := (yX0_allSquares, cX0_allSquares, 1, (some .long))
theorem mo_X0_allSquares : MOv x_X0_allSquares 0 := ⟨⟨(mt4 _ (List.mem_of_getElem? (i := 39) rfl)), (mt1 _ (List.mem_of_getElem? (i := 2) rfl)), ⟨by decide +kernel, by decide +kernel, by decide +kernel⟩, by decide +kernel⟩, (mt4 _ (List.mem_of_getElem? (i := 37) rfl)), (mt4 _ (List.mem_of_getElem? (i := 38) rfl))⟩
def x_X0_hasSquare : Mx := (yX0_hasSquare, cX0_hasSquare, 3, (some .boolean))
theorem mo_X0_hasSquare : MOv x_X0_hasSquare 2 := ⟨⟨(mt3 _ (List.mem_of_getElem? (i := 10) rfl)), (mt1 _ (List.mem_of_getElem? (i := 2) rfl)), ⟨by decide +kernel, by decide +kernel, by decide +kernel⟩, by decide +kernel⟩, (mt3 _ (List.mem_of_getElem? (i := 8) rfl)), (mt3 _ (List.mem_of_getElem? (i := 9) rfl))⟩
def x_X0_squareAt : Mx := (yX0_squareAt, cX0_squareAt, 3, (some .int))
theorem mo_X0_squareAt : MOv x_X0_squareAt 2 := ⟨⟨(mt3 _ (List.mem_of_getElem? (i := 14) rfl)), (mt1 _ (List.mem_of_getElem? (i := 2) rfl)), ⟨by decide +kernel, by decide +kernel, by decide +kernel⟩, by decide +kernel⟩, (mt3 _ (List.mem_of_getElem? (i := 12) rfl)), (mt3 _ (List.mem_of_getElem? (i := 13) rfl))⟩
def x_X0_colour : Mx := (yX0_colour, cX0_colour, 7, (some .int))
theorem mo_X0_colour : MOv x_X0_colour 3 := ⟨⟨(mt3 _ (List.mem_of_getElem? (i := 22) rfl)), (mt1 _ (List.mem_of_getElem? (i := 2) rfl)), ⟨by decide +kernel, by decide +kernel, by decide +kernel⟩, by decide +kernel⟩, (mt3 _ (List.mem_of_getElem? (i := 20) rfl)), (mt3 _ (List.mem_of_getElem? (i := 21) rfl))⟩
def x_X0_linesOf : Mx := (yX0_linesOf, cX0_linesOf, 2, (some .int))
theorem mo_X0_linesOf : MOv x_X0_linesOf 1 := ⟨⟨(mt2 _ (List.mem_of_getElem? (i := 215) rfl)), (mt1 _ (List.mem_of_getElem? (i := 2) rfl)), ⟨by decide +kernel, by decide +kernel, by decide +kernel⟩, by decide +kernel⟩, (mt2 _ (List.mem_of_getElem? (i := 213) rfl)), (mt2 _ (List.mem_of_getElem? (i := 214) rfl))⟩
def x_X0_hasLine : Mx := (yX0_hasLine, cX0_hasLine, 3, (some .boolean))
theorem mo_X0_hasLine : MOv x_X0_hasLine 2 := ⟨⟨(mt2 _ (List.mem_of_getElem? (i := 211) rfl)), (mt1 _ (List.mem_of_getElem? (i := 2) rfl)), ⟨by decide +kernel, by decide +kernel, by decide +kernel⟩, by decide +kernel⟩, (mt2 _ (List.mem_of_getElem? (i := 209) rfl)), (mt2 _ (List.mem_of_getElem? (i := 210) rfl))⟩
def x_X0_squaresOf : Mx := (yX0_squaresOf, cX0_squaresOf, 3, (some .long))
theorem mo_X0_squaresOf : MOv x_X0_squaresOf 2 := ⟨⟨(mt3 _ (List.mem_of_getElem? (i := 37) rfl)), (mt1 _ (List.mem_of_getElem? (i := 2) rfl)), ⟨by decide +kernel, by decide +kernel, by decide +kernel⟩, by decide +kernel⟩, (mt3 _ (List.mem_of_getElem? (i := 35) rfl)), (mt3 _ (List.mem_of_getElem? (i := 36) rfl))⟩
def x_X0_columnSquares : Mx := (yX0_columnSquares, cX0_columnSquares, 2, (some .long))
theorem mo_X0_columnSquares : MOv x_X0_columnSquares 1 := ⟨⟨(mt3 _ (List.mem_of_getElem? (i := 46) rfl)), (mt1 _ (List.mem_of_getElem? (i := 2) rfl)), ⟨by decide +kernel, by decide +kernel, by decide +kernel⟩, by decide +kernel⟩, (mt3 _ (List.mem_of_getElem? (i := 45) rfl)), (mp _ (List.mem_of_getElem? (i := 12) rfl : (yX0_columnSquares, 4) ∈ lw_privs))⟩
def x_X0_slantSquares : Mx := (yX0_slantSquares, cX0_slantSquares, 5, (some .long))
theorem mo_X0_slantSquares : MOv x_X0_slantSquares 1 := ⟨⟨(mt3 _ (List.mem_of_getElem? (i := 51) rfl)), (mt1 _ (List.mem_of_getElem? (i := 2) rfl)), ⟨by decide +kernel, by decide +kernel, by decide +kernel⟩, by decide +kernel⟩, (mt3 _ (List.mem_of_getElem? (i := 50) rfl)), (mp _ (List.mem_of_getElem? (i := 13) rfl : (yX0_slantSquares, 4) ∈ lw_privs))⟩
def x_X0_squaresTurned : Mx := (yX0_squaresTurned, cX0_squaresTurned, 6, (some .long))
theorem mo_X0_squaresTurned : MOv x_X0_squaresTurned 2 := ⟨⟨(mt3 _ (List.mem_of_getElem? (i := 75) rfl)), (mt1 _ (List.mem_of_getElem? (i := 2) rfl)), ⟨by decide +kernel, by decide +kernel, by decide +kernel⟩, by decide +kernel⟩, (mt3 _ (List.mem_of_getElem? (i := 73) rfl)), (mt3 _ (List.mem_of_getElem? (i := 74) rfl))⟩
def x_X0_columnsOfFirstRow : Mx := (yX0_columnsOfFirstRow, cX0_columnsOfFirstRow, 3, (some .int))
theorem mo_X0_columnsOfFirstRow : MOv x_X0_columnsOfFirstRow 1 := ⟨⟨(mt3 _ (List.mem_of_getElem? (i := 98) rfl)), (mt1 _ (List.mem_of_getElem? (i := 2) rfl)), ⟨by decide +kernel, by decide +kernel, by decide +kernel⟩, by decide +kernel⟩, (mt3 _ (List.mem_of_getElem? (i := 96) rfl)), (mt3 _ (List.mem_of_getElem? (i := 97) rfl))⟩
def x_X0_rowsUnlikeFirst : Mx := (yX0_rowsUnlikeFirst, cX0_rowsUnlikeFirst, 5, (some .int))
theorem mo_X0_rowsUnlikeFirst : MOv x_X0_rowsUnlikeFirst 1 := ⟨⟨(mt3 _ (List.mem_of_getElem? (i := 94) rfl)), (mt1 _ (List.mem_of_getElem? (i := 2) rfl)), ⟨by decide +kernel, by decide +kernel, by decide +kernel⟩, by decide +kernel⟩, (mt3 _ (List.mem_of_getElem? (i := 92) rfl)), (mt3 _ (List.mem_of_getElem? (i := 93) rfl))⟩
def x_X0_formOf : Mx := (yX0_formOf, cX0_formOf, 3, (some .long))
theorem mo_X0_formOf : MOv x_X0_formOf 1 := ⟨⟨(mt3 _ (List.mem_of_getElem? (i := 90) rfl)), (mt1 _ (List.mem_of_getElem? (i := 2) rfl)), ⟨by decide +kernel, by decide +kernel, by decide +kernel⟩, by decide +kernel⟩, (mt3 _ (List.mem_of_getElem? (i := 88) rfl)), (mt3 _ (List.mem_of_getElem? (i := 89) rfl))⟩
def x_X0_rotateBy : Mx := (yX0_rotateBy, cX0_rotateBy, 3, none)
theorem mo_X0_rotateBy : MOv x_X0_rotateBy 1 := ⟨⟨(mt4 _ (List.mem_of_getElem? (i := 15) rfl)), (mt1 _ (List.mem_of_getElem? (i := 2) rfl)), ⟨by decide +kernel, by decide +kernel, by decide +kernel⟩, by decide +kernel⟩, (mt4 _ (List.mem_of_getElem? (i := 13) rfl)), (mt4 _ (List.mem_of_getElem? (i := 14) rfl))⟩
def x_X0_mirror : Mx := (yX0_mirror, cX0_mirror, 5, none)
theorem mo_X0_mirror : MOv x_X0_mirror 0 := ⟨⟨(mt4 _ (List.mem_of_getElem? (i := 19) rfl)), (mt1 _ (List.mem_of_getElem? (i := 2) rfl)), ⟨by decide +kernel, by decide +kernel, by decide +kernel⟩, by decide +kernel⟩, (mt4 _ (List.mem_of_getElem? (i := 18) rfl)), (mp _ (List.mem_of_getElem? (i := 23) rfl : (yX0_mirror, 4) ∈ lw_privs))⟩
def x_X0_quarterRight : Mx := (yX0_quarterRight, cX0_quarterRight, 5, none)
theorem mo_X0_quarterRight : MOv x_X0_quarterRight 0 := ⟨⟨(mt4 _ (List.mem_of_getElem? (i := 23) rfl)), (mt1 _ (List.mem_of_getElem? (i := 2) rfl)), ⟨by decide +kernel, by decide +kernel, by decide +kernel⟩, by decide +kernel⟩, (mt4 _ (List.mem_of_getElem? (i := 22) rfl)), (mp _ (List.mem_of_getElem? (i := 24) rfl : (yX0_quarterRight, 4) ∈ lw_privs))⟩
def x_X1_init : Mx := (yX1_init, cX1_init, 1, none)
theorem mo_X1_init : MOi x_X1_init 0 := ⟨⟨(mt1 _ (List.mem_of_getElem? (i := 62) rfl)), (mt1 _ (List.mem_of_getElem? (i := 3) rfl)), ⟨by decide +kernel, by decide +kernel, by decide +kernel⟩, by decide +kernel⟩, (mt1 _ (List.mem_of_getElem? (i := 61) rfl)), rfl⟩
def x_X1_clear : Mx := (yX1_clear, cX1_clear, 1, none)
theorem mo_X1_clear : MOv x_X1_clear 0 := ⟨⟨(mt2 _ (List.mem_of_getElem? (i := 66) rfl)), (mt1 _ (List.mem_of_getElem? (i := 3) rfl)), ⟨by decide +kernel, by decide +kernel, by decide +kernel⟩, by decide +kernel⟩, (mt2 _ (List.mem_of_getElem? (i := 64) rfl)), (mt2 _ (List.mem_of_getElem? (i := 65) rfl))⟩
def x_X1_become : Mx := (yX1_become, cX1_become, 3, none)
theorem mo_X1_become : MOv x_X1_become 1 := ⟨⟨(mt2 _ (List.mem_of_getElem? (i := 223) rfl)), (mt1 _ (List.mem_of_getElem? (i := 3) rfl)), ⟨by decide +kernel, by decide +kernel, by decide +kernel⟩, by decide +kernel⟩, (mt2 _ (List.mem_of_getElem? (i := 221) rfl)), (mt2 _ (List.mem_of_getElem? (i := 222) rfl))⟩
def x_X1_begin : Mx := (yX1_begin, cX1_begin, 1, none)
theorem mo_X1_begin : MOv x_X1_begin 0 := ⟨⟨(mt2 _ (List.mem_of_getElem? (i := 167) rfl)), (mt1 _ (List.mem_of_getElem? (i := 3) rfl)), ⟨by decide +kernel, by decide +kernel, by decide +kernel⟩, by decide +kernel⟩, (mt2 _ (List.mem_of_getElem? (i := 165) rfl)), (mt2 _ (List.mem_of_getElem? (i := 166) rfl))⟩
def x_X1_add : Mx := (yX1_add, cX1_add, 5, none)
theorem mo_X1_add : MOv x_X1_add 2 := ⟨⟨(mt2 _ (List.mem_of_getElem? (i := 182) rfl)), (mt1 _ (List.mem_of_getElem? (i := 3) rfl)), ⟨by decide +kernel, by decide +kernel, by decide +kernel⟩, by decide +kernel⟩, (mt2 _ (List.mem_of_getElem? (i := 180) rfl)), (mt2 _ (List.mem_of_getElem? (i := 181) rfl))⟩
def x_X1_actsOf : Mx := (yX1_actsOf, cX1_actsOf, 2, (some .int))
theorem mo_X1_actsOf : MOv x_X1_actsOf 1 := ⟨⟨(mt2 _ (List.mem_of_getElem? (i := 186) rfl)), (mt1 _ (List.mem_of_getElem? (i := 3) rfl)), ⟨by decide +kernel, by decide +kernel, by decide +kernel⟩, by decide +kernel⟩, (mt2 _ (List.mem_of_getElem? (i := 184) rfl)), (mt2 _ (List.mem_of_getElem? (i := 185) rfl))⟩
def x_X1_codeOf : Mx := (yX1_codeOf, cX1_codeOf, 4, (some .int))
theorem mo_X1_codeOf : MOv x_X1_codeOf 2 := ⟨⟨(mt2 _ (List.mem_of_getElem? (i := 203) rfl)), (mt1 _ (List.mem_of_getElem? (i := 3) rfl)), ⟨by decide +kernel, by decide +kernel, by decide +kernel⟩, by decide +kernel⟩, (mt2 _ (List.mem_of_getElem? (i := 201) rfl)), (mt2 _ (List.mem_of_getElem? (i := 202) rfl))⟩
def x_X1_kindOf : Mx := (yX1_kindOf, cX1_kindOf, 3, (some .int))
theorem mo_X1_kindOf : MOv x_X1_kindOf 2 := ⟨⟨(mt2 _ (List.mem_of_getElem? (i := 199) rfl)), (mt1 _ (List.mem_of_getElem? (i := 3) rfl)), ⟨by decide +kernel, by decide +kernel, by decide +kernel⟩, by decide +kernel⟩, (mt2 _ (List.mem_of_getElem? (i := 197) rfl)), (mt2 _ (List.mem_of_getElem? (i := 198) rfl))⟩
def x_X1_numberOf : Mx := (yX1_numberOf, cX1_numberOf, 3, (some .int))
theorem mo_X1_numberOf : MOv x_X1_numberOf 2 := ⟨⟨(mt2 _ (List.mem_of_getElem? (i := 207) rfl)), (mt1 _ (List.mem_of_getElem? (i := 3) rfl)), ⟨by decide +kernel, by decide +kernel, by decide +kernel⟩, by decide +kernel⟩, (mt2 _ (List.mem_of_getElem? (i := 205) rfl)), (mt2 _ (List.mem_of_getElem? (i := 206) rfl))⟩
def x_X2_init : Mx := (yX2_init, cX2_init, 1, none)
theorem mo_X2_init : MOi x_X2_init 0 := ⟨⟨(mt1 _ (List.mem_of_getElem? (i := 216) rfl)), (mt1 _ (List.mem_of_getElem? (i := 9) rfl)), ⟨by decide +kernel, by decide +kernel, by decide +kernel⟩, by decide +kernel⟩, (mt1 _ (List.mem_of_getElem? (i := 215) rfl)), rfl⟩
def x_X2_find : Mx := (yX2_find, cX2_find, 7, none)
theorem mo_X2_find : MOv x_X2_find 2 := ⟨⟨(mt4 _ (List.mem_of_getElem? (i := 55) rfl)), (mt1 _ (List.mem_of_getElem? (i := 9) rfl)), ⟨by decide +kernel, by decide +kernel, by decide +kernel⟩, by decide +kernel⟩, (mt4 _ (List.mem_of_getElem? (i := 53) rfl)), (mt4 _ (List.mem_of_getElem? (i := 54) rfl))⟩
def x_X2_sameAs : Mx := (yX2_sameAs, cX2_sameAs, 2, (some .boolean))
theorem mo_X2_sameAs : MOv x_X2_sameAs 1 := ⟨⟨(mt4 _ (List.mem_of_getElem? (i := 66) rfl)), (mt1 _ (List.mem_of_getElem? (i := 9) rfl)), ⟨by decide +kernel, by decide +kernel, by decide +kernel⟩, by decide +kernel⟩, (mt4 _ (List.mem_of_getElem? (i := 64) rfl)), (mt4 _ (List.mem_of_getElem? (i := 65) rfl))⟩
def x_X3_init : Mx := (yX3_init, cX3_init, 1, none)
theorem mo_X3_init : MOi x_X3_init 0 := ⟨⟨(mt1 _ (List.mem_of_getElem? (i := 149) rfl)), (mt1 _ (List.mem_of_getElem? (i := 7) rfl)), ⟨by decide +kernel, by decide +kernel, by decide +kernel⟩, by decide +kernel⟩, (mt1 _ (List.mem_of_getElem? (i := 148) rfl)), rfl⟩
def x_X3_isNothing : Mx := (yX3_isNothing, cX3_isNothing, 1, (some .boolean))
theorem mo_X3_isNothing : MOv x_X3_isNothing 0 := ⟨⟨(mt4 _ (List.mem_of_getElem? (i := 97) rfl)), (mt1 _ (List.mem_of_getElem? (i := 7) rfl)), ⟨by decide +kernel, by decide +kernel, by decide +kernel⟩, by decide +kernel⟩, (mt4 _ (List.mem_of_getElem? (i := 95) rfl)), (mt4 _ (List.mem_of_getElem? (i := 96) rfl))⟩
def x_X3_renew : Mx := (yX3_renew, cX3_renew, 4, none)
theorem mo_X3_renew : MOv x_X3_renew 2 := ⟨⟨(mt4 _ (List.mem_of_getElem? (i := 89) rfl)), (mt1 _ (List.mem_of_getElem? (i := 7) rfl)), ⟨by decide +kernel, by decide +kernel, by decide +kernel⟩, by decide +kernel⟩, (mt4 _ (List.mem_of_getElem? (i := 87) rfl)), (mt4 _ (List.mem_of_getElem? (i := 88) rfl))⟩
def x_X3_put : Mx := (yX3_put, cX3_put, 3, (some .boolean))
theorem mo_X3_put : MOv x_X3_put 2 := ⟨⟨(mt4 _ (List.mem_of_getElem? (i := 101) rfl)), (mt1 _ (List.mem_of_getElem? (i := 7) rfl)), ⟨by decide +kernel, by decide +kernel, by decide +kernel⟩, by decide +kernel⟩, (mt4 _ (List.mem_of_getElem? (i := 99) rfl)), (mt4 _ (List.mem_of_getElem? (i := 100) rfl))⟩
def x_X3_cell : Mx := (yX3_cell, cX3_cell, 2, (some .int))
theorem mo_X3_cell : MOv x_X3_cell 1 := ⟨⟨(mt4 _ (List.mem_of_getElem? (i := 119) rfl)), (mt1 _ (List.mem_of_getElem? (i := 7) rfl)), ⟨by decide +kernel, by decide +kernel, by decide +kernel⟩, by decide +kernel⟩, (mt4 _ (List.mem_of_getElem? (i := 117) rfl)), (mt4 _ (List.mem_of_getElem? (i := 118) rfl))⟩
def x_X3_faultOfLane : Mx := (yX3_faultOfLane, cX3_faultOfLane, 2, (some .int))
theorem mo_X3_faultOfLane : MOv x_X3_faultOfLane 1 := ⟨⟨(mt4 _ (List.mem_of_getElem? (i := 109) rfl)), (mt1 _ (List.mem_of_getElem? (i := 7) rfl)), ⟨by decide +kernel, by decide +kernel, by decide +kernel⟩, by decide +kernel⟩, (mt4 _ (List.mem_of_getElem? (i := 107) rfl)), (mt4 _ (List.mem_of_getElem? (i := 108) rfl))⟩
def x_X3_pairsFrom : Mx := (yX3_pairsFrom, cX3_pairsFrom, 2, (some .int))
theorem mo_X3_pairsFrom : MOv x_X3_pairsFrom 1 := ⟨⟨(mt4 _ (List.mem_of_getElem? (i := 114) rfl)), (mt1 _ (List.mem_of_getElem? (i := 7) rfl)), ⟨by decide +kernel, by decide +kernel, by decide +kernel⟩, by decide +kernel⟩, (mt4 _ (List.mem_of_getElem? (i := 112) rfl)), (mt4 _ (List.mem_of_getElem? (i := 113) rfl))⟩
def x_X4_init : Mx := (yX4_init, cX4_init, 2, none)
theorem mo_X4_init : MOi x_X4_init 0 := ⟨⟨(mt1 _ (List.mem_of_getElem? (i := 142) rfl)), (mt1 _ (List.mem_of_getElem? (i := 6) rfl)), ⟨by decide +kernel, by decide +kernel, by decide +kernel⟩, by decide +kernel⟩, (mt1 _ (List.mem_of_getElem? (i := 141) rfl)), rfl⟩
def x_X4_at : Mx := (yX4_at, cX4_at, 2, (some (.object "RowsColumns$Sheet")))
theorem mo_X4_at : MOv x_X4_at 1 := ⟨⟨(mt4 _ (List.mem_of_getElem? (i := 82) rfl)), (mt1 _ (List.mem_of_getElem? (i := 6) rfl)), ⟨by decide +kernel, by decide +kernel, by decide +kernel⟩, by decide +kernel⟩, (mt4 _ (List.mem_of_getElem? (i := 80) rfl)), (mt4 _ (List.mem_of_getElem? (i := 81) rfl))⟩
def x_X4_cellsOf : Mx := (yX4_cellsOf, cX4_cellsOf, 3, (some .int))
