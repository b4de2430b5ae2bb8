theorem mo_X0_init : MOi x_X0_init 1 := ⟨⟨(mt1 _ (List.mem_of_getElem? (i := 30) rfl)), (mt1 _ (List.mem_of_getElem? (i := 2) rfl)), ⟨by decide +kernel, by decide +kernel, by decide +kernel⟩, by decide +kernel⟩, (mt1 _ (List.mem_of_getElem? (i := 29) rfl)), rfl⟩
def x_X0_forget : Mx := (yX0_forget, cX0_forget, 1, none)
theorem mo_X0_forget : MOv x_X0_forget 0 := ⟨⟨(mt2 _ (List.mem_of_getElem? (i := 62) rfl)), (mt1 _ (List.mem_of_getElem? (i := 2) rfl)), ⟨by decide +kernel, by decide +kernel, by decide +kernel⟩, by decide +kernel⟩, (mt2 _ (List.mem_of_getElem? (i := 60) rfl)), (mt2 _ (List.mem_of_getElem? (i := 61) rfl))⟩
def x_X0_become : Mx := (yX0_become, cX0_become, 2, none)
theorem mo_X0_become : MOv x_X0_become 1 := ⟨⟨(mt2 _ (List.mem_of_getElem? (i := 219) rfl)), (mt1 _ (List.mem_of_getElem? (i := 2) rfl)), ⟨by decide +kernel, by decide +kernel, by decide +kernel⟩, by decide +kernel⟩, (mt2 _ (List.mem_of_getElem? (i := 217) rfl)), (mt2 _ (List.mem_of_getElem? (i := 218) rfl))⟩
def x_X0_resize : Mx := (yX0_resize, cX0_resize, 5, none)
theorem mo_X0_resize : MOv x_X0_resize 3 := ⟨⟨(mt4 _ (List.mem_of_getElem? (i := 35) rfl)), (mt1 _ (List.mem_of_getElem? (i := 2) rfl)), ⟨by decide +kernel, by decide +kernel, by decide +kernel⟩, by decide +kernel⟩, (mt4 _ (List.mem_of_getElem? (i := 33) rfl)), (mt4 _ (List.mem_of_getElem? (i := 34) rfl))⟩
def x_X0_sameSize : Mx := (yX0_sameSize, cX0_sameSize, 2, (some .boolean))
theorem mo_X0_sameSize : MOv x_X0_sameSize 1 := ⟨⟨(mt2 _ (List.mem_of_getElem? (i := 194) rfl)), (mt1 _ (List.mem_of_getElem? (i := 2) rfl)), ⟨by decide +kernel, by decide +kernel, by decide +kernel⟩, by decide +kernel⟩, (mt2 _ (List.mem_of_getElem? (i := 192) rfl)), (mt2 _ (List.mem_of_getElem? (i := 193) rfl))⟩
def x_X0_darkSquares : Mx := (yX0_darkSquares, cX0_darkSquares, 1, (some .int))
theorem mo_X0_darkSquares : MOv x_X0_darkSquares 0 := ⟨⟨(mt3 _ (List.mem_of_getElem? (i := 56) rfl)), (mt1 _ (List.mem_of_getElem? (i := 2) rfl)), ⟨by decide +kernel, by decide +kernel, by decide +kernel⟩, by decide +kernel⟩, (mt3 _ (List.mem_of_getElem? (i := 54) rfl)), (mt3 _ (List.mem_of_getElem? (i := 55) rfl))⟩
def x_X0_everyRow : Mx := (yX0_everyRow, cX0_everyRow, 1, (some .int))
theorem mo_X0_everyRow : MOv x_X0_everyRow 0 := ⟨⟨(mt3 _ (List.mem_of_getElem? (i := 70) rfl)), (mt1 _ (List.mem_of_getElem? (i := 2) rfl)), ⟨by decide +kernel, by decide +kernel, by decide +kernel⟩, by decide +kernel⟩, (mt3 _ (List.mem_of_getElem? (i := 68) rfl)), (mt3 _ (List.mem_of_getElem? (i := 69) rfl))⟩
def x_X0_everyColumn : Mx := (yX0_everyColumn, cX0_everyColumn, 1, (some .int))
theorem mo_X0_everyColumn : MOv x_X0_everyColumn 0 := ⟨⟨(mt3 _ (List.mem_of_getElem? (i := 42) rfl)), (mt1 _ (List.mem_of_getElem? (i := 2) rfl)), ⟨by decide +kernel, by decide +kernel, by decide +kernel⟩, by decide +kernel⟩, (mt3 _ (List.mem_of_getElem? (i := 40) rfl)), (mt3 _ (List.mem_of_getElem? (i := 41) rfl))⟩
def x_X0_allSquares : Mx := (yX0_allSquares, cX0_allSquares, 1, (some .long))
theorem mo_X0_allSquares : MOv x_X0_allSquares 0 := ⟨⟨(mt4 _ (List.mem_of_getElem? (i := 39) rfl)), (mt1 _ (List.mem_of_getElem? (i := 2) rfl)), ⟨by decide +kernel, by decide +kernel, by decide +kernel⟩, by decide +kernel⟩, (mt4 _ (List.mem_of_getElem? (i := 37) rfl)), (mt4 _ (List.mem_of_getElem? (i := 38) rfl))⟩
def x_X0_hasSquare : Mx := (yX0_hasSquare, cX0_hasSquare, 3, (some .boolean))
theorem mo_X0_hasSquare : MOv x_X0_hasSquare 2 := ⟨⟨(mt3 _ (List.mem_of_getElem? (i := 10) rfl)), (mt1 _ (List.mem_of_getElem? (i := 2) rfl)), ⟨by decide +kernel, by decide +kernel, by decide +kernel⟩, by decide +kernel⟩, (mt3 _ (List.mem_of_getElem? (i := 8) rfl)), (mt3 _ (List.mem_of_getElem? (i := 9) rfl))⟩
def x_X0_squareAt : Mx := (yX0_squareAt, cX0_squareAt, 3, (some .int))
theorem mo_X0_squareAt : MOv x_X0_squareAt 2 := ⟨⟨(mt3 _ (List.mem_of_getElem? (i := 14) rfl)), (mt1 _ (List.mem_of_getElem? (i := 2) rfl)), ⟨by decide +kernel, by decide +kernel, by decide +kernel⟩, by decide +kernel⟩, (mt3 _ (List.mem_of_getElem? (i := 12) rfl)), (mt3 _ (List.mem_of_getElem? (i := 13) rfl))⟩
def x_X0_colour : Mx := (yX0_colour, cX0_colour, 7, (some .int))
theorem mo_X0_colour : MOv x_X0_colour 3 := ⟨⟨(mt3 _ (List.mem_of_getElem? (i := 22) rfl)), (mt1 _ (List.mem_of_getElem? (i := 2) rfl)), ⟨by decide +kernel, by decide +kernel, by decide +kernel⟩, by decide +kernel⟩, (mt3 _ (List.mem_of_getElem? (i := 20) rfl)), (mt3 _ (List.mem_of_getElem? (i := 21) rfl))⟩
def x_X0_linesOf : Mx := (yX0_linesOf, cX0_linesOf, 2, (some .int))
theorem mo_X0_linesOf : MOv x_X0_linesOf 1 := ⟨⟨(mt2 _ (List.mem_of_getElem? (i := 215) rfl)), (mt1 _ (List.mem_of_getElem? (i := 2) rfl)), ⟨by decide +kernel, by decide +kernel, by decide +kernel⟩, by decide +kernel⟩, (mt2 _ (List.mem_of_getElem? (i := 213) rfl)), (mt2 _ (List.mem_of_getElem? (i := 214) rfl))⟩
def x_X0_hasLine : Mx := (yX0_hasLine, cX0_hasLine, 3, (some .boolean))
theorem mo_X0_hasLine : MOv x_X0_hasLine 2 := ⟨⟨(mt2 _ (List.mem_of_getElem? (i := 211) rfl)), (mt1 _ (List.mem_of_getElem? (i := 2) rfl)), ⟨by decide +kernel, by decide +kernel, by decide +kernel⟩, by decide +kernel⟩, (mt2 _ (List.mem_of_getElem? (i := 209) rfl)), (mt2 _ (List.mem_of_getElem? (i := 210) rfl))⟩
def x_X0_squaresOf : Mx := (yX0_squaresOf, cX0_squaresOf, 3, (some .long))
theorem mo_X0_squaresOf : MOv x_X0_squaresOf 2 := ⟨⟨(mt3 _ (List.mem_of_getElem? (i := 37) rfl)), (mt1 _ (List.mem_of_getElem? (i := 2) rfl)), ⟨by decide +kernel, by decide +kernel, by decide +kernel⟩, by decide +kernel⟩, (mt3 _ (List.mem_of_getElem? (i := 35) rfl)), (mt3 _ (List.mem_of_getElem? (i := 36) rfl))⟩
def x_X0_columnSquares : Mx := (yX0_columnSquares, cX0_columnSquares, 2, (some .long))
theorem mo_X0_columnSquares : MOv x_X0_columnSquares 1 := ⟨⟨(mt3 _ (List.mem_of_getElem? (i := 46) rfl)), (mt1 _ (List.mem_of_getElem? (i := 2) rfl)), ⟨by decide +kernel, by decide +kernel, by decide +kernel⟩, by decide +kernel⟩, (mt3 _ (List.mem_of_getElem? (i := 45) rfl)), (mp _ (List.mem_of_getElem? (i := 12) rfl : (yX0_columnSquares, 4) ∈ lw_privs))⟩
def x_X0_slantSquares : Mx := (yX0_slantSquares, cX0_slantSquares, 5, (some .long))
theorem mo_X0_slantSquares : MOv x_X0_slantSquares 1 := ⟨⟨(mt3 _ (List.mem_of_getElem? (i := 51) rfl)), (mt1 _ (List.mem_of_getElem? (i := 2) rfl)), ⟨by decide +kernel, by decide +kernel, by decide +kernel⟩, by decide +kernel⟩, (mt3 _ (List.mem_of_getElem? (i := 50) rfl)), (mp _ (List.mem_of_getElem? (i := 13) rfl : (yX0_slantSquares, 4) ∈ lw_privs))⟩
def x_X0_squaresTurned : Mx := (yX0_squaresTurned, cX0_squaresTurned, 6, (some .long))
theorem mo_X0_squaresTurned : MOv x_X0_squaresTurned 2 := ⟨⟨(mt3 _ (List.mem_of_getElem? (i := 75) rfl)), (mt1 _ (List.mem_of_getElem? (i := 2) rfl)), ⟨by decide +kernel, by decide +kernel, by decide +kernel⟩, by decide +kernel⟩, (mt3 _ (List.mem_of_getElem? (i := 73) rfl)), (mt3 _ (List.mem_of_getElem? (i := 74) rfl))⟩
def x_X0_columnsOfFirstRow : Mx := (yX0_columnsOfFirstRow, cX0_columnsOfFirstRow, 3, (some .int))
theorem mo_X0_columnsOfFirstRow : MOv x_X0_columnsOfFirstRow 1 := ⟨⟨(mt3 _ (List.mem_of_getElem? (i := 98) rfl)), (mt1 _ (List.mem_of_getElem? (i := 2) rfl)), ⟨by decide +kernel, by decide +kernel, by decide +kernel⟩, by decide +kernel⟩, (mt3 _ (List.mem_of_getElem? (i := 96) rfl)), (mt3 _ (List.mem_of_getElem? (i := 97) rfl))⟩
def x_X0_rowsUnlikeFirst : Mx := (yX0_rowsUnlikeFirst, cX0_rowsUnlikeFirst, 5, (some .int))
theorem mo_X0_rowsUnlikeFirst : MOv x_X0_rowsUnlikeFirst 1 := ⟨⟨(mt3 _ (List.mem_of_getElem? (i := 94) rfl)), (mt1 _ (List.mem_of_getElem? (i := 2) rfl)), ⟨by decide +kernel, by decide +kernel, by decide +kernel⟩, by decide +kernel⟩, (mt3 _ (List.mem_of_getElem? (i := 92) rfl)), (mt3 _ (List.mem_of_getElem? (i := 93) rfl))⟩
def x_X0_formOf : Mx := (yX0_formOf, cX0_formOf, 3, (some .long))
theorem mo_X0_formOf : MOv x_X0_formOf 1 := ⟨⟨(mt3 _ (List.mem_of_getElem? (i := 90) rfl)), (mt1 _ (List.mem_of_getElem? (i := 2) rfl)), ⟨by decide +kernel, by decide +kernel, by decide +kernel⟩, by decide +kernel⟩, (mt3 _ (List.mem_of_getElem? (i := 88) rfl)), (mt3 _ (List.mem_of_getElem? (i := 89) rfl))⟩
def x_X0_rotateBy : Mx := (yX0_rotateBy, cX0_rotateBy, 3, none)
theorem mo_X0_rotateBy : MOv x_X0_rotateBy 1 := ⟨⟨(mt4 _ (List.mem_of_getElem? (i := 15) rfl)), (mt1 _ (List.mem_of_getElem? (i := 2) rfl)), ⟨by decide +kernel, by decide +kernel, by decide +kernel⟩, by decide +kernel⟩, (mt4 _ (List.mem_of_getElem? (i := 13) rfl)), (mt4 _ (List.mem_of_getElem? (i := 14) rfl))⟩
def x_X0_mirror : Mx := (yX0_mirror, cX0_mirror, 5, none)
theorem mo_X0_mirror : MOv x_X0_mirror 0 := ⟨⟨(mt4 _ (List.mem_of_getElem? (i := 19) rfl)), (mt1 _ (List.mem_of_getElem? (i := 2) rfl)), ⟨by decide +kernel, by decide +kernel, by decide +kernel⟩, by decide +kernel⟩, (mt4 _ (List.mem_of_getElem? (i := 18) rfl)), (mp _ (List.mem_of_getElem? (i := 23) rfl : (yX0_mirror, 4) ∈ lw_privs))⟩
def x_X0_quarterRight : Mx := (yX0_quarterRight, cX0_quarterRight, 5, none)
theorem mo_X0_quarterRight : MOv x_X0_quarterRight 0 := ⟨⟨(mt4 _ (List.mem_of_getElem? (i := 23) rfl)), (mt1 _ (List.mem_of_getElem? (i := 2) rfl)), ⟨by decide +kernel, by decide +kernel, by decide +kernel⟩, by decide +kernel⟩, (mt4 _ (List.mem_of_getElem? (i := 22) rfl)), (mp _ (List.mem_of_getElem? (i := 24) rfl : (yX0_quarterRight, 4) ∈ lw_privs))⟩
def x_X1_init : Mx := (yX1_init, cX1_init, 1, none)
theorem mo_X1_init : MOi x_X1_init 0 := ⟨⟨(mt1 _ (List.mem_of_getElem? (i := 62) rfl)), (mt1 _ (List.mem_of_getElem? (i := 3) rfl)), ⟨by decide +kernel, by decide +kernel, by decide +kernel⟩, by decide +kernel⟩, (mt1 _ (List.mem_of_getElem? (i := 61) rfl)), rfl⟩
def x_X1_clear : Mx := (yX1_clear, cX1_clear, 1, none)
theorem mo_X1_clear : MOv x_X1_clear 0 := ⟨⟨(mt2 _ (List.mem_of_getElem? (i := 66) rfl)), (mt1 _ (List.mem_of_getElem? (i := 3) rfl)), ⟨by decide +kernel, by decide +kernel, by decide +kernel⟩, by decide +kernel⟩, (mt2 _ (List.mem_of_getElem? (i := 64) rfl)), (mt2 _ (List.mem_of_getElem? (i := 65) rfl))⟩
def x_X1_become : Mx := (yX1_become, cX1_become, 3, none)
theorem mo_X1_become : MOv x_X1_become 1 := ⟨⟨(mt2 _ (List.mem_of_getElem? (i := 223) rfl)), (mt1 _ (List.mem_of_getElem? (i := 3) rfl)), ⟨by decide +kernel, by decide +kernel, by decide +kernel⟩, by decide +kernel⟩, (mt2 _ (List.mem_of_getElem? (i := 221) rfl)), (mt2 _ (List.mem_of_getElem? (i := 222) rfl))⟩
def x_X1_begin : Mx := (yX1_begin, cX1_begin, 1, none)
theorem mo_X1_begin : MOv x_X1_begin 0 := ⟨⟨(mt2 _ (List.mem_of_getElem? (i := 167) rfl)), (mt1 _ (List.mem_of_getElem? (i := 3) rfl)), ⟨by decide +kernel, by decide +kernel, by decide +kernel⟩, by decide +kernel⟩, (mt2 _ (List.mem_of_getElem? (i := 165) rfl)), (mt2 _ (List.mem_of_getElem? (i := 166) rfl))⟩
def x_X1_add : Mx := (yX1_add, cX1_add, 5, none)
theorem mo_X1_add : MOv x_X1_add 2 := ⟨⟨(mt2 _ (List.mem_of_getElem? (i := 182) rfl)), (mt1 _ (List.mem_of_getElem? (i := 3) rfl)), ⟨by decide +kernel, by decide +kernel, by decide +kernel⟩, by decide +kernel⟩, (mt2 _ (List.mem_of_getElem? (i := 180) rfl)), (mt2 _ (List.mem_of_getElem? (i := 181) rfl))⟩
def x_X1_actsOf : Mx := (yX1_actsOf, cX1_actsOf, 2, (some .int))
theorem mo_X1_actsOf : MOv x_X1_actsOf 1 := ⟨⟨(mt2 _ (List.mem_of_getElem? (i := 186) rfl)), (mt1 _ (List.mem_of_getElem? (i := 3) rfl)), ⟨by decide +kernel, by decide +kernel, by decide +kernel⟩, by decide +kernel⟩, (mt2 _ (List.mem_of_getElem? (i := 184) rfl)), (mt2 _ (List.mem_of_getElem? (i := 185) rfl))⟩
def x_X1_codeOf : Mx := (yX1_codeOf, cX1_codeOf, 4, (some .int))
theorem mo_X1_codeOf : MOv x_X1_codeOf 2 := ⟨⟨(mt2 _ (List.mem_of_getElem? (i := 203) rfl)), (mt1 _ (List.mem_of_getElem? (i := 3) rfl)), ⟨by decide +kernel, by decide +kernel, by decide +kernel⟩, by decide +kernel⟩, (mt2 _ (List.mem_of_getElem? (i := 201) rfl)), (mt2 _ (List.mem_of_getElem? (i := 202) rfl))⟩
def x_X1_kindOf : Mx := (yX1_kindOf, cX1_kindOf, 3, (some .int))
theorem mo_X1_kindOf : MOv x_X1_kindOf 2 := ⟨⟨(mt2 _ (List.mem_of_getElem? (i := 199) rfl)), (mt1 _ (List.mem_of_getElem? (i := 3) rfl)), ⟨by decide +kernel, by decide +kernel, by decide +kernel⟩, by decide +kernel⟩, (mt2 _ (List.mem_of_getElem? (i := 197) rfl)), (mt2 _ (List.mem_of_getElem? (i := 198) rfl))⟩
def x_X1_numberOf : Mx := (yX1_numberOf, cX1_numberOf, 3, (some .int))
theorem mo_X1_numberOf : MOv x_X1_numberOf 2 := ⟨⟨(mt2 _ (List.mem_of_getElem? (i := 207) rfl)), (mt1 _ (List.mem_of_getElem? (i := 3) rfl)), ⟨by decide +kernel, by decide +kernel, by decide +kernel⟩, by decide +kernel⟩, (mt2 _ (List.mem_of_getElem? (i := 205) rfl)), (mt2 _ (List.mem_of_getElem? (i := 206) rfl))⟩
def x_X2_init : Mx := (yX2_init, cX2_init, 1, none)
theorem mo_X2_init : MOi x_X2_init 0 := ⟨⟨(mt1 _ (List.mem_of_getElem? (i := 216) rfl)), (mt1 _ (List.mem_of_getElem? (i := 9) rfl)), ⟨by decide +kernel, by decide +kernel, by decide +kernel⟩, by decide +kernel⟩, (mt1 _ (List.mem_of_getElem? (i := 215) rfl)), rfl⟩
def x_X2_find : Mx := (yX2_find, cX2_find, 7, none)
theorem mo_X2_find : MOv x_X2_find 2 := ⟨⟨(mt4 _ (List.mem_of_getElem? (i := 55) rfl)), (mt1 _ (List.mem_of_getElem? (i := 9) rfl)), ⟨by decide +kernel, by decide +kernel, by decide +kernel⟩, by decide +kernel⟩, (mt4 _ (List.mem_of_getElem? (i := 53) rfl)), (mt4 _ (List.mem_of_getElem? (i := 54) rfl))⟩
def x_X2_sameAs : Mx := (yX2_sameAs, cX2_sameAs, 2, (some .boolean))
theorem mo_X2_sameAs : MOv x_X2_sameAs 1 := ⟨⟨(mt4 _ (List.mem_of_getElem? (i := 66) rfl)), (mt1 _ (List.mem_of_getElem? (i := 9) rfl)), ⟨by decide +kernel, by decide +kernel, by decide +kernel⟩, by decide +kernel⟩, (mt4 _ (List.mem_of_getElem? (i := 64) rfl)), (mt4 _ (List.mem_of_getElem? (i := 65) rfl))⟩
def x_X3_init : Mx := (yX3_init, cX3_init, 1, none)
theorem mo_X3_init : MOi x_X3_init 0 := ⟨⟨(mt1 _ (List.mem_of_getElem? (i := 149) rfl)), (mt1 _ (List.mem_of_getElem? (i := 7) rfl)), ⟨by decide +kernel, by decide +kernel, by decide +kernel⟩, by decide +kernel⟩, (mt1 _ (List.mem_of_getElem? (i := 148) rfl)), rfl⟩
def x_X3_isNothing : Mx := (yX3_isNothing, cX3_isNothing, 1, (some .boolean))
theorem mo_X3_isNothing : MOv x_X3_isNothing 0 := ⟨⟨(mt4 _ (List.mem_of_getElem? (i := 97) rfl)), (mt1 _ (List.mem_of_getElem? (i := 7) rfl)), ⟨by decide +kernel, by decide +kernel, by decide +kernel⟩, by decide +kernel⟩, (mt4 _ (List.mem_of_getElem? (i := 95) rfl)), (mt4 _ (List.mem_of_getElem? (i := 96) rfl))⟩
def x_X3_renew : Mx := (yX3_renew, cX3_renew, 4, none)
theorem mo_X3_renew : MOv x_X3_renew 2 := ⟨⟨(mt4 _ (List.mem_of_getElem? (i := 89) rfl)), (mt1 _ (List.mem_of_getElem? (i := 7) rfl)), ⟨by decide +kernel, by decide +kernel, by decide +kernel⟩, by decide +kernel⟩, (mt4 _ (List.mem_of_getElem? (i := 87) rfl)), (mt4 _ (List.mem_of_getElem? (i := 88) rfl))⟩
def x_X3_put : Mx := (yX3_put, cX3_put, 3, (some .boolean))
theorem mo_X3_put : MOv x_X3_put 2 := ⟨⟨(mt4 _ (List.mem_of_getElem? (i := 101) rfl)), (mt1 _ (List.mem_of_getElem? (i := 7) rfl)), ⟨by decide +kernel, by decide +kernel, by decide +kernel⟩, by decide +kernel⟩, (mt4 _ (List.mem_of_getElem? (i := 99) rfl)), (mt4 _ (List.mem_of_getElem? (i := 100) rfl))⟩
def x_X3_cell : Mx := (yX3_cell, cX3_cell, 2, (some .int))
theorem mo_X3_cell : MOv x_X3_cell 1 := ⟨⟨(mt4 _ (List.mem_of_getElem? (i := 119) rfl)), (mt1 _ (List.mem_of_getElem? (i := 7) rfl)), ⟨by decide +kernel, by decide +kernel, by decide +kernel⟩, by decide +kernel⟩, (mt4 _ (List.mem_of_getElem? (i := 117) rfl)), (mt4 _ (List.mem_of_getElem? (i := 118) rfl))⟩
def x_X3_faultOfLane : Mx := (yX3_faultOfLane, cX3_faultOfLane, 2, (some .int))
theorem mo_X3_faultOfLane : MOv x_X3_faultOfLane 1 := ⟨⟨(mt4 _ (List.mem_of_getElem? (i := 109) rfl)), (mt1 _ (List.mem_of_getElem? (i := 7) rfl)), ⟨by decide +kernel, by decide +kernel, by decide +kernel⟩, by decide +kernel⟩, (mt4 _ (List.mem_of_getElem? (i := 107) rfl)), (mt4 _ (List.mem_of_getElem? (i := 108) rfl))⟩
def x_X3_pairsFrom : Mx := (yX3_pairsFrom, cX3_pairsFrom, 2, (some .int))
theorem mo_X3_pairsFrom : MOv x_X3_pairsFrom 1 := ⟨⟨(mt4 _ (List.mem_of_getElem? (i := 114) rfl)), (mt1 _ (List.mem_of_getElem? (i := 7) rfl)), ⟨by decide +kernel, by decide +kernel, by decide +kernel⟩, by decide +kernel⟩, (mt4 _ (List.mem_of_getElem? (i := 112) rfl)), (mt4 _ (List.mem_of_getElem? (i := 113) rfl))⟩
def x_X4_init : Mx := (yX4_init, cX4_init, 2, none)
theorem mo_X4_init : MOi x_X4_init 0 := ⟨⟨(mt1 _ (List.mem_of_getElem? (i := 142) rfl)), (mt1 _ (List.mem_of_getElem? (i := 6) rfl)), ⟨by decide +kernel, by decide +kernel, by decide +kernel⟩, by decide +kernel⟩, (mt1 _ (List.mem_of_getElem? (i := 141) rfl)), rfl⟩
def x_X4_at : Mx := (yX4_at, cX4_at, 2, (some (.object "RowsColumns$Sheet")))
theorem mo_X4_at : MOv x_X4_at 1 := ⟨⟨(mt4 _ (List.mem_of_getElem? (i := 82) rfl)), (mt1 _ (List.mem_of_getElem? (i := 6) rfl)), ⟨by decide +kernel, by decide +kernel, by decide +kernel⟩, by decide +kernel⟩, (mt4 _ (List.mem_of_getElem? (i := 80) rfl)), (mt4 _ (List.mem_of_getElem? (i := 81) rfl))⟩
def x_X4_cellsOf : Mx := (yX4_cellsOf, cX4_cellsOf, 3, (some .int))
theorem mo_X4_cellsOf : MOv x_X4_cellsOf 1 := ⟨⟨(mt4 _ (List.mem_of_getElem? (i := 131) rfl)), (mt1 _ (List.mem_of_getElem? (i := 6) rfl)), ⟨by decide +kernel, by decide +kernel, by decide +kernel⟩, by decide +kernel⟩, (mt4 _ (List.mem_of_getElem? (i := 129) rfl)), (mt4 _ (List.mem_of_getElem? (i := 130) rfl))⟩
def x_X5_init : Mx := (yX5_init, cX5_init, 1, none)
theorem mo_X5_init : MOi x_X5_init 0 := ⟨⟨(mt1 _ (List.mem_of_getElem? (i := 81) rfl)), (mt1 _ (List.mem_of_getElem? (i := 4) rfl)), ⟨by decide +kernel, by decide +kernel, by decide +kernel⟩, by decide +kernel⟩, (mt1 _ (List.mem_of_getElem? (i := 80) rfl)), rfl⟩
def x_X5_add : Mx := (yX5_add, cX5_add, 5, (some .boolean))
theorem mo_X5_add : MOv x_X5_add 1 := ⟨⟨(mt2 _ (List.mem_of_getElem? (i := 46) rfl)), (mt1 _ (List.mem_of_getElem? (i := 4) rfl)), ⟨by decide +kernel, by decide +kernel, by decide +kernel⟩, by decide +kernel⟩, (mt2 _ (List.mem_of_getElem? (i := 44) rfl)), (mt2 _ (List.mem_of_getElem? (i := 45) rfl))⟩
def x_X5_byteAt : Mx := (yX5_byteAt, cX5_byteAt, 2, (some .int))
theorem mo_X5_byteAt : MOv x_X5_byteAt 1 := ⟨⟨(mt2 _ (List.mem_of_getElem? (i := 78) rfl)), (mt1 _ (List.mem_of_getElem? (i := 4) rfl)), ⟨by decide +kernel, by decide +kernel, by decide +kernel⟩, by decide +kernel⟩, (mt2 _ (List.mem_of_getElem? (i := 76) rfl)), (mt2 _ (List.mem_of_getElem? (i := 77) rfl))⟩
def x_X6_init : Mx := (yX6_init, cX6_init, 2, none)
theorem mo_X6_init : MOi x_X6_init 1 := ⟨⟨(mt1 _ (List.mem_of_getElem? (i := 97) rfl)), (mt1 _ (List.mem_of_getElem? (i := 5) rfl)), ⟨by decide +kernel, by decide +kernel, by decide +kernel⟩, by decide +kernel⟩, (mt1 _ (List.mem_of_getElem? (i := 96) rfl)), rfl⟩
def x_X6_takeText : Mx := (yX6_takeText, cX6_takeText, 2, (some .int))
theorem mo_X6_takeText : MOv x_X6_takeText 0 := ⟨⟨(mt2 _ (List.mem_of_getElem? (i := 58) rfl)), (mt1 _ (List.mem_of_getElem? (i := 5) rfl)), ⟨by decide +kernel, by decide +kernel, by decide +kernel⟩, by decide +kernel⟩, (mt2 _ (List.mem_of_getElem? (i := 56) rfl)), (mt2 _ (List.mem_of_getElem? (i := 57) rfl))⟩
def x_X6_refuse : Mx := (yX6_refuse, cX6_refuse, 2, (some .boolean))
theorem mo_X6_refuse : MOv x_X6_refuse 1 := ⟨⟨(mt2 _ (List.mem_of_getElem? (i := 92) rfl)), (mt1 _ (List.mem_of_getElem? (i := 5) rfl)), ⟨by decide +kernel, by decide +kernel, by decide +kernel⟩, by decide +kernel⟩, (mt2 _ (List.mem_of_getElem? (i := 91) rfl)), (mp _ (List.mem_of_getElem? (i := 3) rfl : (yX6_refuse, 10) ∈ lw_privs))⟩
def x_X6_takeLine : Mx := (yX6_takeLine, cX6_takeLine, 1, (some .boolean))
theorem mo_X6_takeLine : MOv x_X6_takeLine 0 := ⟨⟨(mt2 _ (List.mem_of_getElem? (i := 70) rfl)), (mt1 _ (List.mem_of_getElem? (i := 5) rfl)), ⟨by decide +kernel, by decide +kernel, by decide +kernel⟩, by decide +kernel⟩, (mt2 _ (List.mem_of_getElem? (i := 69) rfl)), (mp _ (List.mem_of_getElem? (i := 0) rfl : (yX6_takeLine, 10) ∈ lw_privs))⟩
def x_X6_takeRows : Mx := (yX6_takeRows, cX6_takeRows, 3, (some .boolean))
theorem mo_X6_takeRows : MOv x_X6_takeRows 1 := ⟨⟨(mt2 _ (List.mem_of_getElem? (i := 149) rfl)), (mt1 _ (List.mem_of_getElem? (i := 5) rfl)), ⟨by decide +kernel, by decide +kernel, by decide +kernel⟩, by decide +kernel⟩, (mt2 _ (List.mem_of_getElem? (i := 148) rfl)), (mp _ (List.mem_of_getElem? (i := 5) rfl : (yX6_takeRows, 10) ∈ lw_privs))⟩
def x_X6_takeRow : Mx := (yX6_takeRow, cX6_takeRow, 4, (some .boolean))
theorem mo_X6_takeRow : MOv x_X6_takeRow 1 := ⟨⟨(mt2 _ (List.mem_of_getElem? (i := 153) rfl)), (mt1 _ (List.mem_of_getElem? (i := 5) rfl)), ⟨by decide +kernel, by decide +kernel, by decide +kernel⟩, by decide +kernel⟩, (mt2 _ (List.mem_of_getElem? (i := 152) rfl)), (mp _ (List.mem_of_getElem? (i := 6) rfl : (yX6_takeRow, 10) ∈ lw_privs))⟩
def x_X6_takeDay : Mx := (yX6_takeDay, cX6_takeDay, 3, (some .boolean))
theorem mo_X6_takeDay : MOv x_X6_takeDay 0 := ⟨⟨(mt2 _ (List.mem_of_getElem? (i := 163) rfl)), (mt1 _ (List.mem_of_getElem? (i := 5) rfl)), ⟨by decide +kernel, by decide +kernel, by decide +kernel⟩, by decide +kernel⟩, (mt2 _ (List.mem_of_getElem? (i := 162) rfl)), (mp _ (List.mem_of_getElem? (i := 8) rfl : (yX6_takeDay, 10) ∈ lw_privs))⟩
def x_X6_takeNumber : Mx := (yX6_takeNumber, cX6_takeNumber, 2, (some .boolean))
theorem mo_X6_takeNumber : MOv x_X6_takeNumber 1 := ⟨⟨(mt2 _ (List.mem_of_getElem? (i := 178) rfl)), (mt1 _ (List.mem_of_getElem? (i := 5) rfl)), ⟨by decide +kernel, by decide +kernel, by decide +kernel⟩, by decide +kernel⟩, (mt2 _ (List.mem_of_getElem? (i := 177) rfl)), (mp _ (List.mem_of_getElem? (i := 10) rfl : (yX6_takeNumber, 10) ∈ lw_privs))⟩
def x_X6_judgeWhole : Mx := (yX6_judgeWhole, cX6_judgeWhole, 3, none)
theorem mo_X6_judgeWhole : MOv x_X6_judgeWhole 0 := ⟨⟨(mt2 _ (List.mem_of_getElem? (i := 190) rfl)), (mt1 _ (List.mem_of_getElem? (i := 5) rfl)), ⟨by decide +kernel, by decide +kernel, by decide +kernel⟩, by decide +kernel⟩, (mt2 _ (List.mem_of_getElem? (i := 189) rfl)), (mp _ (List.mem_of_getElem? (i := 11) rfl : (yX6_judgeWhole, 10) ∈ lw_privs))⟩
def x_X6_kindNamed : Mx := (yX6_kindNamed, cX6_kindNamed, 1, (some .int))
theorem mo_X6_kindNamed : MOv x_X6_kindNamed 0 := ⟨⟨(mt2 _ (List.mem_of_getElem? (i := 171) rfl)), (mt1 _ (List.mem_of_getElem? (i := 5) rfl)), ⟨by decide +kernel, by decide +kernel, by decide +kernel⟩, by decide +kernel⟩, (mt2 _ (List.mem_of_getElem? (i := 170) rfl)), (mp _ (List.mem_of_getElem? (i := 9) rfl : (yX6_kindNamed, 10) ∈ lw_privs))⟩
def x_X6_isNamed : Mx := (yX6_isNamed, cX6_isNamed, 3, (some .boolean))
theorem mo_X6_isNamed : MOv x_X6_isNamed 1 := ⟨⟨(mt2 _ (List.mem_of_getElem? (i := 97) rfl)), (mt1 _ (List.mem_of_getElem? (i := 5) rfl)), ⟨by decide +kernel, by decide +kernel, by decide +kernel⟩, by decide +kernel⟩, (mt2 _ (List.mem_of_getElem? (i := 96) rfl)), (mp _ (List.mem_of_getElem? (i := 4) rfl : (yX6_isNamed, 10) ∈ lw_privs))⟩
def x_X6_isRow : Mx := (yX6_isRow, cX6_isRow, 3, (some .boolean))
theorem mo_X6_isRow : MOv x_X6_isRow 0 := ⟨⟨(mt2 _ (List.mem_of_getElem? (i := 157) rfl)), (mt1 _ (List.mem_of_getElem? (i := 5) rfl)), ⟨by decide +kernel, by decide +kernel, by decide +kernel⟩, by decide +kernel⟩, (mt2 _ (List.mem_of_getElem? (i := 156) rfl)), (mp _ (List.mem_of_getElem? (i := 7) rfl : (yX6_isRow, 10) ∈ lw_privs))⟩
def x_X6_step : Mx := (yX6_step, cX6_step, 1, none)
theorem mo_X6_step : MOv x_X6_step 0 := ⟨⟨(mt2 _ (List.mem_of_getElem? (i := 74) rfl)), (mt1 _ (List.mem_of_getElem? (i := 5) rfl)), ⟨by decide +kernel, by decide +kernel, by decide +kernel⟩, by decide +kernel⟩, (mt2 _ (List.mem_of_getElem? (i := 73) rfl)), (mp _ (List.mem_of_getElem? (i := 1) rfl : (yX6_step, 10) ∈ lw_privs))⟩
def x_X6_stepNumber : Mx := (yX6_stepNumber, cX6_stepNumber, 1, none)
theorem mo_X6_stepNumber : MOv x_X6_stepNumber 0 := ⟨⟨(mt2 _ (List.mem_of_getElem? (i := 88) rfl)), (mt1 _ (List.mem_of_getElem? (i := 5) rfl)), ⟨by decide +kernel, by decide +kernel, by decide +kernel⟩, by decide +kernel⟩, (mt2 _ (List.mem_of_getElem? (i := 87) rfl)), (mp _ (List.mem_of_getElem? (i := 2) rfl : (yX6_stepNumber, 10) ∈ lw_privs))⟩
def x_X6_isLetter : Mx := (yX6_isLetter, cX6_isLetter, 1, (some .boolean))
theorem mo_X6_isLetter : MOs x_X6_isLetter 1 := ⟨⟨(mt2 _ (List.mem_of_getElem? (i := 81) rfl)), (mt1 _ (List.mem_of_getElem? (i := 5) rfl)), ⟨by decide +kernel, by decide +kernel, by decide +kernel⟩, by decide +kernel⟩, (mt2 _ (List.mem_of_getElem? (i := 80) rfl))⟩
def x_X6_isFigure : Mx := (yX6_isFigure, cX6_isFigure, 1, (some .boolean))
theorem mo_X6_isFigure : MOs x_X6_isFigure 1 := ⟨⟨(mt2 _ (List.mem_of_getElem? (i := 84) rfl)), (mt1 _ (List.mem_of_getElem? (i := 5) rfl)), ⟨by decide +kernel, by decide +kernel, by decide +kernel⟩, by decide +kernel⟩, (mt2 _ (List.mem_of_getElem? (i := 83) rfl))⟩
def x_X7_init : Mx := (yX7_init, cX7_init, 1, none)
theorem mo_X7_init : MOi x_X7_init 0 := ⟨⟨(mt1 _ (List.mem_of_getElem? (i := 170) rfl)), (mt1 _ (List.mem_of_getElem? (i := 8) rfl)), ⟨by decide +kernel, by decide +kernel, by decide +kernel⟩, by decide +kernel⟩, (mt1 _ (List.mem_of_getElem? (i := 169) rfl)), rfl⟩
def x_X7_acts : Mx := (yX7_acts, cX7_acts, 1, (some .int))
theorem mo_X7_acts : MOv x_X7_acts 0 := ⟨⟨(mt3 _ (List.mem_of_getElem? (i := 133) rfl)), (mt1 _ (List.mem_of_getElem? (i := 8) rfl)), ⟨by decide +kernel, by decide +kernel, by decide +kernel⟩, by decide +kernel⟩, (mt3 _ (List.mem_of_getElem? (i := 131) rfl)), (mt3 _ (List.mem_of_getElem? (i := 132) rfl))⟩
def x_X7_take : Mx := (yX7_take, cX7_take, 4, none)
theorem mo_X7_take : MOv x_X7_take 3 := ⟨⟨(mt3 _ (List.mem_of_getElem? (i := 128) rfl)), (mt1 _ (List.mem_of_getElem? (i := 8) rfl)), ⟨by decide +kernel, by decide +kernel, by decide +kernel⟩, by decide +kernel⟩, (mt3 _ (List.mem_of_getElem? (i := 127) rfl)), (mp _ (List.mem_of_getElem? (i := 15) rfl : (yX7_take, 10) ∈ lw_privs))⟩
def x_X7_findPlan : Mx := (yX7_findPlan, cX7_findPlan, 7, none)
theorem mo_X7_findPlan : MOv x_X7_findPlan 2 := ⟨⟨(mt3 _ (List.mem_of_getElem? (i := 121) rfl)), (mt1 _ (List.mem_of_getElem? (i := 8) rfl)), ⟨by decide +kernel, by decide +kernel, by decide +kernel⟩, by decide +kernel⟩, (mt3 _ (List.mem_of_getElem? (i := 119) rfl)), (mt3 _ (List.mem_of_getElem? (i := 120) rfl))⟩
def x_X7_findNearest : Mx := (yX7_findNearest, cX7_findNearest, 5, none)
theorem mo_X7_findNearest : MOv x_X7_findNearest 2 := ⟨⟨(mt3 _ (List.mem_of_getElem? (i := 157) rfl)), (mt1 _ (List.mem_of_getElem? (i := 8) rfl)), ⟨by decide +kernel, by decide +kernel, by decide +kernel⟩, by decide +kernel⟩, (mt3 _ (List.mem_of_getElem? (i := 155) rfl)), (mt3 _ (List.mem_of_getElem? (i := 156) rfl))⟩
def x_X7_tryRows : Mx := (yX7_tryRows, cX7_tryRows, 9, none)
theorem mo_X7_tryRows : MOv x_X7_tryRows 3 := ⟨⟨(mt3 _ (List.mem_of_getElem? (i := 162) rfl)), (mt1 _ (List.mem_of_getElem? (i := 8) rfl)), ⟨by decide +kernel, by decide +kernel, by decide +kernel⟩, by decide +kernel⟩, (mt3 _ (List.mem_of_getElem? (i := 161) rfl)), (mp _ (List.mem_of_getElem? (i := 17) rfl : (yX7_tryRows, 10) ∈ lw_privs))⟩
def x_X7_goBlind : Mx := (yX7_goBlind, cX7_goBlind, 10, none)
theorem mo_X7_goBlind : MOv x_X7_goBlind 2 := ⟨⟨(mt3 _ (List.mem_of_getElem? (i := 179) rfl)), (mt1 _ (List.mem_of_getElem? (i := 8) rfl)), ⟨by decide +kernel, by decide +kernel, by decide +kernel⟩, by decide +kernel⟩, (mt3 _ (List.mem_of_getElem? (i := 177) rfl)), (mt3 _ (List.mem_of_getElem? (i := 178) rfl))⟩
def x_X7_mostUnlike : Mx := (yX7_mostUnlike, cX7_mostUnlike, 10, (some .int))
theorem mo_X7_mostUnlike : MOs x_X7_mostUnlike 3 := ⟨⟨(mt3 _ (List.mem_of_getElem? (i := 182) rfl)), (mt1 _ (List.mem_of_getElem? (i := 8) rfl)), ⟨by decide +kernel, by decide +kernel, by decide +kernel⟩, by decide +kernel⟩, (mt3 _ (List.mem_of_getElem? (i := 181) rfl))⟩
def x_X7_findSlanted : Mx := (yX7_findSlanted, cX7_findSlanted, 6, none)
theorem mo_X7_findSlanted : MOv x_X7_findSlanted 2 := ⟨⟨(mt3 _ (List.mem_of_getElem? (i := 191) rfl)), (mt1 _ (List.mem_of_getElem? (i := 8) rfl)), ⟨by decide +kernel, by decide +kernel, by decide +kernel⟩, by decide +kernel⟩, (mt3 _ (List.mem_of_getElem? (i := 189) rfl)), (mt3 _ (List.mem_of_getElem? (i := 190) rfl))⟩
def x_X7_trySlants : Mx := (yX7_trySlants, cX7_trySlants, 7, none)
theorem mo_X7_trySlants : MOv x_X7_trySlants 3 := ⟨⟨(mt3 _ (List.mem_of_getElem? (i := 195) rfl)), (mt1 _ (List.mem_of_getElem? (i := 8) rfl)), ⟨by decide +kernel, by decide +kernel, by decide +kernel⟩, by decide +kernel⟩, (mt3 _ (List.mem_of_getElem? (i := 194) rfl)), (mp _ (List.mem_of_getElem? (i := 18) rfl : (yX7_trySlants, 10) ∈ lw_privs))⟩
def x_X7_slantsThatMake : Mx := (yX7_slantsThatMake, cX7_slantsThatMake, 7, (some .int))
theorem mo_X7_slantsThatMake : MOv x_X7_slantsThatMake 1 := ⟨⟨(mt3 _ (List.mem_of_getElem? (i := 199) rfl)), (mt1 _ (List.mem_of_getElem? (i := 8) rfl)), ⟨by decide +kernel, by decide +kernel, by decide +kernel⟩, by decide +kernel⟩, (mt3 _ (List.mem_of_getElem? (i := 198) rfl)), (mp _ (List.mem_of_getElem? (i := 19) rfl : (yX7_slantsThatMake, 10) ∈ lw_privs))⟩
def x_X7_findSpoilt : Mx := (yX7_findSpoilt, cX7_findSpoilt, 7, none)
theorem mo_X7_findSpoilt : MOv x_X7_findSpoilt 2 := ⟨⟨(mt3 _ (List.mem_of_getElem? (i := 230) rfl)), (mt1 _ (List.mem_of_getElem? (i := 8) rfl)), ⟨by decide +kernel, by decide +kernel, by decide +kernel⟩, by decide +kernel⟩, (mt3 _ (List.mem_of_getElem? (i := 228) rfl)), (mt3 _ (List.mem_of_getElem? (i := 229) rfl))⟩
def x_X7_findBothSpoilt : Mx := (yX7_findBothSpoilt, cX7_findBothSpoilt, 7, none)
theorem mo_X7_findBothSpoilt : MOv x_X7_findBothSpoilt 2 := ⟨⟨(mt4 _ (List.mem_of_getElem? (i := 3) rfl)), (mt1 _ (List.mem_of_getElem? (i := 8) rfl)), ⟨by decide +kernel, by decide +kernel, by decide +kernel⟩, by decide +kernel⟩, (mt4 _ (List.mem_of_getElem? (i := 1) rfl)), (mt4 _ (List.mem_of_getElem? (i := 2) rfl))⟩
def x_X7_pairWith : Mx := (yX7_pairWith, cX7_pairWith, 6, none)
theorem mo_X7_pairWith : MOv x_X7_pairWith 3 := ⟨⟨(mt4 _ (List.mem_of_getElem? (i := 7) rfl)), (mt1 _ (List.mem_of_getElem? (i := 8) rfl)), ⟨by decide +kernel, by decide +kernel, by decide +kernel⟩, by decide +kernel⟩, (mt4 _ (List.mem_of_getElem? (i := 6) rfl)), (mp _ (List.mem_of_getElem? (i := 22) rfl : (yX7_pairWith, 10) ∈ lw_privs))⟩
def x_X8_init : Mx := (yX8_init, cX8_init, 1, none)
theorem mo_X8_init : MOi x_X8_init 0 := ⟨⟨(mt1 _ (List.mem_of_getElem? (i := 22) rfl)), (mt1 _ (List.mem_of_getElem? (i := 1) rfl)), ⟨by decide +kernel, by decide +kernel, by decide +kernel⟩, by decide +kernel⟩, (mt1 _ (List.mem_of_getElem? (i := 21) rfl)), rfl⟩
def x_X8_feed : Mx := (yX8_feed, cX8_feed, 3, (some .int))
theorem mo_X8_feed : MOv x_X8_feed 1 := ⟨⟨(mt2 _ (List.mem_of_getElem? (i := 42) rfl)), (mt1 _ (List.mem_of_getElem? (i := 1) rfl)), ⟨by decide +kernel, by decide +kernel, by decide +kernel⟩, by decide +kernel⟩, (mt2 _ (List.mem_of_getElem? (i := 40) rfl)), (mt2 _ (List.mem_of_getElem? (i := 41) rfl))⟩
def x_X8_end : Mx := (yX8_end, cX8_end, 3, (some .int))
theorem mo_X8_end : MOv x_X8_end 1 := ⟨⟨(mt2 _ (List.mem_of_getElem? (i := 50) rfl)), (mt1 _ (List.mem_of_getElem? (i := 1) rfl)), ⟨by decide +kernel, by decide +kernel, by decide +kernel⟩, by decide +kernel⟩, (mt2 _ (List.mem_of_getElem? (i := 48) rfl)), (mt2 _ (List.mem_of_getElem? (i := 49) rfl))⟩
def x_X8_text : Mx := (yX8_text, cX8_text, 2, (some .int))
theorem mo_X8_text : MOv x_X8_text 0 := ⟨⟨(mt2 _ (List.mem_of_getElem? (i := 54) rfl)), (mt1 _ (List.mem_of_getElem? (i := 1) rfl)), ⟨by decide +kernel, by decide +kernel, by decide +kernel⟩, by decide +kernel⟩, (mt2 _ (List.mem_of_getElem? (i := 52) rfl)), (mt2 _ (List.mem_of_getElem? (i := 53) rfl))⟩
def x_X8_fault : Mx := (yX8_fault, cX8_fault, 1, (some .int))
theorem mo_X8_fault : MOv x_X8_fault 0 := ⟨⟨(mt2 _ (List.mem_of_getElem? (i := 227) rfl)), (mt1 _ (List.mem_of_getElem? (i := 1) rfl)), ⟨by decide +kernel, by decide +kernel, by decide +kernel⟩, by decide +kernel⟩, (mt2 _ (List.mem_of_getElem? (i := 225) rfl)), (mt2 _ (List.mem_of_getElem? (i := 226) rfl))⟩
def x_X8_rule : Mx := (yX8_rule, cX8_rule, 2, (some .int))
theorem mo_X8_rule : MOv x_X8_rule 1 := ⟨⟨(mt2 _ (List.mem_of_getElem? (i := 231) rfl)), (mt1 _ (List.mem_of_getElem? (i := 1) rfl)), ⟨by decide +kernel, by decide +kernel, by decide +kernel⟩, by decide +kernel⟩, (mt2 _ (List.mem_of_getElem? (i := 229) rfl)), (mt2 _ (List.mem_of_getElem? (i := 230) rfl))⟩
def x_X8_day : Mx := (yX8_day, cX8_day, 3, (some .int))
theorem mo_X8_day : MOv x_X8_day 2 := ⟨⟨(mt2 _ (List.mem_of_getElem? (i := 236) rfl)), (mt1 _ (List.mem_of_getElem? (i := 1) rfl)), ⟨by decide +kernel, by decide +kernel, by decide +kernel⟩, by decide +kernel⟩, (mt2 _ (List.mem_of_getElem? (i := 234) rfl)), (mt2 _ (List.mem_of_getElem? (i := 235) rfl))⟩
def x_X8_cloth : Mx := (yX8_cloth, cX8_cloth, 2, (some .long))
theorem mo_X8_cloth : MOv x_X8_cloth 1 := ⟨⟨(mt3 _ (List.mem_of_getElem? (i := 2) rfl)), (mt1 _ (List.mem_of_getElem? (i := 1) rfl)), ⟨by decide +kernel, by decide +kernel, by decide +kernel⟩, by decide +kernel⟩, (mt3 _ (List.mem_of_getElem? (i := 0) rfl)), (mt3 _ (List.mem_of_getElem? (i := 1) rfl))⟩
def x_X8_square : Mx := (yX8_square, cX8_square, 3, (some .int))
theorem mo_X8_square : MOv x_X8_square 2 := ⟨⟨(mt3 _ (List.mem_of_getElem? (i := 6) rfl)), (mt1 _ (List.mem_of_getElem? (i := 1) rfl)), ⟨by decide +kernel, by decide +kernel, by decide +kernel⟩, by decide +kernel⟩, (mt3 _ (List.mem_of_getElem? (i := 4) rfl)), (mt3 _ (List.mem_of_getElem? (i := 5) rfl))⟩
def x_X8_paint : Mx := (yX8_paint, cX8_paint, 4, (some .int))
theorem mo_X8_paint : MOv x_X8_paint 3 := ⟨⟨(mt3 _ (List.mem_of_getElem? (i := 18) rfl)), (mt1 _ (List.mem_of_getElem? (i := 1) rfl)), ⟨by decide +kernel, by decide +kernel, by decide +kernel⟩, by decide +kernel⟩, (mt3 _ (List.mem_of_getElem? (i := 16) rfl)), (mt3 _ (List.mem_of_getElem? (i := 17) rfl))⟩
def x_X8_wish : Mx := (yX8_wish, cX8_wish, 4, (some .int))
theorem mo_X8_wish : MOv x_X8_wish 3 := ⟨⟨(mt3 _ (List.mem_of_getElem? (i := 28) rfl)), (mt1 _ (List.mem_of_getElem? (i := 1) rfl)), ⟨by decide +kernel, by decide +kernel, by decide +kernel⟩, by decide +kernel⟩, (mt3 _ (List.mem_of_getElem? (i := 26) rfl)), (mt3 _ (List.mem_of_getElem? (i := 27) rfl))⟩
def x_X8_act : Mx := (yX8_act, cX8_act, 3, (some .int))
theorem mo_X8_act : MOv x_X8_act 2 := ⟨⟨(mt3 _ (List.mem_of_getElem? (i := 32) rfl)), (mt1 _ (List.mem_of_getElem? (i := 1) rfl)), ⟨by decide +kernel, by decide +kernel, by decide +kernel⟩, by decide +kernel⟩, (mt3 _ (List.mem_of_getElem? (i := 30) rfl)), (mt3 _ (List.mem_of_getElem? (i := 31) rfl))⟩
def x_X8_turn : Mx := (yX8_turn, cX8_turn, 3, (some .int))
theorem mo_X8_turn : MOv x_X8_turn 2 := ⟨⟨(mt3 _ (List.mem_of_getElem? (i := 66) rfl)), (mt1 _ (List.mem_of_getElem? (i := 1) rfl)), ⟨by decide +kernel, by decide +kernel, by decide +kernel⟩, by decide +kernel⟩, (mt3 _ (List.mem_of_getElem? (i := 64) rfl)), (mt3 _ (List.mem_of_getElem? (i := 65) rfl))⟩
def x_X8_go : Mx := (yX8_go, cX8_go, 4, (some .int))
theorem mo_X8_go : MOv x_X8_go 1 := ⟨⟨(mt3 _ (List.mem_of_getElem? (i := 80) rfl)), (mt1 _ (List.mem_of_getElem? (i := 1) rfl)), ⟨by decide +kernel, by decide +kernel, by decide +kernel⟩, by decide +kernel⟩, (mt3 _ (List.mem_of_getElem? (i := 78) rfl)), (mt3 _ (List.mem_of_getElem? (i := 79) rfl))⟩
def x_X8_form : Mx := (yX8_form, cX8_form, 2, (some .long))
theorem mo_X8_form : MOv x_X8_form 1 := ⟨⟨(mt3 _ (List.mem_of_getElem? (i := 86) rfl)), (mt1 _ (List.mem_of_getElem? (i := 1) rfl)), ⟨by decide +kernel, by decide +kernel, by decide +kernel⟩, by decide +kernel⟩, (mt3 _ (List.mem_of_getElem? (i := 84) rfl)), (mt3 _ (List.mem_of_getElem? (i := 85) rfl))⟩
def x_X8_forms : Mx := (yX8_forms, cX8_forms, 1, (some .long))
theorem mo_X8_forms : MOv x_X8_forms 0 := ⟨⟨(mt3 _ (List.mem_of_getElem? (i := 104) rfl)), (mt1 _ (List.mem_of_getElem? (i := 1) rfl)), ⟨by decide +kernel, by decide +kernel, by decide +kernel⟩, by decide +kernel⟩, (mt3 _ (List.mem_of_getElem? (i := 102) rfl)), (mt3 _ (List.mem_of_getElem? (i := 103) rfl))⟩
def x_X8_alike : Mx := (yX8_alike, cX8_alike, 3, (some .int))
theorem mo_X8_alike : MOv x_X8_alike 1 := ⟨⟨(mt3 _ (List.mem_of_getElem? (i := 108) rfl)), (mt1 _ (List.mem_of_getElem? (i := 1) rfl)), ⟨by decide +kernel, by decide +kernel, by decide +kernel⟩, by decide +kernel⟩, (mt3 _ (List.mem_of_getElem? (i := 106) rfl)), (mt3 _ (List.mem_of_getElem? (i := 107) rfl))⟩
def x_X8_plan : Mx := (yX8_plan, cX8_plan, 2, (some .int))
theorem mo_X8_plan : MOv x_X8_plan 1 := ⟨⟨(mt3 _ (List.mem_of_getElem? (i := 117) rfl)), (mt1 _ (List.mem_of_getElem? (i := 1) rfl)), ⟨by decide +kernel, by decide +kernel, by decide +kernel⟩, by decide +kernel⟩, (mt3 _ (List.mem_of_getElem? (i := 115) rfl)), (mt3 _ (List.mem_of_getElem? (i := 116) rfl))⟩
def x_X8_nearest : Mx := (yX8_nearest, cX8_nearest, 2, (some .int))
theorem mo_X8_nearest : MOv x_X8_nearest 1 := ⟨⟨(mt3 _ (List.mem_of_getElem? (i := 153) rfl)), (mt1 _ (List.mem_of_getElem? (i := 1) rfl)), ⟨by decide +kernel, by decide +kernel, by decide +kernel⟩, by decide +kernel⟩, (mt3 _ (List.mem_of_getElem? (i := 151) rfl)), (mt3 _ (List.mem_of_getElem? (i := 152) rfl))⟩
def x_X8_lightest : Mx := (yX8_lightest, cX8_lightest, 2, (some .int))
theorem mo_X8_lightest : MOv x_X8_lightest 1 := ⟨⟨(mt3 _ (List.mem_of_getElem? (i := 171) rfl)), (mt1 _ (List.mem_of_getElem? (i := 1) rfl)), ⟨by decide +kernel, by decide +kernel, by decide +kernel⟩, by decide +kernel⟩, (mt3 _ (List.mem_of_getElem? (i := 169) rfl)), (mt3 _ (List.mem_of_getElem? (i := 170) rfl))⟩
def x_X8_blind : Mx := (yX8_blind, cX8_blind, 2, (some .int))
theorem mo_X8_blind : MOv x_X8_blind 1 := ⟨⟨(mt3 _ (List.mem_of_getElem? (i := 175) rfl)), (mt1 _ (List.mem_of_getElem? (i := 1) rfl)), ⟨by decide +kernel, by decide +kernel, by decide +kernel⟩, by decide +kernel⟩, (mt3 _ (List.mem_of_getElem? (i := 173) rfl)), (mt3 _ (List.mem_of_getElem? (i := 174) rfl))⟩
def x_X8_slanted : Mx := (yX8_slanted, cX8_slanted, 2, (some .int))
theorem mo_X8_slanted : MOv x_X8_slanted 1 := ⟨⟨(mt3 _ (List.mem_of_getElem? (i := 187) rfl)), (mt1 _ (List.mem_of_getElem? (i := 1) rfl)), ⟨by decide +kernel, by decide +kernel, by decide +kernel⟩, by decide +kernel⟩, (mt3 _ (List.mem_of_getElem? (i := 185) rfl)), (mt3 _ (List.mem_of_getElem? (i := 186) rfl))⟩
def x_X8_power : Mx := (yX8_power, cX8_power, 2, (some .int))
theorem mo_X8_power : MOv x_X8_power 1 := ⟨⟨(mt3 _ (List.mem_of_getElem? (i := 203) rfl)), (mt1 _ (List.mem_of_getElem? (i := 1) rfl)), ⟨by decide +kernel, by decide +kernel, by decide +kernel⟩, by decide +kernel⟩, (mt3 _ (List.mem_of_getElem? (i := 201) rfl)), (mt3 _ (List.mem_of_getElem? (i := 202) rfl))⟩
def x_X8_duel : Mx := (yX8_duel, cX8_duel, 9, (some .int))
theorem mo_X8_duel : MOv x_X8_duel 3 := ⟨⟨(mt3 _ (List.mem_of_getElem? (i := 211) rfl)), (mt1 _ (List.mem_of_getElem? (i := 1) rfl)), ⟨by decide +kernel, by decide +kernel, by decide +kernel⟩, by decide +kernel⟩, (mt3 _ (List.mem_of_getElem? (i := 209) rfl)), (mt3 _ (List.mem_of_getElem? (i := 210) rfl))⟩
def x_X8_turned : Mx := (yX8_turned, cX8_turned, 4, (some .int))
theorem mo_X8_turned : MOv x_X8_turned 2 := ⟨⟨(mt3 _ (List.mem_of_getElem? (i := 222) rfl)), (mt1 _ (List.mem_of_getElem? (i := 1) rfl)), ⟨by decide +kernel, by decide +kernel, by decide +kernel⟩, by decide +kernel⟩, (mt3 _ (List.mem_of_getElem? (i := 220) rfl)), (mt3 _ (List.mem_of_getElem? (i := 221) rfl))⟩
def x_X8_spoilt : Mx := (yX8_spoilt, cX8_spoilt, 2, (some .int))
theorem mo_X8_spoilt : MOv x_X8_spoilt 1 := ⟨⟨(mt3 _ (List.mem_of_getElem? (i := 226) rfl)), (mt1 _ (List.mem_of_getElem? (i := 1) rfl)), ⟨by decide +kernel, by decide +kernel, by decide +kernel⟩, by decide +kernel⟩, (mt3 _ (List.mem_of_getElem? (i := 224) rfl)), (mt3 _ (List.mem_of_getElem? (i := 225) rfl))⟩
def x_X8_both : Mx := (yX8_both, cX8_both, 2, (some .int))
theorem mo_X8_both : MOv x_X8_both 1 := ⟨⟨(mt3 _ (List.mem_of_getElem? (i := 239) rfl)), (mt1 _ (List.mem_of_getElem? (i := 1) rfl)), ⟨by decide +kernel, by decide +kernel, by decide +kernel⟩, by decide +kernel⟩, (mt3 _ (List.mem_of_getElem? (i := 237) rfl)), (mt3 _ (List.mem_of_getElem? (i := 238) rfl))⟩
def x_X8_rotate : Mx := (yX8_rotate, cX8_rotate, 2, (some .int))
theorem mo_X8_rotate : MOv x_X8_rotate 1 := ⟨⟨(mt4 _ (List.mem_of_getElem? (i := 11) rfl)), (mt1 _ (List.mem_of_getElem? (i := 1) rfl)), ⟨by decide +kernel, by decide +kernel, by decide +kernel⟩, by decide +kernel⟩, (mt4 _ (List.mem_of_getElem? (i := 9) rfl)), (mt4 _ (List.mem_of_getElem? (i := 10) rfl))⟩
def x_X8_cut : Mx := (yX8_cut, cX8_cut, 5, (some .int))
theorem mo_X8_cut : MOv x_X8_cut 4 := ⟨⟨(mt4 _ (List.mem_of_getElem? (i := 28) rfl)), (mt1 _ (List.mem_of_getElem? (i := 1) rfl)), ⟨by decide +kernel, by decide +kernel, by decide +kernel⟩, by decide +kernel⟩, (mt4 _ (List.mem_of_getElem? (i := 26) rfl)), (mt4 _ (List.mem_of_getElem? (i := 27) rfl))⟩
def x_X8_sew : Mx := (yX8_sew, cX8_sew, 8, (some .int))
theorem mo_X8_sew : MOv x_X8_sew 2 := ⟨⟨(mt4 _ (List.mem_of_getElem? (i := 47) rfl)), (mt1 _ (List.mem_of_getElem? (i := 1) rfl)), ⟨by decide +kernel, by decide +kernel, by decide +kernel⟩, by decide +kernel⟩, (mt4 _ (List.mem_of_getElem? (i := 45) rfl)), (mt4 _ (List.mem_of_getElem? (i := 46) rfl))⟩
def x_X8_name : Mx := (yX8_name, cX8_name, 2, (some .long))
theorem mo_X8_name : MOv x_X8_name 1 := ⟨⟨(mt4 _ (List.mem_of_getElem? (i := 51) rfl)), (mt1 _ (List.mem_of_getElem? (i := 1) rfl)), ⟨by decide +kernel, by decide +kernel, by decide +kernel⟩, by decide +kernel⟩, (mt4 _ (List.mem_of_getElem? (i := 49) rfl)), (mt4 _ (List.mem_of_getElem? (i := 50) rfl))⟩
def x_X8_cousin : Mx := (yX8_cousin, cX8_cousin, 3, (some .int))
theorem mo_X8_cousin : MOv x_X8_cousin 1 := ⟨⟨(mt4 _ (List.mem_of_getElem? (i := 62) rfl)), (mt1 _ (List.mem_of_getElem? (i := 1) rfl)), ⟨by decide +kernel, by decide +kernel, by decide +kernel⟩, by decide +kernel⟩, (mt4 _ (List.mem_of_getElem? (i := 60) rfl)), (mt4 _ (List.mem_of_getElem? (i := 61) rfl))⟩
def x_X8_keep : Mx := (yX8_keep, cX8_keep, 4, (some .int))
theorem mo_X8_keep : MOv x_X8_keep 1 := ⟨⟨(mt4 _ (List.mem_of_getElem? (i := 70) rfl)), (mt1 _ (List.mem_of_getElem? (i := 1) rfl)), ⟨by decide +kernel, by decide +kernel, by decide +kernel⟩, by decide +kernel⟩, (mt4 _ (List.mem_of_getElem? (i := 68) rfl)), (mt4 _ (List.mem_of_getElem? (i := 69) rfl))⟩
def x_X8_back : Mx := (yX8_back, cX8_back, 3, (some .int))
theorem mo_X8_back : MOv x_X8_back 1 := ⟨⟨(mt4 _ (List.mem_of_getElem? (i := 74) rfl)), (mt1 _ (List.mem_of_getElem? (i := 1) rfl)), ⟨by decide +kernel, by decide +kernel, by decide +kernel⟩, by decide +kernel⟩, (mt4 _ (List.mem_of_getElem? (i := 72) rfl)), (mt4 _ (List.mem_of_getElem? (i := 73) rfl))⟩
def x_X8_sheet : Mx := (yX8_sheet, cX8_sheet, 5, (some .int))
theorem mo_X8_sheet : MOv x_X8_sheet 3 := ⟨⟨(mt4 _ (List.mem_of_getElem? (i := 78) rfl)), (mt1 _ (List.mem_of_getElem? (i := 1) rfl)), ⟨by decide +kernel, by decide +kernel, by decide +kernel⟩, by decide +kernel⟩, (mt4 _ (List.mem_of_getElem? (i := 76) rfl)), (mt4 _ (List.mem_of_getElem? (i := 77) rfl))⟩
def x_X8_lay : Mx := (yX8_lay, cX8_lay, 5, (some .int))
theorem mo_X8_lay : MOv x_X8_lay 3 := ⟨⟨(mt4 _ (List.mem_of_getElem? (i := 93) rfl)), (mt1 _ (List.mem_of_getElem? (i := 1) rfl)), ⟨by decide +kernel, by decide +kernel, by decide +kernel⟩, by decide +kernel⟩, (mt4 _ (List.mem_of_getElem? (i := 91) rfl)), (mt4 _ (List.mem_of_getElem? (i := 92) rfl))⟩
def x_X8_read : Mx := (yX8_read, cX8_read, 9, (some .int))
theorem mo_X8_read : MOv x_X8_read 4 := ⟨⟨(mt4 _ (List.mem_of_getElem? (i := 105) rfl)), (mt1 _ (List.mem_of_getElem? (i := 1) rfl)), ⟨by decide +kernel, by decide +kernel, by decide +kernel⟩, by decide +kernel⟩, (mt4 _ (List.mem_of_getElem? (i := 103) rfl)), (mt4 _ (List.mem_of_getElem? (i := 104) rfl))⟩
def x_X8_torn : Mx := (yX8_torn, cX8_torn, 1, (some .int))
theorem mo_X8_torn : MOv x_X8_torn 0 := ⟨⟨(mt4 _ (List.mem_of_getElem? (i := 123) rfl)), (mt1 _ (List.mem_of_getElem? (i := 1) rfl)), ⟨by decide +kernel, by decide +kernel, by decide +kernel⟩, by decide +kernel⟩, (mt4 _ (List.mem_of_getElem? (i := 121) rfl)), (mt4 _ (List.mem_of_getElem? (i := 122) rfl))⟩
def x_X8_count : Mx := (yX8_count, cX8_count, 2, (some .int))
theorem mo_X8_count : MOv x_X8_count 1 := ⟨⟨(mt4 _ (List.mem_of_getElem? (i := 127) rfl)), (mt1 _ (List.mem_of_getElem? (i := 1) rfl)), ⟨by decide +kernel, by decide +kernel, by decide +kernel⟩, by decide +kernel⟩, (mt4 _ (List.mem_of_getElem? (i := 125) rfl)), (mt4 _ (List.mem_of_getElem? (i := 126) rfl))⟩
def x_X8_imageOf : Mx := (yX8_imageOf, cX8_imageOf, 2, (some (.object "RowsColumns$Cloth")))
theorem mo_X8_imageOf : MOv x_X8_imageOf 1 := ⟨⟨(mt3 _ (List.mem_of_getElem? (i := 112) rfl)), (mt1 _ (List.mem_of_getElem? (i := 1) rfl)), ⟨by decide +kernel, by decide +kernel, by decide +kernel⟩, by decide +kernel⟩, (mt3 _ (List.mem_of_getElem? (i := 111) rfl)), (mp _ (List.mem_of_getElem? (i := 14) rfl : (yX8_imageOf, 15) ∈ lw_privs))⟩
def x_X8_forgetPlans : Mx := (yX8_forgetPlans, cX8_forgetPlans, 1, none)
theorem mo_X8_forgetPlans : MOv x_X8_forgetPlans 0 := ⟨⟨(mt4 _ (List.mem_of_getElem? (i := 43) rfl)), (mt1 _ (List.mem_of_getElem? (i := 1) rfl)), ⟨by decide +kernel, by decide +kernel, by decide +kernel⟩, by decide +kernel⟩, (mt4 _ (List.mem_of_getElem? (i := 42) rfl)), (mp _ (List.mem_of_getElem? (i := 25) rfl : (yX8_forgetPlans, 15) ∈ lw_privs))⟩
def x_X8_toldOf : Mx := (yX8_toldOf, cX8_toldOf, 3, (some .int))
theorem mo_X8_toldOf : MOv x_X8_toldOf 2 := ⟨⟨(mt3 _ (List.mem_of_getElem? (i := 149) rfl)), (mt1 _ (List.mem_of_getElem? (i := 1) rfl)), ⟨by decide +kernel, by decide +kernel, by decide +kernel⟩, by decide +kernel⟩, (mt3 _ (List.mem_of_getElem? (i := 148) rfl)), (mp _ (List.mem_of_getElem? (i := 16) rfl : (yX8_toldOf, 15) ∈ lw_privs))⟩
def x_X8_spoiltTold : Mx := (yX8_spoiltTold, cX8_spoiltTold, 2, (some .int))
theorem mo_X8_spoiltTold : MOv x_X8_spoiltTold 1 := ⟨⟨(mt3 _ (List.mem_of_getElem? (i := 235) rfl)), (mt1 _ (List.mem_of_getElem? (i := 1) rfl)), ⟨by decide +kernel, by decide +kernel, by decide +kernel⟩, by decide +kernel⟩, (mt3 _ (List.mem_of_getElem? (i := 234) rfl)), (mp _ (List.mem_of_getElem? (i := 21) rfl : (yX8_spoiltTold, 15) ∈ lw_privs))⟩
def x_X8_isPart : Mx := (yX8_isPart, cX8_isPart, 3, (some .boolean))
theorem mo_X8_isPart : MOs x_X8_isPart 3 := ⟨⟨(mt4 _ (List.mem_of_getElem? (i := 31) rfl)), (mt1 _ (List.mem_of_getElem? (i := 1) rfl)), ⟨by decide +kernel, by decide +kernel, by decide +kernel⟩, by decide +kernel⟩, (mt4 _ (List.mem_of_getElem? (i := 30) rfl))⟩
def x_X8_isLane : Mx := (yX8_isLane, cX8_isLane, 1, (some .boolean))
theorem mo_X8_isLane : MOs x_X8_isLane 1 := ⟨⟨(mt4 _ (List.mem_of_getElem? (i := 85) rfl)), (mt1 _ (List.mem_of_getElem? (i := 1) rfl)), ⟨by decide +kernel, by decide +kernel, by decide +kernel⟩, by decide +kernel⟩, (mt4 _ (List.mem_of_getElem? (i := 84) rfl))⟩
def x_X8_isBetter : Mx := (yX8_isBetter, cX8_isBetter, 3, (some .boolean))
theorem mo_X8_isBetter : MOs x_X8_isBetter 3 := ⟨⟨(mt3 _ (List.mem_of_getElem? (i := 218) rfl)), (mt1 _ (List.mem_of_getElem? (i := 1) rfl)), ⟨by decide +kernel, by decide +kernel, by decide +kernel⟩, by decide +kernel⟩, (mt3 _ (List.mem_of_getElem? (i := 217) rfl))⟩
def x_X8_endOfDuel : Mx := (yX8_endOfDuel, cX8_endOfDuel, 9, (some .int))
theorem mo_X8_endOfDuel : MOs x_X8_endOfDuel 4 := ⟨⟨(mt3 _ (List.mem_of_getElem? (i := 214) rfl)), (mt1 _ (List.mem_of_getElem? (i := 1) rfl)), ⟨by decide +kernel, by decide +kernel, by decide +kernel⟩, by decide +kernel⟩, (mt3 _ (List.mem_of_getElem? (i := 213) rfl))⟩
def x_X8_independentLines : Mx := (yX8_independentLines, cX8_independentLines, 10, (some .int))
theorem mo_X8_independentLines : MOv x_X8_independentLines 1 := ⟨⟨(mt3 _ (List.mem_of_getElem? (i := 207) rfl)), (mt1 _ (List.mem_of_getElem? (i := 1) rfl)), ⟨by decide +kernel, by decide +kernel, by decide +kernel⟩, by decide +kernel⟩, (mt3 _ (List.mem_of_getElem? (i := 206) rfl)), (mp _ (List.mem_of_getElem? (i := 20) rfl : (yX8_independentLines, 15) ∈ lw_privs))⟩
def x_X9_init : Mx := (yX9_init, cX9_init, 2, none)
theorem mo_X9_init : MOi x_X9_init 0 := ⟨⟨(mt4 _ (List.mem_of_getElem? (i := 138) rfl)), (mt1 _ (List.mem_of_getElem? (i := 10) rfl)), ⟨by decide +kernel, by decide +kernel, by decide +kernel⟩, by decide +kernel⟩, (mt4 _ (List.mem_of_getElem? (i := 137) rfl)), rfl⟩
def x_X9_in : Mx := (yX9_in, cX9_in, 6, (some .boolean))
theorem mo_X9_in : MOs x_X9_in 3 := ⟨⟨(mt5 _ (List.mem_of_getElem? (i := 61) rfl)), (mt1 _ (List.mem_of_getElem? (i := 10) rfl)), ⟨by decide +kernel, by decide +kernel, by decide +kernel⟩, by decide +kernel⟩, (mt5 _ (List.mem_of_getElem? (i := 60) rfl))⟩
def x_X9_flag : Mx := (yX9_flag, cX9_flag, 1, (some .int))
theorem mo_X9_flag : MOs x_X9_flag 1 := ⟨⟨(mt5 _ (List.mem_of_getElem? (i := 141) rfl)), (mt1 _ (List.mem_of_getElem? (i := 10) rfl)), ⟨by decide +kernel, by decide +kernel, by decide +kernel⟩, by decide +kernel⟩, (mt5 _ (List.mem_of_getElem? (i := 140) rfl))⟩
def x_X9_bitOf : Mx := (yX9_bitOf, cX9_bitOf, 2, (some .long))
theorem mo_X9_bitOf : MOs x_X9_bitOf 2 := ⟨⟨(mt5 _ (List.mem_of_getElem? (i := 122) rfl)), (mt1 _ (List.mem_of_getElem? (i := 10) rfl)), ⟨by decide +kernel, by decide +kernel, by decide +kernel⟩, by decide +kernel⟩, (mt5 _ (List.mem_of_getElem? (i := 121) rfl))⟩
def x_X9_many : Mx := (yX9_many, cX9_many, 4, (some .int))
theorem mo_X9_many : MOs x_X9_many 1 := ⟨⟨(mt5 _ (List.mem_of_getElem? (i := 184) rfl)), (mt1 _ (List.mem_of_getElem? (i := 10) rfl)), ⟨by decide +kernel, by decide +kernel, by decide +kernel⟩, by decide +kernel⟩, (mt5 _ (List.mem_of_getElem? (i := 183) rfl))⟩
def x_X9_firstDraft : Mx := (yX9_firstDraft, cX9_firstDraft, 1, none)
theorem mo_X9_firstDraft : MOv x_X9_firstDraft 0 := ⟨⟨(mt4 _ (List.mem_of_getElem? (i := 143) rfl)), (mt1 _ (List.mem_of_getElem? (i := 10) rfl)), ⟨by decide +kernel, by decide +kernel, by decide +kernel⟩, by decide +kernel⟩, (mt4 _ (List.mem_of_getElem? (i := 142) rfl)), (mp _ (List.mem_of_getElem? (i := 26) rfl : (yX9_firstDraft, 47) ∈ lw_privs))⟩
def x_X9_keepDraft : Mx := (yX9_keepDraft, cX9_keepDraft, 2, none)
theorem mo_X9_keepDraft : MOv x_X9_keepDraft 0 := ⟨⟨(mt4 _ (List.mem_of_getElem? (i := 147) rfl)), (mt1 _ (List.mem_of_getElem? (i := 10) rfl)), ⟨by decide +kernel, by decide +kernel, by decide +kernel⟩, by decide +kernel⟩, (mt4 _ (List.mem_of_getElem? (i := 146) rfl)), (mp _ (List.mem_of_getElem? (i := 27) rfl : (yX9_keepDraft, 47) ∈ lw_privs))⟩
def x_X9_feed : Mx := (yX9_feed, cX9_feed, 4, (some .int))
theorem mo_X9_feed : MOv x_X9_feed 1 := ⟨⟨(mt5 _ (List.mem_of_getElem? (i := 53) rfl)), (mt1 _ (List.mem_of_getElem? (i := 10) rfl)), ⟨by decide +kernel, by decide +kernel, by decide +kernel⟩, by decide +kernel⟩, (mt5 _ (List.mem_of_getElem? (i := 51) rfl)), (mt5 _ (List.mem_of_getElem? (i := 52) rfl))⟩
def x_X9_end : Mx := (yX9_end, cX9_end, 3, (some .int))
theorem mo_X9_end : MOv x_X9_end 1 := ⟨⟨(mt5 _ (List.mem_of_getElem? (i := 58) rfl)), (mt1 _ (List.mem_of_getElem? (i := 10) rfl)), ⟨by decide +kernel, by decide +kernel, by decide +kernel⟩, by decide +kernel⟩, (mt5 _ (List.mem_of_getElem? (i := 56) rfl)), (mt5 _ (List.mem_of_getElem? (i := 57) rfl))⟩
def x_X9_needs : Mx := (yX9_needs, cX9_needs, 3, none)
theorem mo_X9_needs : MOv x_X9_needs 2 := ⟨⟨(mt5 _ (List.mem_of_getElem? (i := 81) rfl)), (mt1 _ (List.mem_of_getElem? (i := 10) rfl)), ⟨by decide +kernel, by decide +kernel, by decide +kernel⟩, by decide +kernel⟩, (mt5 _ (List.mem_of_getElem? (i := 80) rfl)), (mp _ (List.mem_of_getElem? (i := 30) rfl : (yX9_needs, 47) ∈ lw_privs))⟩
def x_X9_look : Mx := (yX9_look, cX9_look, 2, (some .int))
theorem mo_X9_look : MOv x_X9_look 1 := ⟨⟨(mt5 _ (List.mem_of_getElem? (i := 73) rfl)), (mt1 _ (List.mem_of_getElem? (i := 10) rfl)), ⟨by decide +kernel, by decide +kernel, by decide +kernel⟩, by decide +kernel⟩, (mt5 _ (List.mem_of_getElem? (i := 72) rfl)), (mp _ (List.mem_of_getElem? (i := 29) rfl : (yX9_look, 47) ∈ lw_privs))⟩
def x_X9_is : Mx := (yX9_is, cX9_is, 5, (some .boolean))
theorem mo_X9_is : MOv x_X9_is 4 := ⟨⟨(mt5 _ (List.mem_of_getElem? (i := 93) rfl)), (mt1 _ (List.mem_of_getElem? (i := 10) rfl)), ⟨by decide +kernel, by decide +kernel, by decide +kernel⟩, by decide +kernel⟩, (mt5 _ (List.mem_of_getElem? (i := 92) rfl)), (mp _ (List.mem_of_getElem? (i := 33) rfl : (yX9_is, 47) ∈ lw_privs))⟩
def x_X9_goesOn : Mx := (yX9_goesOn, cX9_goesOn, 5, (some .boolean))
theorem mo_X9_goesOn : MOv x_X9_goesOn 4 := ⟨⟨(mt5 _ (List.mem_of_getElem? (i := 97) rfl)), (mt1 _ (List.mem_of_getElem? (i := 10) rfl)), ⟨by decide +kernel, by decide +kernel, by decide +kernel⟩, by decide +kernel⟩, (mt5 _ (List.mem_of_getElem? (i := 96) rfl)), (mp _ (List.mem_of_getElem? (i := 34) rfl : (yX9_goesOn, 47) ∈ lw_privs))⟩
def x_X9_lineNow : Mx := (yX9_lineNow, cX9_lineNow, 1, (some .int))
theorem mo_X9_lineNow : MOv x_X9_lineNow 0 := ⟨⟨(mt5 _ (List.mem_of_getElem? (i := 89) rfl)), (mt1 _ (List.mem_of_getElem? (i := 10) rfl)), ⟨by decide +kernel, by decide +kernel, by decide +kernel⟩, by decide +kernel⟩, (mt5 _ (List.mem_of_getElem? (i := 88) rfl)), (mp _ (List.mem_of_getElem? (i := 32) rfl : (yX9_lineNow, 47) ∈ lw_privs))⟩
def x_X9_actNow : Mx := (yX9_actNow, cX9_actNow, 1, (some .int))
theorem mo_X9_actNow : MOv x_X9_actNow 0 := ⟨⟨(mt5 _ (List.mem_of_getElem? (i := 109) rfl)), (mt1 _ (List.mem_of_getElem? (i := 10) rfl)), ⟨by decide +kernel, by decide +kernel, by decide +kernel⟩, by decide +kernel⟩, (mt5 _ (List.mem_of_getElem? (i := 108) rfl)), (mp _ (List.mem_of_getElem? (i := 37) rfl : (yX9_actNow, 47) ∈ lw_privs))⟩
def x_X9_isRowName : Mx := (yX9_isRowName, cX9_isRowName, 3, (some .boolean))
theorem mo_X9_isRowName : MOv x_X9_isRowName 0 := ⟨⟨(mt5 _ (List.mem_of_getElem? (i := 119) rfl)), (mt1 _ (List.mem_of_getElem? (i := 10) rfl)), ⟨by decide +kernel, by decide +kernel, by decide +kernel⟩, by decide +kernel⟩, (mt5 _ (List.mem_of_getElem? (i := 118) rfl)), (mp _ (List.mem_of_getElem? (i := 39) rfl : (yX9_isRowName, 47) ∈ lw_privs))⟩
def x_X9_next : Mx := (yX9_next, cX9_next, 2, none)
theorem mo_X9_next : MOv x_X9_next 0 := ⟨⟨(mt5 _ (List.mem_of_getElem? (i := 69) rfl)), (mt1 _ (List.mem_of_getElem? (i := 10) rfl)), ⟨by decide +kernel, by decide +kernel, by decide +kernel⟩, by decide +kernel⟩, (mt5 _ (List.mem_of_getElem? (i := 68) rfl)), (mp _ (List.mem_of_getElem? (i := 28) rfl : (yX9_next, 47) ∈ lw_privs))⟩
def x_X9_readRows : Mx := (yX9_readRows, cX9_readRows, 4, none)
theorem mo_X9_readRows : MOv x_X9_readRows 0 := ⟨⟨(mt5 _ (List.mem_of_getElem? (i := 115) rfl)), (mt1 _ (List.mem_of_getElem? (i := 10) rfl)), ⟨by decide +kernel, by decide +kernel, by decide +kernel⟩, by decide +kernel⟩, (mt5 _ (List.mem_of_getElem? (i := 114) rfl)), (mp _ (List.mem_of_getElem? (i := 38) rfl : (yX9_readRows, 47) ∈ lw_privs))⟩
def x_X9_readAct : Mx := (yX9_readAct, cX9_readAct, 3, none)
theorem mo_X9_readAct : MOv x_X9_readAct 1 := ⟨⟨(mt5 _ (List.mem_of_getElem? (i := 105) rfl)), (mt1 _ (List.mem_of_getElem? (i := 10) rfl)), ⟨by decide +kernel, by decide +kernel, by decide +kernel⟩, by decide +kernel⟩, (mt5 _ (List.mem_of_getElem? (i := 104) rfl)), (mp _ (List.mem_of_getElem? (i := 36) rfl : (yX9_readAct, 47) ∈ lw_privs))⟩
def x_X9_readDay : Mx := (yX9_readDay, cX9_readDay, 3, none)
theorem mo_X9_readDay : MOv x_X9_readDay 0 := ⟨⟨(mt5 _ (List.mem_of_getElem? (i := 101) rfl)), (mt1 _ (List.mem_of_getElem? (i := 10) rfl)), ⟨by decide +kernel, by decide +kernel, by decide +kernel⟩, by decide +kernel⟩, (mt5 _ (List.mem_of_getElem? (i := 100) rfl)), (mp _ (List.mem_of_getElem? (i := 35) rfl : (yX9_readDay, 47) ∈ lw_privs))⟩
def x_X9_readLine : Mx := (yX9_readLine, cX9_readLine, 2, none)
theorem mo_X9_readLine : MOv x_X9_readLine 0 := ⟨⟨(mt5 _ (List.mem_of_getElem? (i := 85) rfl)), (mt1 _ (List.mem_of_getElem? (i := 10) rfl)), ⟨by decide +kernel, by decide +kernel, by decide +kernel⟩, by decide +kernel⟩, (mt5 _ (List.mem_of_getElem? (i := 84) rfl)), (mp _ (List.mem_of_getElem? (i := 31) rfl : (yX9_readLine, 47) ∈ lw_privs))⟩
def x_X9_isActOf : Mx := (yX9_isActOf, cX9_isActOf, 4, (some .boolean))
theorem mo_X9_isActOf : MOs x_X9_isActOf 4 := ⟨⟨(mt5 _ (List.mem_of_getElem? (i := 129) rfl)), (mt1 _ (List.mem_of_getElem? (i := 10) rfl)), ⟨by decide +kernel, by decide +kernel, by decide +kernel⟩, by decide +kernel⟩, (mt5 _ (List.mem_of_getElem? (i := 128) rfl))⟩
def x_X9_areActs : Mx := (yX9_areActs, cX9_areActs, 4, (some .boolean))
theorem mo_X9_areActs : MOv x_X9_areActs 0 := ⟨⟨(mt5 _ (List.mem_of_getElem? (i := 126) rfl)), (mt1 _ (List.mem_of_getElem? (i := 10) rfl)), ⟨by decide +kernel, by decide +kernel, by decide +kernel⟩, by decide +kernel⟩, (mt5 _ (List.mem_of_getElem? (i := 125) rfl)), (mp _ (List.mem_of_getElem? (i := 40) rfl : (yX9_areActs, 47) ∈ lw_privs))⟩
def x_X9_text : Mx := (yX9_text, cX9_text, 2, (some .int))
theorem mo_X9_text : MOv x_X9_text 0 := ⟨⟨(mt5 _ (List.mem_of_getElem? (i := 65) rfl)), (mt1 _ (List.mem_of_getElem? (i := 10) rfl)), ⟨by decide +kernel, by decide +kernel, by decide +kernel⟩, by decide +kernel⟩, (mt5 _ (List.mem_of_getElem? (i := 63) rfl)), (mt5 _ (List.mem_of_getElem? (i := 64) rfl))⟩
def x_X9_fault : Mx := (yX9_fault, cX9_fault, 1, (some .int))
theorem mo_X9_fault : MOv x_X9_fault 0 := ⟨⟨(mt5 _ (List.mem_of_getElem? (i := 134) rfl)), (mt1 _ (List.mem_of_getElem? (i := 10) rfl)), ⟨by decide +kernel, by decide +kernel, by decide +kernel⟩, by decide +kernel⟩, (mt5 _ (List.mem_of_getElem? (i := 132) rfl)), (mt5 _ (List.mem_of_getElem? (i := 133) rfl))⟩
def x_X9_rule : Mx := (yX9_rule, cX9_rule, 2, (some .int))
theorem mo_X9_rule : MOv x_X9_rule 1 := ⟨⟨(mt5 _ (List.mem_of_getElem? (i := 138) rfl)), (mt1 _ (List.mem_of_getElem? (i := 10) rfl)), ⟨by decide +kernel, by decide +kernel, by decide +kernel⟩, by decide +kernel⟩, (mt5 _ (List.mem_of_getElem? (i := 136) rfl)), (mt5 _ (List.mem_of_getElem? (i := 137) rfl))⟩
def x_X9_day : Mx := (yX9_day, cX9_day, 3, (some .int))
theorem mo_X9_day : MOv x_X9_day 2 := ⟨⟨(mt5 _ (List.mem_of_getElem? (i := 145) rfl)), (mt1 _ (List.mem_of_getElem? (i := 10) rfl)), ⟨by decide +kernel, by decide +kernel, by decide +kernel⟩, by decide +kernel⟩, (mt5 _ (List.mem_of_getElem? (i := 143) rfl)), (mt5 _ (List.mem_of_getElem? (i := 144) rfl))⟩
def x_X9_cloth : Mx := (yX9_cloth, cX9_cloth, 2, (some .long))
theorem mo_X9_cloth : MOv x_X9_cloth 1 := ⟨⟨(mt5 _ (List.mem_of_getElem? (i := 150) rfl)), (mt1 _ (List.mem_of_getElem? (i := 10) rfl)), ⟨by decide +kernel, by decide +kernel, by decide +kernel⟩, by decide +kernel⟩, (mt5 _ (List.mem_of_getElem? (i := 148) rfl)), (mt5 _ (List.mem_of_getElem? (i := 149) rfl))⟩
def x_X9_isSquare : Mx := (yX9_isSquare, cX9_isSquare, 3, (some .boolean))
theorem mo_X9_isSquare : MOv x_X9_isSquare 2 := ⟨⟨(mt5 _ (List.mem_of_getElem? (i := 158) rfl)), (mt1 _ (List.mem_of_getElem? (i := 10) rfl)), ⟨by decide +kernel, by decide +kernel, by decide +kernel⟩, by decide +kernel⟩, (mt5 _ (List.mem_of_getElem? (i := 157) rfl)), (mp _ (List.mem_of_getElem? (i := 41) rfl : (yX9_isSquare, 47) ∈ lw_privs))⟩
def x_X9_isDark : Mx := (yX9_isDark, cX9_isDark, 4, (some .int))
theorem mo_X9_isDark : MOs x_X9_isDark 3 := ⟨⟨(mt5 _ (List.mem_of_getElem? (i := 161) rfl)), (mt1 _ (List.mem_of_getElem? (i := 10) rfl)), ⟨by decide +kernel, by decide +kernel, by decide +kernel⟩, by decide +kernel⟩, (mt5 _ (List.mem_of_getElem? (i := 160) rfl))⟩
def x_X9_square : Mx := (yX9_square, cX9_square, 3, (some .int))
theorem mo_X9_square : MOv x_X9_square 2 := ⟨⟨(mt5 _ (List.mem_of_getElem? (i := 154) rfl)), (mt1 _ (List.mem_of_getElem? (i := 10) rfl)), ⟨by decide +kernel, by decide +kernel, by decide +kernel⟩, by decide +kernel⟩, (mt5 _ (List.mem_of_getElem? (i := 152) rfl)), (mt5 _ (List.mem_of_getElem? (i := 153) rfl))⟩
def x_X9_paint : Mx := (yX9_paint, cX9_paint, 5, (some .int))
theorem mo_X9_paint : MOv x_X9_paint 3 := ⟨⟨(mt5 _ (List.mem_of_getElem? (i := 165) rfl)), (mt1 _ (List.mem_of_getElem? (i := 10) rfl)), ⟨by decide +kernel, by decide +kernel, by decide +kernel⟩, by decide +kernel⟩, (mt5 _ (List.mem_of_getElem? (i := 163) rfl)), (mt5 _ (List.mem_of_getElem? (i := 164) rfl))⟩
def x_X9_wish : Mx := (yX9_wish, cX9_wish, 5, (some .int))
theorem mo_X9_wish : MOv x_X9_wish 3 := ⟨⟨(mt5 _ (List.mem_of_getElem? (i := 169) rfl)), (mt1 _ (List.mem_of_getElem? (i := 10) rfl)), ⟨by decide +kernel, by decide +kernel, by decide +kernel⟩, by decide +kernel⟩, (mt5 _ (List.mem_of_getElem? (i := 167) rfl)), (mt5 _ (List.mem_of_getElem? (i := 168) rfl))⟩
def x_X9_actSet : Mx := (yX9_actSet, cX9_actSet, 8, (some .long))
theorem mo_X9_actSet : MOv x_X9_actSet 2 := ⟨⟨(mt5 _ (List.mem_of_getElem? (i := 181) rfl)), (mt1 _ (List.mem_of_getElem? (i := 10) rfl)), ⟨by decide +kernel, by decide +kernel, by decide +kernel⟩, by decide +kernel⟩, (mt5 _ (List.mem_of_getElem? (i := 180) rfl)), (mp _ (List.mem_of_getElem? (i := 43) rfl : (yX9_actSet, 47) ∈ lw_privs))⟩
def x_X9_turnSet : Mx := (yX9_turnSet, cX9_turnSet, 7, (some .long))
theorem mo_X9_turnSet : MOv x_X9_turnSet 2 := ⟨⟨(mt5 _ (List.mem_of_getElem? (i := 192) rfl)), (mt1 _ (List.mem_of_getElem? (i := 10) rfl)), ⟨by decide +kernel, by decide +kernel, by decide +kernel⟩, by decide +kernel⟩, (mt5 _ (List.mem_of_getElem? (i := 191) rfl)), (mp _ (List.mem_of_getElem? (i := 44) rfl : (yX9_turnSet, 47) ∈ lw_privs))⟩
def x_X9_isAct : Mx := (yX9_isAct, cX9_isAct, 3, (some .boolean))
theorem mo_X9_isAct : MOv x_X9_isAct 2 := ⟨⟨(mt5 _ (List.mem_of_getElem? (i := 177) rfl)), (mt1 _ (List.mem_of_getElem? (i := 10) rfl)), ⟨by decide +kernel, by decide +kernel, by decide +kernel⟩, by decide +kernel⟩, (mt5 _ (List.mem_of_getElem? (i := 176) rfl)), (mp _ (List.mem_of_getElem? (i := 42) rfl : (yX9_isAct, 47) ∈ lw_privs))⟩
def x_X9_act : Mx := (yX9_act, cX9_act, 3, (some .int))
theorem mo_X9_act : MOv x_X9_act 2 := ⟨⟨(mt5 _ (List.mem_of_getElem? (i := 173) rfl)), (mt1 _ (List.mem_of_getElem? (i := 10) rfl)), ⟨by decide +kernel, by decide +kernel, by decide +kernel⟩, by decide +kernel⟩, (mt5 _ (List.mem_of_getElem? (i := 171) rfl)), (mt5 _ (List.mem_of_getElem? (i := 172) rfl))⟩
def x_X9_turn : Mx := (yX9_turn, cX9_turn, 3, (some .int))
theorem mo_X9_turn : MOv x_X9_turn 2 := ⟨⟨(mt5 _ (List.mem_of_getElem? (i := 188) rfl)), (mt1 _ (List.mem_of_getElem? (i := 10) rfl)), ⟨by decide +kernel, by decide +kernel, by decide +kernel⟩, by decide +kernel⟩, (mt5 _ (List.mem_of_getElem? (i := 186) rfl)), (mt5 _ (List.mem_of_getElem? (i := 187) rfl))⟩
def x_X9_go : Mx := (yX9_go, cX9_go, 4, (some .int))
theorem mo_X9_go : MOv x_X9_go 1 := ⟨⟨(mt5 _ (List.mem_of_getElem? (i := 196) rfl)), (mt1 _ (List.mem_of_getElem? (i := 10) rfl)), ⟨by decide +kernel, by decide +kernel, by decide +kernel⟩, by decide +kernel⟩, (mt5 _ (List.mem_of_getElem? (i := 194) rfl)), (mt5 _ (List.mem_of_getElem? (i := 195) rfl))⟩
def x_X9_formOf : Mx := (yX9_formOf, cX9_formOf, 9, (some .long))
theorem mo_X9_formOf : MOs x_X9_formOf 3 := ⟨⟨(mt5 _ (List.mem_of_getElem? (i := 207) rfl)), (mt1 _ (List.mem_of_getElem? (i := 10) rfl)), ⟨by decide +kernel, by decide +kernel, by decide +kernel⟩, by decide +kernel⟩, (mt5 _ (List.mem_of_getElem? (i := 206) rfl))⟩
def x_X9_formNow : Mx := (yX9_formNow, cX9_formNow, 3, (some .long))
theorem mo_X9_formNow : MOv x_X9_formNow 1 := ⟨⟨(mt5 _ (List.mem_of_getElem? (i := 204) rfl)), (mt1 _ (List.mem_of_getElem? (i := 10) rfl)), ⟨by decide +kernel, by decide +kernel, by decide +kernel⟩, by decide +kernel⟩, (mt5 _ (List.mem_of_getElem? (i := 203) rfl)), (mp _ (List.mem_of_getElem? (i := 45) rfl : (yX9_formNow, 47) ∈ lw_privs))⟩
def x_X9_form : Mx := (yX9_form, cX9_form, 2, (some .long))
theorem mo_X9_form : MOv x_X9_form 1 := ⟨⟨(mt5 _ (List.mem_of_getElem? (i := 200) rfl)), (mt1 _ (List.mem_of_getElem? (i := 10) rfl)), ⟨by decide +kernel, by decide +kernel, by decide +kernel⟩, by decide +kernel⟩, (mt5 _ (List.mem_of_getElem? (i := 198) rfl)), (mt5 _ (List.mem_of_getElem? (i := 199) rfl))⟩
def x_X9_forms : Mx := (yX9_forms, cX9_forms, 1, (some .long))
theorem mo_X9_forms : MOv x_X9_forms 0 := ⟨⟨(mt5 _ (List.mem_of_getElem? (i := 211) rfl)), (mt1 _ (List.mem_of_getElem? (i := 10) rfl)), ⟨by decide +kernel, by decide +kernel, by decide +kernel⟩, by decide +kernel⟩, (mt5 _ (List.mem_of_getElem? (i := 209) rfl)), (mt5 _ (List.mem_of_getElem? (i := 210) rfl))⟩
def x_X9_isImage : Mx := (yX9_isImage, cX9_isImage, 1, (some .boolean))
theorem mo_X9_isImage : MOs x_X9_isImage 1 := ⟨⟨(mt5 _ (List.mem_of_getElem? (i := 218) rfl)), (mt1 _ (List.mem_of_getElem? (i := 10) rfl)), ⟨by decide +kernel, by decide +kernel, by decide +kernel⟩, by decide +kernel⟩, (mt5 _ (List.mem_of_getElem? (i := 217) rfl))⟩
def x_X9_isKept : Mx := (yX9_isKept, cX9_isKept, 2, (some .boolean))
theorem mo_X9_isKept : MOv x_X9_isKept 1 := ⟨⟨(mt5 _ (List.mem_of_getElem? (i := 222) rfl)), (mt1 _ (List.mem_of_getElem? (i := 10) rfl)), ⟨by decide +kernel, by decide +kernel, by decide +kernel⟩, by decide +kernel⟩, (mt5 _ (List.mem_of_getElem? (i := 221) rfl)), (mp _ (List.mem_of_getElem? (i := 46) rfl : (yX9_isKept, 47) ∈ lw_privs))⟩
def x_X9_isOfSize : Mx := (yX9_isOfSize, cX9_isOfSize, 2, (some .boolean))
theorem mo_X9_isOfSize : MOv x_X9_isOfSize 1 := ⟨⟨(mt5 _ (List.mem_of_getElem? (i := 226) rfl)), (mt1 _ (List.mem_of_getElem? (i := 10) rfl)), ⟨by decide +kernel, by decide +kernel, by decide +kernel⟩, by decide +kernel⟩, (mt5 _ (List.mem_of_getElem? (i := 225) rfl)), (mp _ (List.mem_of_getElem? (i := 47) rfl : (yX9_isOfSize, 47) ∈ lw_privs))⟩
def x_X9_alike : Mx := (yX9_alike, cX9_alike, 2, (some .int))
theorem mo_X9_alike : MOv x_X9_alike 1 := ⟨⟨(mt5 _ (List.mem_of_getElem? (i := 215) rfl)), (mt1 _ (List.mem_of_getElem? (i := 10) rfl)), ⟨by decide +kernel, by decide +kernel, by decide +kernel⟩, by decide +kernel⟩, (mt5 _ (List.mem_of_getElem? (i := 213) rfl)), (mt5 _ (List.mem_of_getElem? (i := 214) rfl))⟩
def x_X9_findPlan : Mx := (yX9_findPlan, cX9_findPlan, 8, (some .boolean))
theorem mo_X9_findPlan : MOv x_X9_findPlan 1 := ⟨⟨(mt5 _ (List.mem_of_getElem? (i := 235) rfl)), (mt1 _ (List.mem_of_getElem? (i := 10) rfl)), ⟨by decide +kernel, by decide +kernel, by decide +kernel⟩, by decide +kernel⟩, (mt5 _ (List.mem_of_getElem? (i := 234) rfl)), (mp _ (List.mem_of_getElem? (i := 48) rfl : (yX9_findPlan, 47) ∈ lw_privs))⟩
def x_X9_planTold : Mx := (yX9_planTold, cX9_planTold, 4, (some .int))
theorem mo_X9_planTold : MOv x_X9_planTold 1 := ⟨⟨(mt5 _ (List.mem_of_getElem? (i := 239) rfl)), (mt1 _ (List.mem_of_getElem? (i := 10) rfl)), ⟨by decide +kernel, by decide +kernel, by decide +kernel⟩, by decide +kernel⟩, (mt5 _ (List.mem_of_getElem? (i := 238) rfl)), (mp _ (List.mem_of_getElem? (i := 49) rfl : (yX9_planTold, 47) ∈ lw_privs))⟩
def x_X9_plan : Mx := (yX9_plan, cX9_plan, 2, (some .int))
theorem mo_X9_plan : MOv x_X9_plan 1 := ⟨⟨(mt5 _ (List.mem_of_getElem? (i := 230) rfl)), (mt1 _ (List.mem_of_getElem? (i := 10) rfl)), ⟨by decide +kernel, by decide +kernel, by decide +kernel⟩, by decide +kernel⟩, (mt5 _ (List.mem_of_getElem? (i := 228) rfl)), (mt5 _ (List.mem_of_getElem? (i := 229) rfl))⟩
def x_X9_findNearest : Mx := (yX9_findNearest, cX9_findNearest, 10, none)
theorem mo_X9_findNearest : MOv x_X9_findNearest 1 := ⟨⟨(mt6 _ (List.mem_of_getElem? (i := 7) rfl)), (mt1 _ (List.mem_of_getElem? (i := 10) rfl)), ⟨by decide +kernel, by decide +kernel, by decide +kernel⟩, by decide +kernel⟩, (mt6 _ (List.mem_of_getElem? (i := 6) rfl)), (mp _ (List.mem_of_getElem? (i := 50) rfl : (yX9_findNearest, 47) ∈ lw_privs))⟩
def x_X9_nearTold : Mx := (yX9_nearTold, cX9_nearTold, 2, (some .int))
theorem mo_X9_nearTold : MOv x_X9_nearTold 1 := ⟨⟨(mt6 _ (List.mem_of_getElem? (i := 11) rfl)), (mt1 _ (List.mem_of_getElem? (i := 10) rfl)), ⟨by decide +kernel, by decide +kernel, by decide +kernel⟩, by decide +kernel⟩, (mt6 _ (List.mem_of_getElem? (i := 10) rfl)), (mp _ (List.mem_of_getElem? (i := 51) rfl : (yX9_nearTold, 47) ∈ lw_privs))⟩
def x_X9_nearest : Mx := (yX9_nearest, cX9_nearest, 2, (some .int))
theorem mo_X9_nearest : MOv x_X9_nearest 1 := ⟨⟨(mt6 _ (List.mem_of_getElem? (i := 3) rfl)), (mt1 _ (List.mem_of_getElem? (i := 10) rfl)), ⟨by decide +kernel, by decide +kernel, by decide +kernel⟩, by decide +kernel⟩, (mt6 _ (List.mem_of_getElem? (i := 1) rfl)), (mt6 _ (List.mem_of_getElem? (i := 2) rfl))⟩
def x_X9_lightest : Mx := (yX9_lightest, cX9_lightest, 2, (some .int))
theorem mo_X9_lightest : MOv x_X9_lightest 1 := ⟨⟨(mt6 _ (List.mem_of_getElem? (i := 15) rfl)), (mt1 _ (List.mem_of_getElem? (i := 10) rfl)), ⟨by decide +kernel, by decide +kernel, by decide +kernel⟩, by decide +kernel⟩, (mt6 _ (List.mem_of_getElem? (i := 13) rfl)), (mt6 _ (List.mem_of_getElem? (i := 14) rfl))⟩
def x_X9_mostOf : Mx := (yX9_mostOf, cX9_mostOf, 8, (some .int))
theorem mo_X9_mostOf : MOv x_X9_mostOf 2 := ⟨⟨(mt6 _ (List.mem_of_getElem? (i := 23) rfl)), (mt1 _ (List.mem_of_getElem? (i := 10) rfl)), ⟨by decide +kernel, by decide +kernel, by decide +kernel⟩, by decide +kernel⟩, (mt6 _ (List.mem_of_getElem? (i := 22) rfl)), (mp _ (List.mem_of_getElem? (i := 52) rfl : (yX9_mostOf, 47) ∈ lw_privs))⟩
def x_X9_blind : Mx := (yX9_blind, cX9_blind, 7, (some .int))
theorem mo_X9_blind : MOv x_X9_blind 1 := ⟨⟨(mt6 _ (List.mem_of_getElem? (i := 19) rfl)), (mt1 _ (List.mem_of_getElem? (i := 10) rfl)), ⟨by decide +kernel, by decide +kernel, by decide +kernel⟩, by decide +kernel⟩, (mt6 _ (List.mem_of_getElem? (i := 17) rfl)), (mt6 _ (List.mem_of_getElem? (i := 18) rfl))⟩
def x_X9_isBefore : Mx := (yX9_isBefore, cX9_isBefore, 9, (some .boolean))
theorem mo_X9_isBefore : MOv x_X9_isBefore 8 := ⟨⟨(mt6 _ (List.mem_of_getElem? (i := 31) rfl)), (mt1 _ (List.mem_of_getElem? (i := 10) rfl)), ⟨by decide +kernel, by decide +kernel, by decide +kernel⟩, by decide +kernel⟩, (mt6 _ (List.mem_of_getElem? (i := 30) rfl)), (mp _ (List.mem_of_getElem? (i := 53) rfl : (yX9_isBefore, 47) ∈ lw_privs))⟩
def x_X9_slanted : Mx := (yX9_slanted, cX9_slanted, 14, (some .int))
theorem mo_X9_slanted : MOv x_X9_slanted 1 := ⟨⟨(mt6 _ (List.mem_of_getElem? (i := 27) rfl)), (mt1 _ (List.mem_of_getElem? (i := 10) rfl)), ⟨by decide +kernel, by decide +kernel, by decide +kernel⟩, by decide +kernel⟩, (mt6 _ (List.mem_of_getElem? (i := 25) rfl)), (mt6 _ (List.mem_of_getElem? (i := 26) rfl))⟩
def x_X9_isNew : Mx := (yX9_isNew, cX9_isNew, 6, (some .boolean))
theorem mo_X9_isNew : MOv x_X9_isNew 1 := ⟨⟨(mt6 _ (List.mem_of_getElem? (i := 39) rfl)), (mt1 _ (List.mem_of_getElem? (i := 10) rfl)), ⟨by decide +kernel, by decide +kernel, by decide +kernel⟩, by decide +kernel⟩, (mt6 _ (List.mem_of_getElem? (i := 38) rfl)), (mp _ (List.mem_of_getElem? (i := 54) rfl : (yX9_isNew, 47) ∈ lw_privs))⟩
def x_X9_power : Mx := (yX9_power, cX9_power, 5, (some .int))
theorem mo_X9_power : MOv x_X9_power 1 := ⟨⟨(mt6 _ (List.mem_of_getElem? (i := 35) rfl)), (mt1 _ (List.mem_of_getElem? (i := 10) rfl)), ⟨by decide +kernel, by decide +kernel, by decide +kernel⟩, by decide +kernel⟩, (mt6 _ (List.mem_of_getElem? (i := 33) rfl)), (mt6 _ (List.mem_of_getElem? (i := 34) rfl))⟩
def x_X9_isMove : Mx := (yX9_isMove, cX9_isMove, 3, (some .boolean))
theorem mo_X9_isMove : MOv x_X9_isMove 2 := ⟨⟨(mt6 _ (List.mem_of_getElem? (i := 52) rfl)), (mt1 _ (List.mem_of_getElem? (i := 10) rfl)), ⟨by decide +kernel, by decide +kernel, by decide +kernel⟩, by decide +kernel⟩, (mt6 _ (List.mem_of_getElem? (i := 51) rfl)), (mp _ (List.mem_of_getElem? (i := 56) rfl : (yX9_isMove, 47) ∈ lw_privs))⟩
def x_X9_worthOf : Mx := (yX9_worthOf, cX9_worthOf, 11, (some .int))
theorem mo_X9_worthOf : MOv x_X9_worthOf 3 := ⟨⟨(mt6 _ (List.mem_of_getElem? (i := 48) rfl)), (mt1 _ (List.mem_of_getElem? (i := 10) rfl)), ⟨by decide +kernel, by decide +kernel, by decide +kernel⟩, by decide +kernel⟩, (mt6 _ (List.mem_of_getElem? (i := 47) rfl)), (mp _ (List.mem_of_getElem? (i := 55) rfl : (yX9_worthOf, 47) ∈ lw_privs))⟩
def x_X9_best : Mx := (yX9_best, cX9_best, 7, (some .int))
theorem mo_X9_best : MOv x_X9_best 2 := ⟨⟨(mt6 _ (List.mem_of_getElem? (i := 56) rfl)), (mt1 _ (List.mem_of_getElem? (i := 10) rfl)), ⟨by decide +kernel, by decide +kernel, by decide +kernel⟩, by decide +kernel⟩, (mt6 _ (List.mem_of_getElem? (i := 55) rfl)), (mp _ (List.mem_of_getElem? (i := 57) rfl : (yX9_best, 47) ∈ lw_privs))⟩
def x_X9_duel : Mx := (yX9_duel, cX9_duel, 8, (some .int))
theorem mo_X9_duel : MOv x_X9_duel 3 := ⟨⟨(mt6 _ (List.mem_of_getElem? (i := 43) rfl)), (mt1 _ (List.mem_of_getElem? (i := 10) rfl)), ⟨by decide +kernel, by decide +kernel, by decide +kernel⟩, by decide +kernel⟩, (mt6 _ (List.mem_of_getElem? (i := 41) rfl)), (mt6 _ (List.mem_of_getElem? (i := 42) rfl))⟩
def x_X9_turned : Mx := (yX9_turned, cX9_turned, 3, (some .int))
theorem mo_X9_turned : MOv x_X9_turned 2 := ⟨⟨(mt6 _ (List.mem_of_getElem? (i := 60) rfl)), (mt1 _ (List.mem_of_getElem? (i := 10) rfl)), ⟨by decide +kernel, by decide +kernel, by decide +kernel⟩, by decide +kernel⟩, (mt6 _ (List.mem_of_getElem? (i := 58) rfl)), (mt6 _ (List.mem_of_getElem? (i := 59) rfl))⟩
def x_X9_spoilt : Mx := (yX9_spoilt, cX9_spoilt, 5, (some .int))
theorem mo_X9_spoilt : MOv x_X9_spoilt 1 := ⟨⟨(mt6 _ (List.mem_of_getElem? (i := 64) rfl)), (mt1 _ (List.mem_of_getElem? (i := 10) rfl)), ⟨by decide +kernel, by decide +kernel, by decide +kernel⟩, by decide +kernel⟩, (mt6 _ (List.mem_of_getElem? (i := 62) rfl)), (mt6 _ (List.mem_of_getElem? (i := 63) rfl))⟩
def x_X9_both : Mx := (yX9_both, cX9_both, 7, (some .int))
theorem mo_X9_both : MOv x_X9_both 1 := ⟨⟨(mt6 _ (List.mem_of_getElem? (i := 68) rfl)), (mt1 _ (List.mem_of_getElem? (i := 10) rfl)), ⟨by decide +kernel, by decide +kernel, by decide +kernel⟩, by decide +kernel⟩, (mt6 _ (List.mem_of_getElem? (i := 66) rfl)), (mt6 _ (List.mem_of_getElem? (i := 67) rfl))⟩
def x_X9_mirrored : Mx := (yX9_mirrored, cX9_mirrored, 8, (some .long))
theorem mo_X9_mirrored : MOs x_X9_mirrored 3 := ⟨⟨(mt6 _ (List.mem_of_getElem? (i := 78) rfl)), (mt1 _ (List.mem_of_getElem? (i := 10) rfl)), ⟨by decide +kernel, by decide +kernel, by decide +kernel⟩, by decide +kernel⟩, (mt6 _ (List.mem_of_getElem? (i := 77) rfl))⟩
def x_X9_quarter : Mx := (yX9_quarter, cX9_quarter, 8, (some .long))
theorem mo_X9_quarter : MOs x_X9_quarter 3 := ⟨⟨(mt6 _ (List.mem_of_getElem? (i := 81) rfl)), (mt1 _ (List.mem_of_getElem? (i := 10) rfl)), ⟨by decide +kernel, by decide +kernel, by decide +kernel⟩, by decide +kernel⟩, (mt6 _ (List.mem_of_getElem? (i := 80) rfl))⟩
def x_X9_rotated : Mx := (yX9_rotated, cX9_rotated, 8, (some .long))
theorem mo_X9_rotated : MOs x_X9_rotated 4 := ⟨⟨(mt6 _ (List.mem_of_getElem? (i := 75) rfl)), (mt1 _ (List.mem_of_getElem? (i := 10) rfl)), ⟨by decide +kernel, by decide +kernel, by decide +kernel⟩, by decide +kernel⟩, (mt6 _ (List.mem_of_getElem? (i := 74) rfl))⟩
def x_X9_endsPattern : Mx := (yX9_endsPattern, cX9_endsPattern, 1, none)
theorem mo_X9_endsPattern : MOv x_X9_endsPattern 0 := ⟨⟨(mt6 _ (List.mem_of_getElem? (i := 89) rfl)), (mt1 _ (List.mem_of_getElem? (i := 10) rfl)), ⟨by decide +kernel, by decide +kernel, by decide +kernel⟩, by decide +kernel⟩, (mt6 _ (List.mem_of_getElem? (i := 88) rfl)), (mp _ (List.mem_of_getElem? (i := 58) rfl : (yX9_endsPattern, 47) ∈ lw_privs))⟩
def x_X9_rotate : Mx := (yX9_rotate, cX9_rotate, 3, (some .int))
theorem mo_X9_rotate : MOv x_X9_rotate 1 := ⟨⟨(mt6 _ (List.mem_of_getElem? (i := 72) rfl)), (mt1 _ (List.mem_of_getElem? (i := 10) rfl)), ⟨by decide +kernel, by decide +kernel, by decide +kernel⟩, by decide +kernel⟩, (mt6 _ (List.mem_of_getElem? (i := 70) rfl)), (mt6 _ (List.mem_of_getElem? (i := 71) rfl))⟩
def x_X9_cut : Mx := (yX9_cut, cX9_cut, 9, (some .int))
theorem mo_X9_cut : MOv x_X9_cut 4 := ⟨⟨(mt6 _ (List.mem_of_getElem? (i := 85) rfl)), (mt1 _ (List.mem_of_getElem? (i := 10) rfl)), ⟨by decide +kernel, by decide +kernel, by decide +kernel⟩, by decide +kernel⟩, (mt6 _ (List.mem_of_getElem? (i := 83) rfl)), (mt6 _ (List.mem_of_getElem? (i := 84) rfl))⟩
def x_X9_sew : Mx := (yX9_sew, cX9_sew, 3, (some .int))
theorem mo_X9_sew : MOv x_X9_sew 2 := ⟨⟨(mt6 _ (List.mem_of_getElem? (i := 93) rfl)), (mt1 _ (List.mem_of_getElem? (i := 10) rfl)), ⟨by decide +kernel, by decide +kernel, by decide +kernel⟩, by decide +kernel⟩, (mt6 _ (List.mem_of_getElem? (i := 91) rfl)), (mt6 _ (List.mem_of_getElem? (i := 92) rfl))⟩
def x_X9_findName : Mx := (yX9_findName, cX9_findName, 10, none)
theorem mo_X9_findName : MOv x_X9_findName 3 := ⟨⟨(mt6 _ (List.mem_of_getElem? (i := 101) rfl)), (mt1 _ (List.mem_of_getElem? (i := 10) rfl)), ⟨by decide +kernel, by decide +kernel, by decide +kernel⟩, by decide +kernel⟩, (mt6 _ (List.mem_of_getElem? (i := 100) rfl)), (mp _ (List.mem_of_getElem? (i := 59) rfl : (yX9_findName, 47) ∈ lw_privs))⟩
def x_X9_name : Mx := (yX9_name, cX9_name, 2, (some .long))
theorem mo_X9_name : MOv x_X9_name 1 := ⟨⟨(mt6 _ (List.mem_of_getElem? (i := 97) rfl)), (mt1 _ (List.mem_of_getElem? (i := 10) rfl)), ⟨by decide +kernel, by decide +kernel, by decide +kernel⟩, by decide +kernel⟩, (mt6 _ (List.mem_of_getElem? (i := 95) rfl)), (mt6 _ (List.mem_of_getElem? (i := 96) rfl))⟩
def x_X9_cousin : Mx := (yX9_cousin, cX9_cousin, 6, (some .int))
theorem mo_X9_cousin : MOv x_X9_cousin 1 := ⟨⟨(mt6 _ (List.mem_of_getElem? (i := 105) rfl)), (mt1 _ (List.mem_of_getElem? (i := 10) rfl)), ⟨by decide +kernel, by decide +kernel, by decide +kernel⟩, by decide +kernel⟩, (mt6 _ (List.mem_of_getElem? (i := 103) rfl)), (mt6 _ (List.mem_of_getElem? (i := 104) rfl))⟩
def x_X9_keep : Mx := (yX9_keep, cX9_keep, 3, (some .int))
theorem mo_X9_keep : MOv x_X9_keep 1 := ⟨⟨(mt6 _ (List.mem_of_getElem? (i := 109) rfl)), (mt1 _ (List.mem_of_getElem? (i := 10) rfl)), ⟨by decide +kernel, by decide +kernel, by decide +kernel⟩, by decide +kernel⟩, (mt6 _ (List.mem_of_getElem? (i := 107) rfl)), (mt6 _ (List.mem_of_getElem? (i := 108) rfl))⟩
def x_X9_back : Mx := (yX9_back, cX9_back, 2, (some .int))
theorem mo_X9_back : MOv x_X9_back 1 := ⟨⟨(mt6 _ (List.mem_of_getElem? (i := 113) rfl)), (mt1 _ (List.mem_of_getElem? (i := 10) rfl)), ⟨by decide +kernel, by decide +kernel, by decide +kernel⟩, by decide +kernel⟩, (mt6 _ (List.mem_of_getElem? (i := 111) rfl)), (mt6 _ (List.mem_of_getElem? (i := 112) rfl))⟩
def x_X9_isSheet : Mx := (yX9_isSheet, cX9_isSheet, 2, (some .boolean))
theorem mo_X9_isSheet : MOs x_X9_isSheet 2 := ⟨⟨(mt6 _ (List.mem_of_getElem? (i := 120) rfl)), (mt1 _ (List.mem_of_getElem? (i := 10) rfl)), ⟨by decide +kernel, by decide +kernel, by decide +kernel⟩, by decide +kernel⟩, (mt6 _ (List.mem_of_getElem? (i := 119) rfl))⟩
def x_X9_sheet : Mx := (yX9_sheet, cX9_sheet, 5, (some .int))
theorem mo_X9_sheet : MOv x_X9_sheet 3 := ⟨⟨(mt6 _ (List.mem_of_getElem? (i := 117) rfl)), (mt1 _ (List.mem_of_getElem? (i := 10) rfl)), ⟨by decide +kernel, by decide +kernel, by decide +kernel⟩, by decide +kernel⟩, (mt6 _ (List.mem_of_getElem? (i := 115) rfl)), (mt6 _ (List.mem_of_getElem? (i := 116) rfl))⟩
def x_X9_lay : Mx := (yX9_lay, cX9_lay, 4, (some .int))
theorem mo_X9_lay : MOv x_X9_lay 3 := ⟨⟨(mt6 _ (List.mem_of_getElem? (i := 124) rfl)), (mt1 _ (List.mem_of_getElem? (i := 10) rfl)), ⟨by decide +kernel, by decide +kernel, by decide +kernel⟩, by decide +kernel⟩, (mt6 _ (List.mem_of_getElem? (i := 122) rfl)), (mt6 _ (List.mem_of_getElem? (i := 123) rfl))⟩
def x_X9_read : Mx := (yX9_read, cX9_read, 11, (some .int))
theorem mo_X9_read : MOv x_X9_read 4 := ⟨⟨(mt6 _ (List.mem_of_getElem? (i := 128) rfl)), (mt1 _ (List.mem_of_getElem? (i := 10) rfl)), ⟨by decide +kernel, by decide +kernel, by decide +kernel⟩, by decide +kernel⟩, (mt6 _ (List.mem_of_getElem? (i := 126) rfl)), (mt6 _ (List.mem_of_getElem? (i := 127) rfl))⟩
def x_X9_torn : Mx := (yX9_torn, cX9_torn, 1, (some .int))
theorem mo_X9_torn : MOv x_X9_torn 0 := ⟨⟨(mt6 _ (List.mem_of_getElem? (i := 133) rfl)), (mt1 _ (List.mem_of_getElem? (i := 10) rfl)), ⟨by decide +kernel, by decide +kernel, by decide +kernel⟩, by decide +kernel⟩, (mt6 _ (List.mem_of_getElem? (i := 131) rfl)), (mt6 _ (List.mem_of_getElem? (i := 132) rfl))⟩
def x_X9_count : Mx := (yX9_count, cX9_count, 2, (some .int))
theorem mo_X9_count : MOv x_X9_count 1 := ⟨⟨(mt6 _ (List.mem_of_getElem? (i := 137) rfl)), (mt1 _ (List.mem_of_getElem? (i := 10) rfl)), ⟨by decide +kernel, by decide +kernel, by decide +kernel⟩, by decide +kernel⟩, (mt6 _ (List.mem_of_getElem? (i := 135) rfl)), (mt6 _ (List.mem_of_getElem? (i := 136) rfl))⟩
def x_J6_bitCount_0f7a4 : Mx := (yJ6_bitCount_0f7a4, cJ6_bitCount_0f7a4, 1, (some .int))
theorem mo_J6_bitCount_0f7a4 : MOs x_J6_bitCount_0f7a4 1 := ⟨⟨(mt3 _ (List.mem_of_getElem? (i := 136) rfl)), (mt1 _ (List.mem_of_getElem? (i := 16) rfl)), ⟨by decide +kernel, by decide +kernel, by decide +kernel⟩, by decide +kernel⟩, (mt3 _ (List.mem_of_getElem? (i := 135) rfl))⟩
def x_J13_bitCount_95d88 : Mx := (yJ13_bitCount_95d88, cJ13_bitCount_95d88, 2, (some .int))
theorem mo_J13_bitCount_95d88 : MOs x_J13_bitCount_95d88 1 := ⟨⟨(mt3 _ (List.mem_of_getElem? (i := 59) rfl)), (mt1 _ (List.mem_of_getElem? (i := 15) rfl)), ⟨by decide +kernel, by decide +kernel, by decide +kernel⟩, by decide +kernel⟩, (mt3 _ (List.mem_of_getElem? (i := 58) rfl))⟩
def x_J0_length_8abf5 : Mx := (yJ0_length_8abf5, cJ0_length_8abf5, 1, (some .int))
theorem mo_J0_length_8abf5 : MOv x_J0_length_8abf5 0 := ⟨⟨(mt2 _ (List.mem_of_getElem? (i := 101) rfl)), (mt1 _ (List.mem_of_getElem? (i := 11) rfl)), ⟨by decide +kernel, by decide +kernel, by decide +kernel⟩, by decide +kernel⟩, (mt2 _ (List.mem_of_getElem? (i := 99) rfl)), (mt2 _ (List.mem_of_getElem? (i := 100) rfl))⟩
def x_J0_charAt_5068e : Mx := (yJ0_charAt_5068e, cJ0_charAt_5068e, 2, (some .char))
theorem mo_J0_charAt_5068e : MOv x_J0_charAt_5068e 1 := ⟨⟨(mt2 _ (List.mem_of_getElem? (i := 111) rfl)), (mt1 _ (List.mem_of_getElem? (i := 11) rfl)), ⟨by decide +kernel, by decide +kernel, by decide +kernel⟩, by decide +kernel⟩, (mt2 _ (List.mem_of_getElem? (i := 109) rfl)), (mt2 _ (List.mem_of_getElem? (i := 110) rfl))⟩
def x_J0_coder_7d493 : Mx := (yJ0_coder_7d493, cJ0_coder_7d493, 1, (some .byte))
theorem mo_J0_coder_7d493 : MOv x_J0_coder_7d493 0 := ⟨⟨(mt2 _ (List.mem_of_getElem? (i := 105) rfl)), (mt1 _ (List.mem_of_getElem? (i := 11) rfl)), ⟨by decide +kernel, by decide +kernel, by decide +kernel⟩, by decide +kernel⟩, (mt2 _ (List.mem_of_getElem? (i := 103) rfl)), (mt2 _ (List.mem_of_getElem? (i := 104) rfl))⟩
def x_J0_isLatin1_aae02 : Mx := (yJ0_isLatin1_aae02, cJ0_isLatin1_aae02, 1, (some .boolean))
theorem mo_J0_isLatin1_aae02 : MOv x_J0_isLatin1_aae02 0 := ⟨⟨(mt2 _ (List.mem_of_getElem? (i := 115) rfl)), (mt1 _ (List.mem_of_getElem? (i := 11) rfl)), ⟨by decide +kernel, by decide +kernel, by decide +kernel⟩, by decide +kernel⟩, (mt2 _ (List.mem_of_getElem? (i := 113) rfl)), (mt2 _ (List.mem_of_getElem? (i := 114) rfl))⟩
def x_J0_checkIndex_df160 : Mx := (yJ0_checkIndex_df160, cJ0_checkIndex_df160, 2, none)
theorem mo_J0_checkIndex_df160 : MOs x_J0_checkIndex_df160 2 := ⟨⟨(mt2 _ (List.mem_of_getElem? (i := 121) rfl)), (mt1 _ (List.mem_of_getElem? (i := 11) rfl)), ⟨by decide +kernel, by decide +kernel, by decide +kernel⟩, by decide +kernel⟩, (mt2 _ (List.mem_of_getElem? (i := 120) rfl))⟩
def x_J1_charAt_3b067 : Mx := (yJ1_charAt_3b067, cJ1_charAt_3b067, 2, (some .char))
theorem mo_J1_charAt_3b067 : MOs x_J1_charAt_3b067 2 := ⟨⟨(mt2 _ (List.mem_of_getElem? (i := 118) rfl)), (mt1 _ (List.mem_of_getElem? (i := 12) rfl)), ⟨by decide +kernel, by decide +kernel, by decide +kernel⟩, by decide +kernel⟩, (mt2 _ (List.mem_of_getElem? (i := 117) rfl))⟩
def x_J2_getChar_3b067 : Mx := (yJ2_getChar_3b067, cJ2_getChar_3b067, 2, (some .char))
theorem mo_J2_getChar_3b067 : MOs x_J2_getChar_3b067 2 := ⟨⟨(mt2 _ (List.mem_of_getElem? (i := 139) rfl)), (mt1 _ (List.mem_of_getElem? (i := 14) rfl)), ⟨by decide +kernel, by decide +kernel, by decide +kernel⟩, by decide +kernel⟩, (mt2 _ (List.mem_of_getElem? (i := 138) rfl))⟩
def x_J2_length_9d52b : Mx := (yJ2_length_9d52b, cJ2_length_9d52b, 1, (some .int))
theorem mo_J2_length_9d52b : MOs x_J2_length_9d52b 1 := ⟨⟨(mt2 _ (List.mem_of_getElem? (i := 135) rfl)), (mt1 _ (List.mem_of_getElem? (i := 14) rfl)), ⟨by decide +kernel, by decide +kernel, by decide +kernel⟩, by decide +kernel⟩, (mt2 _ (List.mem_of_getElem? (i := 134) rfl))⟩
def x_J2_charAt_3b067 : Mx := (yJ2_charAt_3b067, cJ2_charAt_3b067, 2, (some .char))
theorem mo_J2_charAt_3b067 : MOs x_J2_charAt_3b067 2 := ⟨⟨(mt2 _ (List.mem_of_getElem? (i := 129) rfl)), (mt1 _ (List.mem_of_getElem? (i := 14) rfl)), ⟨by decide +kernel, by decide +kernel, by decide +kernel⟩, by decide +kernel⟩, (mt2 _ (List.mem_of_getElem? (i := 128) rfl))⟩
def x_J2_checkIndex_2214a : Mx := (yJ2_checkIndex_2214a, cJ2_checkIndex_2214a, 2, none)
theorem mo_J2_checkIndex_2214a : MOs x_J2_checkIndex_2214a 2 := ⟨⟨(mt2 _ (List.mem_of_getElem? (i := 132) rfl)), (mt1 _ (List.mem_of_getElem? (i := 14) rfl)), ⟨by decide +kernel, by decide +kernel, by decide +kernel⟩, by decide +kernel⟩, (mt2 _ (List.mem_of_getElem? (i := 131) rfl))⟩
def x_J3_checkIndex_8e157 : Mx := (yJ3_checkIndex_8e157, cJ3_checkIndex_8e157, 3, (some .int))
theorem mo_J3_checkIndex_8e157 : MOs x_J3_checkIndex_8e157 3 := ⟨⟨(mt2 _ (List.mem_of_getElem? (i := 126) rfl)), (mt1 _ (List.mem_of_getElem? (i := 13) rfl)), ⟨by decide +kernel, by decide +kernel, by decide +kernel⟩, by decide +kernel⟩, (mt2 _ (List.mem_of_getElem? (i := 125) rfl))⟩
theorem ii_L : Cond.initialized RL ∈ lw_tbl := (mt1 _ (List.mem_of_getElem? (i := 0) rfl))
theorem ii_X8 : Cond.initialized RX8 ∈ lw_tbl := (mt1 _ (List.mem_of_getElem? (i := 1) rfl))
theorem ii_X0 : Cond.initialized RX0 ∈ lw_tbl := (mt1 _ (List.mem_of_getElem? (i := 2) rfl))
theorem ii_X1 : Cond.initialized RX1 ∈ lw_tbl := (mt1 _ (List.mem_of_getElem? (i := 3) rfl))
theorem ii_X5 : Cond.initialized RX5 ∈ lw_tbl := (mt1 _ (List.mem_of_getElem? (i := 4) rfl))
theorem ii_X6 : Cond.initialized RX6 ∈ lw_tbl := (mt1 _ (List.mem_of_getElem? (i := 5) rfl))
theorem ii_X4 : Cond.initialized RX4 ∈ lw_tbl := (mt1 _ (List.mem_of_getElem? (i := 6) rfl))
theorem ii_X3 : Cond.initialized RX3 ∈ lw_tbl := (mt1 _ (List.mem_of_getElem? (i := 7) rfl))
theorem ii_X7 : Cond.initialized RX7 ∈ lw_tbl := (mt1 _ (List.mem_of_getElem? (i := 8) rfl))
theorem ii_X2 : Cond.initialized RX2 ∈ lw_tbl := (mt1 _ (List.mem_of_getElem? (i := 9) rfl))
theorem ii_X9 : Cond.initialized RX9 ∈ lw_tbl := (mt1 _ (List.mem_of_getElem? (i := 10) rfl))
theorem ii_J0 : Cond.initialized RJ0 ∈ lw_tbl := (mt1 _ (List.mem_of_getElem? (i := 11) rfl))
theorem ii_J1 : Cond.initialized RJ1 ∈ lw_tbl := (mt1 _ (List.mem_of_getElem? (i := 12) rfl))
theorem ii_J3 : Cond.initialized RJ3 ∈ lw_tbl := (mt1 _ (List.mem_of_getElem? (i := 13) rfl))
theorem ii_J2 : Cond.initialized RJ2 ∈ lw_tbl := (mt1 _ (List.mem_of_getElem? (i := 14) rfl))
theorem ii_J13 : Cond.initialized RJ13 ∈ lw_tbl := (mt1 _ (List.mem_of_getElem? (i := 15) rfl))
theorem ii_J6 : Cond.initialized RJ6 ∈ lw_tbl := (mt1 _ (List.mem_of_getElem? (i := 16) rfl))
theorem ii_J9 : Cond.initialized RJ9 ∈ lw_tbl := (mt1 _ (List.mem_of_getElem? (i := 17) rfl))
theorem cl_L_7 : Cond.classLink RL 7 RX8 ∈ lw_tbl := (mt1 _ (List.mem_of_getElem? (i := 18) rfl))
theorem is_X8 : Cond.instantiable RX8 15 ∈ lw_tbl := (mt1 _ (List.mem_of_getElem? (i := 19) rfl))
theorem ml_L_9 : Cond.methodLink RL 9 yX8_init ∈ lw_tbl := (mt1 _ (List.mem_of_getElem? (i := 20) rfl))
theorem ml_X8_3 : Cond.methodLink RX8 3 Lib.objectInit ∈ lw_tbl := (mt1 _ (List.mem_of_getElem? (i := 23) rfl))
theorem cl_X8_9 : Cond.classLink RX8 9 RX0 ∈ lw_tbl := (mt1 _ (List.mem_of_getElem? (i := 26) rfl))
theorem is_X0 : Cond.instantiable RX0 4 ∈ lw_tbl := (mt1 _ (List.mem_of_getElem? (i := 27) rfl))
theorem ml_X8_11 : Cond.methodLink RX8 11 yX0_init ∈ lw_tbl := (mt1 _ (List.mem_of_getElem? (i := 28) rfl))
theorem ml_X0_3 : Cond.methodLink RX0 3 Lib.objectInit ∈ lw_tbl := (mt1 _ (List.mem_of_getElem? (i := 31) rfl))
theorem fl_X0_18 : Cond.fieldLink RX0 18 "RowsColumns$Cloth" "there" "Z" ∈ lw_tbl := (mt1 _ (List.mem_of_getElem? (i := 32) rfl))
theorem fl_X8_106 : Cond.fieldLink RX8 106 "RowsColumns$Cloth" "there" "Z" ∈ lw_tbl := (mt1 _ (List.mem_of_getElem? (i := 33) rfl))
theorem fl_X6_89 : Cond.fieldLink RX6 89 "RowsColumns$Cloth" "there" "Z" ∈ lw_tbl := (mt1 _ (List.mem_of_getElem? (i := 34) rfl))
theorem fl_X0_11 : Cond.fieldLink RX0 11 "RowsColumns$Cloth" "high" "I" ∈ lw_tbl := (mt1 _ (List.mem_of_getElem? (i := 35) rfl))
theorem fl_X2_27 : Cond.fieldLink RX2 27 "RowsColumns$Cloth" "high" "I" ∈ lw_tbl := (mt1 _ (List.mem_of_getElem? (i := 36) rfl))
theorem fl_X7_62 : Cond.fieldLink RX7 62 "RowsColumns$Cloth" "high" "I" ∈ lw_tbl := (mt1 _ (List.mem_of_getElem? (i := 37) rfl))
theorem fl_X6_93 : Cond.fieldLink RX6 93 "RowsColumns$Cloth" "high" "I" ∈ lw_tbl := (mt1 _ (List.mem_of_getElem? (i := 38) rfl))
theorem fl_X8_117 : Cond.fieldLink RX8 117 "RowsColumns$Cloth" "high" "I" ∈ lw_tbl := (mt1 _ (List.mem_of_getElem? (i := 39) rfl))
theorem fl_X0_15 : Cond.fieldLink RX0 15 "RowsColumns$Cloth" "wide" "I" ∈ lw_tbl := (mt1 _ (List.mem_of_getElem? (i := 40) rfl))
theorem fl_X2_31 : Cond.fieldLink RX2 31 "RowsColumns$Cloth" "wide" "I" ∈ lw_tbl := (mt1 _ (List.mem_of_getElem? (i := 41) rfl))
theorem fl_X7_65 : Cond.fieldLink RX7 65 "RowsColumns$Cloth" "wide" "I" ∈ lw_tbl := (mt1 _ (List.mem_of_getElem? (i := 42) rfl))
theorem fl_X6_102 : Cond.fieldLink RX6 102 "RowsColumns$Cloth" "wide" "I" ∈ lw_tbl := (mt1 _ (List.mem_of_getElem? (i := 43) rfl))
theorem fl_X8_120 : Cond.fieldLink RX8 120 "RowsColumns$Cloth" "wide" "I" ∈ lw_tbl := (mt1 _ (List.mem_of_getElem? (i := 44) rfl))
theorem fl_X0_22 : Cond.fieldLink RX0 22 "RowsColumns$Cloth" "dark" "J" ∈ lw_tbl := (mt1 _ (List.mem_of_getElem? (i := 45) rfl))
theorem fl_X2_19 : Cond.fieldLink RX2 19 "RowsColumns$Cloth" "dark" "J" ∈ lw_tbl := (mt1 _ (List.mem_of_getElem? (i := 46) rfl))
theorem fl_X6_109 : Cond.fieldLink RX6 109 "RowsColumns$Cloth" "dark" "J" ∈ lw_tbl := (mt1 _ (List.mem_of_getElem? (i := 47) rfl))
theorem fl_X8_137 : Cond.fieldLink RX8 137 "RowsColumns$Cloth" "dark" "J" ∈ lw_tbl := (mt1 _ (List.mem_of_getElem? (i := 48) rfl))
theorem cl_X8_30 : Cond.classLink RX8 30 RX1 ∈ lw_tbl := (mt1 _ (List.mem_of_getElem? (i := 58) rfl))
theorem is_X1 : Cond.instantiable RX1 3 ∈ lw_tbl := (mt1 _ (List.mem_of_getElem? (i := 59) rfl))
theorem mn_X8_32 : Cond.methodLinkNest RX8 32 yX1_init "RowsColumns" ∈ lw_tbl := (mt1 _ (List.mem_of_getElem? (i := 60) rfl))
theorem ml_X1_1 : Cond.methodLink RX1 1 Lib.objectInit ∈ lw_tbl := (mt1 _ (List.mem_of_getElem? (i := 63) rfl))
theorem fl_X1_16 : Cond.fieldLink RX1 16 "RowsColumns$Days" "many" "I" ∈ lw_tbl := (mt1 _ (List.mem_of_getElem? (i := 64) rfl))
theorem fl_X8_123 : Cond.fieldLink RX8 123 "RowsColumns$Days" "many" "I" ∈ lw_tbl := (mt1 _ (List.mem_of_getElem? (i := 65) rfl))
theorem fl_X6_113 : Cond.fieldLink RX6 113 "RowsColumns$Days" "many" "I" ∈ lw_tbl := (mt1 _ (List.mem_of_getElem? (i := 66) rfl))
theorem fl_X1_9 : Cond.fieldLink RX1 9 "RowsColumns$Days" "acts" "[I" ∈ lw_tbl := (mt1 _ (List.mem_of_getElem? (i := 67) rfl))
theorem fl_X1_13 : Cond.fieldLink RX1 13 "RowsColumns$Days" "codes" "[I" ∈ lw_tbl := (mt1 _ (List.mem_of_getElem? (i := 68) rfl))
theorem ac_int : Cond.arrayClass .int ∈ lw_tbl := (mt1 _ (List.mem_of_getElem? (i := 76) rfl))
theorem cl_X8_37 : Cond.classLink RX8 37 RX5 ∈ lw_tbl := (mt1 _ (List.mem_of_getElem? (i := 77) rfl))
theorem is_X5 : Cond.instantiable RX5 2 ∈ lw_tbl := (mt1 _ (List.mem_of_getElem? (i := 78) rfl))
theorem mn_X8_39 : Cond.methodLinkNest RX8 39 yX5_init "RowsColumns" ∈ lw_tbl := (mt1 _ (List.mem_of_getElem? (i := 79) rfl))
theorem ml_X5_1 : Cond.methodLink RX5 1 Lib.objectInit ∈ lw_tbl := (mt1 _ (List.mem_of_getElem? (i := 82) rfl))
theorem fl_X5_13 : Cond.fieldLink RX5 13 "RowsColumns$Tape" "length" "I" ∈ lw_tbl := (mt1 _ (List.mem_of_getElem? (i := 83) rfl))
theorem fl_X8_85 : Cond.fieldLink RX8 85 "RowsColumns$Tape" "length" "I" ∈ lw_tbl := (mt1 _ (List.mem_of_getElem? (i := 84) rfl))
theorem fl_X6_165 : Cond.fieldLink RX6 165 "RowsColumns$Tape" "length" "I" ∈ lw_tbl := (mt1 _ (List.mem_of_getElem? (i := 85) rfl))
theorem fl_X5_9 : Cond.fieldLink RX5 9 "RowsColumns$Tape" "bytes" "[B" ∈ lw_tbl := (mt1 _ (List.mem_of_getElem? (i := 86) rfl))
theorem ac_byte : Cond.arrayClass .byte ∈ lw_tbl := (mt1 _ (List.mem_of_getElem? (i := 92) rfl))
theorem cl_X8_44 : Cond.classLink RX8 44 RX6 ∈ lw_tbl := (mt1 _ (List.mem_of_getElem? (i := 93) rfl))
theorem is_X6 : Cond.instantiable RX6 10 ∈ lw_tbl := (mt1 _ (List.mem_of_getElem? (i := 94) rfl))
theorem ml_X8_46 : Cond.methodLink RX8 46 yX6_init ∈ lw_tbl := (mt1 _ (List.mem_of_getElem? (i := 95) rfl))
theorem ml_X6_3 : Cond.methodLink RX6 3 Lib.objectInit ∈ lw_tbl := (mt1 _ (List.mem_of_getElem? (i := 98) rfl))
theorem cl_X6_9 : Cond.classLink RX6 9 RX0 ∈ lw_tbl := (mt1 _ (List.mem_of_getElem? (i := 99) rfl))
theorem ml_X6_11 : Cond.methodLink RX6 11 yX0_init ∈ lw_tbl := (mt1 _ (List.mem_of_getElem? (i := 100) rfl))
theorem cl_X6_23 : Cond.classLink RX6 23 RX1 ∈ lw_tbl := (mt1 _ (List.mem_of_getElem? (i := 101) rfl))
theorem mn_X6_25 : Cond.methodLinkNest RX6 25 yX1_init "RowsColumns" ∈ lw_tbl := (mt1 _ (List.mem_of_getElem? (i := 102) rfl))
theorem fl_X6_14 : Cond.fieldLink RX6 14 "RowsColumns$Teller" "told" "LRowsColumns$Cloth;" ∈ lw_tbl := (mt1 _ (List.mem_of_getElem? (i := 103) rfl))
theorem fl_X8_99 : Cond.fieldLink RX8 99 "RowsColumns$Teller" "told" "LRowsColumns$Cloth;" ∈ lw_tbl := (mt1 _ (List.mem_of_getElem? (i := 104) rfl))
theorem fl_X6_20 : Cond.fieldLink RX6 20 "RowsColumns$Teller" "wished" "LRowsColumns$Cloth;" ∈ lw_tbl := (mt1 _ (List.mem_of_getElem? (i := 105) rfl))
theorem fl_X8_110 : Cond.fieldLink RX8 110 "RowsColumns$Teller" "wished" "LRowsColumns$Cloth;" ∈ lw_tbl := (mt1 _ (List.mem_of_getElem? (i := 106) rfl))
theorem fl_X6_26 : Cond.fieldLink RX6 26 "RowsColumns$Teller" "days" "LRowsColumns$Days;" ∈ lw_tbl := (mt1 _ (List.mem_of_getElem? (i := 107) rfl))
theorem fl_X8_113 : Cond.fieldLink RX8 113 "RowsColumns$Teller" "days" "LRowsColumns$Days;" ∈ lw_tbl := (mt1 _ (List.mem_of_getElem? (i := 108) rfl))
theorem fl_X6_40 : Cond.fieldLink RX6 40 "RowsColumns$Teller" "fault" "I" ∈ lw_tbl := (mt1 _ (List.mem_of_getElem? (i := 109) rfl))
theorem fl_X8_93 : Cond.fieldLink RX8 93 "RowsColumns$Teller" "fault" "I" ∈ lw_tbl := (mt1 _ (List.mem_of_getElem? (i := 110) rfl))
theorem fl_X6_30 : Cond.fieldLink RX6 30 "RowsColumns$Teller" "tape" "LRowsColumns$Tape;" ∈ lw_tbl := (mt1 _ (List.mem_of_getElem? (i := 111) rfl))
theorem fl_X6_44 : Cond.fieldLink RX6 44 "RowsColumns$Teller" "place" "I" ∈ lw_tbl := (mt1 _ (List.mem_of_getElem? (i := 112) rfl))
theorem fl_X6_65 : Cond.fieldLink RX6 65 "RowsColumns$Teller" "token" "I" ∈ lw_tbl := (mt1 _ (List.mem_of_getElem? (i := 113) rfl))
theorem fl_X6_59 : Cond.fieldLink RX6 59 "RowsColumns$Teller" "first" "I" ∈ lw_tbl := (mt1 _ (List.mem_of_getElem? (i := 114) rfl))
theorem fl_X6_47 : Cond.fieldLink RX6 47 "RowsColumns$Teller" "next" "I" ∈ lw_tbl := (mt1 _ (List.mem_of_getElem? (i := 115) rfl))
theorem fl_X6_126 : Cond.fieldLink RX6 126 "RowsColumns$Teller" "value" "I" ∈ lw_tbl := (mt1 _ (List.mem_of_getElem? (i := 116) rfl))
theorem cl_X8_53 : Cond.classLink RX8 53 RX4 ∈ lw_tbl := (mt1 _ (List.mem_of_getElem? (i := 138) rfl))
theorem is_X4 : Cond.instantiable RX4 1 ∈ lw_tbl := (mt1 _ (List.mem_of_getElem? (i := 139) rfl))
theorem ml_X8_55 : Cond.methodLink RX8 55 yX4_init ∈ lw_tbl := (mt1 _ (List.mem_of_getElem? (i := 140) rfl))
theorem ml_X4_3 : Cond.methodLink RX4 3 Lib.objectInit ∈ lw_tbl := (mt1 _ (List.mem_of_getElem? (i := 143) rfl))
theorem cl_X4_9 : Cond.classLink RX4 9 RX3 ∈ lw_tbl := (mt1 _ (List.mem_of_getElem? (i := 144) rfl))
theorem ao_Sheet : Cond.arrayOver (.object RX3) ∈ lw_tbl := (mt1 _ (List.mem_of_getElem? (i := 145) rfl))
theorem is_X3 : Cond.instantiable RX3 3 ∈ lw_tbl := (mt1 _ (List.mem_of_getElem? (i := 146) rfl))
theorem mn_X4_17 : Cond.methodLinkNest RX4 17 yX3_init "RowsColumns" ∈ lw_tbl := (mt1 _ (List.mem_of_getElem? (i := 147) rfl))
theorem ml_X3_3 : Cond.methodLink RX3 3 Lib.objectInit ∈ lw_tbl := (mt1 _ (List.mem_of_getElem? (i := 150) rfl))
theorem fl_X3_9 : Cond.fieldLink RX3 9 "RowsColumns$Sheet" "size" "I" ∈ lw_tbl := (mt1 _ (List.mem_of_getElem? (i := 151) rfl))
theorem fl_X4_26 : Cond.fieldLink RX4 26 "RowsColumns$Sheet" "size" "I" ∈ lw_tbl := (mt1 _ (List.mem_of_getElem? (i := 152) rfl))
theorem fl_X3_19 : Cond.fieldLink RX3 19 "RowsColumns$Sheet" "lane" "I" ∈ lw_tbl := (mt1 _ (List.mem_of_getElem? (i := 153) rfl))
theorem fl_X3_15 : Cond.fieldLink RX3 15 "RowsColumns$Sheet" "cells" "[I" ∈ lw_tbl := (mt1 _ (List.mem_of_getElem? (i := 154) rfl))
theorem fl_X4_11 : Cond.fieldLink RX4 11 "RowsColumns$Sheets" "all" "[LRowsColumns$Sheet;" ∈ lw_tbl := (mt1 _ (List.mem_of_getElem? (i := 162) rfl))
theorem cl_X8_60 : Cond.classLink RX8 60 RX7 ∈ lw_tbl := (mt1 _ (List.mem_of_getElem? (i := 166) rfl))
theorem is_X7 : Cond.instantiable RX7 10 ∈ lw_tbl := (mt1 _ (List.mem_of_getElem? (i := 167) rfl))
theorem mn_X8_62 : Cond.methodLinkNest RX8 62 yX7_init "RowsColumns" ∈ lw_tbl := (mt1 _ (List.mem_of_getElem? (i := 168) rfl))
theorem ml_X7_3 : Cond.methodLink RX7 3 Lib.objectInit ∈ lw_tbl := (mt1 _ (List.mem_of_getElem? (i := 171) rfl))
theorem fl_X7_40 : Cond.fieldLink RX7 40 "RowsColumns$Way" "found" "Z" ∈ lw_tbl := (mt1 _ (List.mem_of_getElem? (i := 172) rfl))
theorem fl_X8_195 : Cond.fieldLink RX8 195 "RowsColumns$Way" "found" "Z" ∈ lw_tbl := (mt1 _ (List.mem_of_getElem? (i := 173) rfl))
theorem fl_X7_18 : Cond.fieldLink RX7 18 "RowsColumns$Way" "rows" "I" ∈ lw_tbl := (mt1 _ (List.mem_of_getElem? (i := 174) rfl))
theorem fl_X8_198 : Cond.fieldLink RX8 198 "RowsColumns$Way" "rows" "I" ∈ lw_tbl := (mt1 _ (List.mem_of_getElem? (i := 175) rfl))
theorem fl_X7_28 : Cond.fieldLink RX7 28 "RowsColumns$Way" "columns" "I" ∈ lw_tbl := (mt1 _ (List.mem_of_getElem? (i := 176) rfl))
theorem fl_X8_206 : Cond.fieldLink RX8 206 "RowsColumns$Way" "columns" "I" ∈ lw_tbl := (mt1 _ (List.mem_of_getElem? (i := 177) rfl))
theorem fl_X7_31 : Cond.fieldLink RX7 31 "RowsColumns$Way" "slants" "I" ∈ lw_tbl := (mt1 _ (List.mem_of_getElem? (i := 178) rfl))
theorem fl_X8_330 : Cond.fieldLink RX8 330 "RowsColumns$Way" "slants" "I" ∈ lw_tbl := (mt1 _ (List.mem_of_getElem? (i := 179) rfl))
theorem fl_X7_92 : Cond.fieldLink RX7 92 "RowsColumns$Way" "unlike" "I" ∈ lw_tbl := (mt1 _ (List.mem_of_getElem? (i := 180) rfl))
theorem fl_X8_223 : Cond.fieldLink RX8 223 "RowsColumns$Way" "unlike" "I" ∈ lw_tbl := (mt1 _ (List.mem_of_getElem? (i := 181) rfl))
theorem fl_X7_95 : Cond.fieldLink RX7 95 "RowsColumns$Way" "days" "I" ∈ lw_tbl := (mt1 _ (List.mem_of_getElem? (i := 182) rfl))
theorem fl_X8_229 : Cond.fieldLink RX8 229 "RowsColumns$Way" "days" "I" ∈ lw_tbl := (mt1 _ (List.mem_of_getElem? (i := 183) rfl))
theorem fl_X7_112 : Cond.fieldLink RX7 112 "RowsColumns$Way" "many" "I" ∈ lw_tbl := (mt1 _ (List.mem_of_getElem? (i := 184) rfl))
theorem fl_X8_333 : Cond.fieldLink RX8 333 "RowsColumns$Way" "many" "I" ∈ lw_tbl := (mt1 _ (List.mem_of_getElem? (i := 185) rfl))
theorem fl_X7_115 : Cond.fieldLink RX7 115 "RowsColumns$Way" "first" "I" ∈ lw_tbl := (mt1 _ (List.mem_of_getElem? (i := 186) rfl))
theorem fl_X8_334 : Cond.fieldLink RX8 334 "RowsColumns$Way" "first" "I" ∈ lw_tbl := (mt1 _ (List.mem_of_getElem? (i := 187) rfl))
theorem fl_X7_9 : Cond.fieldLink RX7 9 "RowsColumns$Way" "slantSets" "[J" ∈ lw_tbl := (mt1 _ (List.mem_of_getElem? (i := 188) rfl))
theorem fl_X7_15 : Cond.fieldLink RX7 15 "RowsColumns$Way" "squareForms" "[J" ∈ lw_tbl := (mt1 _ (List.mem_of_getElem? (i := 189) rfl))
theorem ac_long : Cond.arrayClass .long ∈ lw_tbl := (mt1 _ (List.mem_of_getElem? (i := 211) rfl))
theorem cl_X8_67 : Cond.classLink RX8 67 RX2 ∈ lw_tbl := (mt1 _ (List.mem_of_getElem? (i := 212) rfl))
theorem is_X2 : Cond.instantiable RX2 4 ∈ lw_tbl := (mt1 _ (List.mem_of_getElem? (i := 213) rfl))
theorem mn_X8_69 : Cond.methodLinkNest RX8 69 yX2_init "RowsColumns" ∈ lw_tbl := (mt1 _ (List.mem_of_getElem? (i := 214) rfl))
theorem ml_X2_3 : Cond.methodLink RX2 3 Lib.objectInit ∈ lw_tbl := (mt1 _ (List.mem_of_getElem? (i := 217) rfl))
theorem fl_X2_42 : Cond.fieldLink RX2 42 "RowsColumns$Name" "high" "I" ∈ lw_tbl := (mt1 _ (List.mem_of_getElem? (i := 218) rfl))
theorem fl_X2_43 : Cond.fieldLink RX2 43 "RowsColumns$Name" "wide" "I" ∈ lw_tbl := (mt1 _ (List.mem_of_getElem? (i := 219) rfl))
theorem fl_X2_34 : Cond.fieldLink RX2 34 "RowsColumns$Name" "form" "J" ∈ lw_tbl := (mt1 _ (List.mem_of_getElem? (i := 220) rfl))
theorem fl_X8_276 : Cond.fieldLink RX8 276 "RowsColumns$Name" "form" "J" ∈ lw_tbl := (mt1 _ (List.mem_of_getElem? (i := 221) rfl))
theorem fl_X2_39 : Cond.fieldLink RX2 39 "RowsColumns$Name" "turning" "I" ∈ lw_tbl := (mt1 _ (List.mem_of_getElem? (i := 222) rfl))
theorem fl_X8_279 : Cond.fieldLink RX8 279 "RowsColumns$Name" "turning" "I" ∈ lw_tbl := (mt1 _ (List.mem_of_getElem? (i := 223) rfl))
theorem fl_X8_14 : Cond.fieldLink RX8 14 "RowsColumns" "cloth" "LRowsColumns$Cloth;" ∈ lw_tbl := (mt1 _ (List.mem_of_getElem? (i := 233) rfl))
theorem fl_X8_18 : Cond.fieldLink RX8 18 "RowsColumns" "pattern" "LRowsColumns$Cloth;" ∈ lw_tbl := (mt1 _ (List.mem_of_getElem? (i := 234) rfl))
theorem fl_X8_21 : Cond.fieldLink RX8 21 "RowsColumns" "firstImage" "LRowsColumns$Cloth;" ∈ lw_tbl := (mt1 _ (List.mem_of_getElem? (i := 235) rfl))
theorem fl_X8_24 : Cond.fieldLink RX8 24 "RowsColumns" "secondImage" "LRowsColumns$Cloth;" ∈ lw_tbl := (mt1 _ (List.mem_of_getElem? (i := 236) rfl))
theorem fl_X8_27 : Cond.fieldLink RX8 27 "RowsColumns" "scratch" "LRowsColumns$Cloth;" ∈ lw_tbl := (mt1 _ (List.mem_of_getElem? (i := 237) rfl))
theorem fl_X8_33 : Cond.fieldLink RX8 33 "RowsColumns" "days" "LRowsColumns$Days;" ∈ lw_tbl := (mt1 _ (List.mem_of_getElem? (i := 238) rfl))
theorem fl_X8_40 : Cond.fieldLink RX8 40 "RowsColumns" "tape" "LRowsColumns$Tape;" ∈ lw_tbl := (mt1 _ (List.mem_of_getElem? (i := 239) rfl))
theorem fl_X8_49 : Cond.fieldLink RX8 49 "RowsColumns" "teller" "LRowsColumns$Teller;" ∈ lw_tbl := (mt2 _ (List.mem_of_getElem? (i := 0) rfl))
theorem fl_X8_56 : Cond.fieldLink RX8 56 "RowsColumns" "sheets" "LRowsColumns$Sheets;" ∈ lw_tbl := (mt2 _ (List.mem_of_getElem? (i := 1) rfl))
theorem fl_X8_63 : Cond.fieldLink RX8 63 "RowsColumns" "way" "LRowsColumns$Way;" ∈ lw_tbl := (mt2 _ (List.mem_of_getElem? (i := 2) rfl))
theorem fl_X8_70 : Cond.fieldLink RX8 70 "RowsColumns" "ownName" "LRowsColumns$Name;" ∈ lw_tbl := (mt2 _ (List.mem_of_getElem? (i := 3) rfl))
theorem fl_X8_74 : Cond.fieldLink RX8 74 "RowsColumns" "otherName" "LRowsColumns$Name;" ∈ lw_tbl := (mt2 _ (List.mem_of_getElem? (i := 4) rfl))
theorem fl_X8_77 : Cond.fieldLink RX8 77 "RowsColumns" "independent" "[J" ∈ lw_tbl := (mt2 _ (List.mem_of_getElem? (i := 5) rfl))
theorem fl_X8_96 : Cond.fieldLink RX8 96 "RowsColumns" "latestFault" "I" ∈ lw_tbl := (mt2 _ (List.mem_of_getElem? (i := 6) rfl))
theorem fl_X8_319 : Cond.fieldLink RX8 319 "RowsColumns" "latestTorn" "I" ∈ lw_tbl := (mt2 _ (List.mem_of_getElem? (i := 7) rfl))
theorem ml_L_15 : Cond.methodLink RL 15 yX8_feed ∈ lw_tbl := (mt2 _ (List.mem_of_getElem? (i := 39) rfl))
theorem ml_X8_81 : Cond.methodLink RX8 81 yX5_add ∈ lw_tbl := (mt2 _ (List.mem_of_getElem? (i := 43) rfl))
theorem ml_L_20 : Cond.methodLink RL 20 yX8_end ∈ lw_tbl := (mt2 _ (List.mem_of_getElem? (i := 47) rfl))
theorem ml_L_25 : Cond.methodLink RL 25 yX8_text ∈ lw_tbl := (mt2 _ (List.mem_of_getElem? (i := 51) rfl))
theorem ml_X8_89 : Cond.methodLink RX8 89 yX6_takeText ∈ lw_tbl := (mt2 _ (List.mem_of_getElem? (i := 55) rfl))
theorem ml_X6_34 : Cond.methodLink RX6 34 yX0_forget ∈ lw_tbl := (mt2 _ (List.mem_of_getElem? (i := 59) rfl))
theorem ml_X6_37 : Cond.methodLink RX6 37 yX1_clear ∈ lw_tbl := (mt2 _ (List.mem_of_getElem? (i := 63) rfl))
theorem ml_X6_52 : Cond.methodLink RX6 52 yX6_takeLine ∈ lw_tbl := (mt2 _ (List.mem_of_getElem? (i := 67) rfl))
theorem ml_X6_62 : Cond.methodLink RX6 62 yX6_step ∈ lw_tbl := (mt2 _ (List.mem_of_getElem? (i := 71) rfl))
theorem ml_X6_105 : Cond.methodLink RX6 105 yX5_byteAt ∈ lw_tbl := (mt2 _ (List.mem_of_getElem? (i := 75) rfl))
theorem ml_X6_167 : Cond.methodLink RX6 167 yX6_isLetter ∈ lw_tbl := (mt2 _ (List.mem_of_getElem? (i := 79) rfl))
theorem ml_X6_170 : Cond.methodLink RX6 170 yX6_isFigure ∈ lw_tbl := (mt2 _ (List.mem_of_getElem? (i := 82) rfl))
theorem ml_X6_173 : Cond.methodLink RX6 173 yX6_stepNumber ∈ lw_tbl := (mt2 _ (List.mem_of_getElem? (i := 85) rfl))
theorem ml_X6_85 : Cond.methodLink RX6 85 yX6_refuse ∈ lw_tbl := (mt2 _ (List.mem_of_getElem? (i := 89) rfl))
theorem sr_X6_68 : Cond.stringRef RX6 68 "cloth" ∈ lw_tbl := (mt2 _ (List.mem_of_getElem? (i := 93) rfl))
theorem ml_X6_70 : Cond.methodLink RX6 70 yX6_isNamed ∈ lw_tbl := (mt2 _ (List.mem_of_getElem? (i := 94) rfl))
theorem ml_X6_156 : Cond.methodLink RX6 156 yJ0_length_8abf5 ∈ lw_tbl := (mt2 _ (List.mem_of_getElem? (i := 98) rfl))
theorem ml_J0_335 : Cond.methodLink RJ0 335 yJ0_coder_7d493 ∈ lw_tbl := (mt2 _ (List.mem_of_getElem? (i := 102) rfl))
theorem fl_J0_38 : Cond.fieldLink RJ0 38 "java/lang/String" "COMPACT_STRINGS" "Z" ∈ lw_tbl := (mt2 _ (List.mem_of_getElem? (i := 106) rfl))
theorem ls_COMPACT_STRINGS : Cond.laysStatic "java/lang/String" "COMPACT_STRINGS" "Z" ∈ lw_tbl := (mt2 _ (List.mem_of_getElem? (i := 107) rfl))
theorem ml_X6_161 : Cond.methodLink RX6 161 yJ0_charAt_5068e ∈ lw_tbl := (mt2 _ (List.mem_of_getElem? (i := 108) rfl))
theorem ml_J0_492 : Cond.methodLink RJ0 492 yJ0_isLatin1_aae02 ∈ lw_tbl := (mt2 _ (List.mem_of_getElem? (i := 112) rfl))
theorem ml_J0_495 : Cond.methodLink RJ0 495 yJ1_charAt_3b067 ∈ lw_tbl := (mt2 _ (List.mem_of_getElem? (i := 116) rfl))
theorem ml_J1_9 : Cond.methodLink RJ1 9 yJ0_checkIndex_df160 ∈ lw_tbl := (mt2 _ (List.mem_of_getElem? (i := 119) rfl))
theorem fl_J0_1053 : Cond.fieldLink RJ0 1053 "jdk/internal/util/Preconditions" "SIOOBE_FORMATTER" "Ljava/util/function/BiFunction;" ∈ lw_tbl := (mt2 _ (List.mem_of_getElem? (i := 122) rfl))
theorem ls_SIOOBE_FORMATTER : Cond.laysStatic "jdk/internal/util/Preconditions" "SIOOBE_FORMATTER" "Ljava/util/function/BiFunction;" ∈ lw_tbl := (mt2 _ (List.mem_of_getElem? (i := 123) rfl))
theorem ml_J0_1059 : Cond.methodLink RJ0 1059 yJ3_checkIndex_8e157 ∈ lw_tbl := (mt2 _ (List.mem_of_getElem? (i := 124) rfl))
theorem ml_J0_498 : Cond.methodLink RJ0 498 yJ2_charAt_3b067 ∈ lw_tbl := (mt2 _ (List.mem_of_getElem? (i := 127) rfl))
theorem ml_J2_67 : Cond.methodLink RJ2 67 yJ2_checkIndex_2214a ∈ lw_tbl := (mt2 _ (List.mem_of_getElem? (i := 130) rfl))
theorem ml_J2_48 : Cond.methodLink RJ2 48 yJ2_length_9d52b ∈ lw_tbl := (mt2 _ (List.mem_of_getElem? (i := 133) rfl))
theorem ml_J2_414 : Cond.methodLink RJ2 414 yJ0_checkIndex_df160 ∈ lw_tbl := (mt2 _ (List.mem_of_getElem? (i := 136) rfl))
theorem ml_J2_71 : Cond.methodLink RJ2 71 yJ2_getChar_3b067 ∈ lw_tbl := (mt2 _ (List.mem_of_getElem? (i := 137) rfl))
theorem fl_J2_44 : Cond.fieldLink RJ2 44 "java/lang/StringUTF16" "$assertionsDisabled" "Z" ∈ lw_tbl := (mt2 _ (List.mem_of_getElem? (i := 140) rfl))
theorem fl_J2_59 : Cond.fieldLink RJ2 59 "java/lang/StringUTF16" "HI_BYTE_SHIFT" "I" ∈ lw_tbl := (mt2 _ (List.mem_of_getElem? (i := 142) rfl))
theorem fl_J2_63 : Cond.fieldLink RJ2 63 "java/lang/StringUTF16" "LO_BYTE_SHIFT" "I" ∈ lw_tbl := (mt2 _ (List.mem_of_getElem? (i := 144) rfl))
theorem ml_X6_74 : Cond.methodLink RX6 74 yX6_takeRows ∈ lw_tbl := (mt2 _ (List.mem_of_getElem? (i := 146) rfl))
theorem ml_X6_96 : Cond.methodLink RX6 96 yX6_takeRow ∈ lw_tbl := (mt2 _ (List.mem_of_getElem? (i := 150) rfl))
theorem ml_X6_99 : Cond.methodLink RX6 99 yX6_isRow ∈ lw_tbl := (mt2 _ (List.mem_of_getElem? (i := 154) rfl))
theorem sr_X6_78 : Cond.stringRef RX6 78 "pattern" ∈ lw_tbl := (mt2 _ (List.mem_of_getElem? (i := 158) rfl))
theorem sr_X6_80 : Cond.stringRef RX6 80 "day" ∈ lw_tbl := (mt2 _ (List.mem_of_getElem? (i := 159) rfl))
theorem ml_X6_82 : Cond.methodLink RX6 82 yX6_takeDay ∈ lw_tbl := (mt2 _ (List.mem_of_getElem? (i := 160) rfl))
theorem ml_X6_116 : Cond.methodLink RX6 116 yX1_begin ∈ lw_tbl := (mt2 _ (List.mem_of_getElem? (i := 164) rfl))
theorem ml_X6_119 : Cond.methodLink RX6 119 yX6_kindNamed ∈ lw_tbl := (mt2 _ (List.mem_of_getElem? (i := 168) rfl))
theorem sr_X6_150 : Cond.stringRef RX6 150 "row" ∈ lw_tbl := (mt2 _ (List.mem_of_getElem? (i := 172) rfl))
theorem sr_X6_152 : Cond.stringRef RX6 152 "column" ∈ lw_tbl := (mt2 _ (List.mem_of_getElem? (i := 173) rfl))
theorem sr_X6_154 : Cond.stringRef RX6 154 "slant" ∈ lw_tbl := (mt2 _ (List.mem_of_getElem? (i := 174) rfl))
theorem ml_X6_123 : Cond.methodLink RX6 123 yX6_takeNumber ∈ lw_tbl := (mt2 _ (List.mem_of_getElem? (i := 175) rfl))
theorem ml_X6_129 : Cond.methodLink RX6 129 yX1_add ∈ lw_tbl := (mt2 _ (List.mem_of_getElem? (i := 179) rfl))
theorem ml_X1_20 : Cond.methodLink RX1 20 yX1_actsOf ∈ lw_tbl := (mt2 _ (List.mem_of_getElem? (i := 183) rfl))
theorem ml_X6_56 : Cond.methodLink RX6 56 yX6_judgeWhole ∈ lw_tbl := (mt2 _ (List.mem_of_getElem? (i := 187) rfl))
theorem ml_X6_133 : Cond.methodLink RX6 133 yX0_sameSize ∈ lw_tbl := (mt2 _ (List.mem_of_getElem? (i := 191) rfl))
theorem ml_X6_136 : Cond.methodLink RX6 136 yX1_actsOf ∈ lw_tbl := (mt2 _ (List.mem_of_getElem? (i := 195) rfl))
theorem ml_X6_139 : Cond.methodLink RX6 139 yX1_kindOf ∈ lw_tbl := (mt2 _ (List.mem_of_getElem? (i := 196) rfl))
theorem ml_X1_24 : Cond.methodLink RX1 24 yX1_codeOf ∈ lw_tbl := (mt2 _ (List.mem_of_getElem? (i := 200) rfl))
theorem ml_X6_143 : Cond.methodLink RX6 143 yX1_numberOf ∈ lw_tbl := (mt2 _ (List.mem_of_getElem? (i := 204) rfl))
theorem ml_X6_146 : Cond.methodLink RX6 146 yX0_hasLine ∈ lw_tbl := (mt2 _ (List.mem_of_getElem? (i := 208) rfl))
theorem ml_X0_50 : Cond.methodLink RX0 50 yX0_linesOf ∈ lw_tbl := (mt2 _ (List.mem_of_getElem? (i := 212) rfl))
theorem ml_X8_102 : Cond.methodLink RX8 102 yX0_become ∈ lw_tbl := (mt2 _ (List.mem_of_getElem? (i := 216) rfl))
theorem ml_X8_114 : Cond.methodLink RX8 114 yX1_become ∈ lw_tbl := (mt2 _ (List.mem_of_getElem? (i := 220) rfl))
theorem ml_L_30 : Cond.methodLink RL 30 yX8_fault ∈ lw_tbl := (mt2 _ (List.mem_of_getElem? (i := 224) rfl))
theorem ml_L_34 : Cond.methodLink RL 34 yX8_rule ∈ lw_tbl := (mt2 _ (List.mem_of_getElem? (i := 228) rfl))
theorem ml_X8_126 : Cond.methodLink RX8 126 yX0_linesOf ∈ lw_tbl := (mt2 _ (List.mem_of_getElem? (i := 232) rfl))
theorem ml_L_38 : Cond.methodLink RL 38 yX8_day ∈ lw_tbl := (mt2 _ (List.mem_of_getElem? (i := 233) rfl))
theorem ml_X8_130 : Cond.methodLink RX8 130 yX1_actsOf ∈ lw_tbl := (mt2 _ (List.mem_of_getElem? (i := 237) rfl))
theorem ml_X8_133 : Cond.methodLink RX8 133 yX1_codeOf ∈ lw_tbl := (mt2 _ (List.mem_of_getElem? (i := 238) rfl))
theorem ml_L_43 : Cond.methodLink RL 43 yX8_cloth ∈ lw_tbl := (mt2 _ (List.mem_of_getElem? (i := 239) rfl))
theorem ml_L_48 : Cond.methodLink RL 48 yX8_square ∈ lw_tbl := (mt3 _ (List.mem_of_getElem? (i := 3) rfl))
theorem ml_X8_141 : Cond.methodLink RX8 141 yX0_hasSquare ∈ lw_tbl := (mt3 _ (List.mem_of_getElem? (i := 7) rfl))
theorem ml_X8_145 : Cond.methodLink RX8 145 yX0_squareAt ∈ lw_tbl := (mt3 _ (List.mem_of_getElem? (i := 11) rfl))
theorem ml_L_52 : Cond.methodLink RL 52 yX8_paint ∈ lw_tbl := (mt3 _ (List.mem_of_getElem? (i := 15) rfl))
theorem ml_X8_148 : Cond.methodLink RX8 148 yX0_colour ∈ lw_tbl := (mt3 _ (List.mem_of_getElem? (i := 19) rfl))
theorem ml_X0_44 : Cond.methodLink RX0 44 yX0_squareAt ∈ lw_tbl := (mt3 _ (List.mem_of_getElem? (i := 23) rfl))
theorem kl_X0_48 : Cond.constantLong RX0 48 (-1) ∈ lw_tbl := (mt3 _ (List.mem_of_getElem? (i := 24) rfl))
theorem ml_L_57 : Cond.methodLink RL 57 yX8_wish ∈ lw_tbl := (mt3 _ (List.mem_of_getElem? (i := 25) rfl))
theorem ml_L_61 : Cond.methodLink RL 61 yX8_act ∈ lw_tbl := (mt3 _ (List.mem_of_getElem? (i := 29) rfl))
theorem ml_X8_152 : Cond.methodLink RX8 152 yX0_hasLine ∈ lw_tbl := (mt3 _ (List.mem_of_getElem? (i := 33) rfl))
theorem ml_X8_155 : Cond.methodLink RX8 155 yX0_squaresOf ∈ lw_tbl := (mt3 _ (List.mem_of_getElem? (i := 34) rfl))
theorem ml_X0_54 : Cond.methodLink RX0 54 yX0_hasLine ∈ lw_tbl := (mt3 _ (List.mem_of_getElem? (i := 38) rfl))
theorem ml_X0_36 : Cond.methodLink RX0 36 yX0_everyColumn ∈ lw_tbl := (mt3 _ (List.mem_of_getElem? (i := 39) rfl))
theorem ml_X0_40 : Cond.methodLink RX0 40 yX0_columnSquares ∈ lw_tbl := (mt3 _ (List.mem_of_getElem? (i := 43) rfl))
theorem kl_X0_61 : Cond.constantLong RX0 61 (72340172838076673) ∈ lw_tbl := (mt3 _ (List.mem_of_getElem? (i := 47) rfl))
theorem ml_X0_58 : Cond.methodLink RX0 58 yX0_slantSquares ∈ lw_tbl := (mt3 _ (List.mem_of_getElem? (i := 48) rfl))
theorem ml_X0_63 : Cond.methodLink RX0 63 yX0_hasSquare ∈ lw_tbl := (mt3 _ (List.mem_of_getElem? (i := 52) rfl))
theorem ml_X8_159 : Cond.methodLink RX8 159 yX0_darkSquares ∈ lw_tbl := (mt3 _ (List.mem_of_getElem? (i := 53) rfl))
theorem ml_X0_30 : Cond.methodLink RX0 30 yJ13_bitCount_95d88 ∈ lw_tbl := (mt3 _ (List.mem_of_getElem? (i := 57) rfl))
theorem kl_J13_314 : Cond.constantLong RJ13 314 (6148914691236517205) ∈ lw_tbl := (mt3 _ (List.mem_of_getElem? (i := 60) rfl))
theorem kl_J13_316 : Cond.constantLong RJ13 316 (3689348814741910323) ∈ lw_tbl := (mt3 _ (List.mem_of_getElem? (i := 61) rfl))
theorem kl_J13_318 : Cond.constantLong RJ13 318 (1085102592571150095) ∈ lw_tbl := (mt3 _ (List.mem_of_getElem? (i := 62) rfl))
theorem ml_L_65 : Cond.methodLink RL 65 yX8_turn ∈ lw_tbl := (mt3 _ (List.mem_of_getElem? (i := 63) rfl))
theorem ml_X8_162 : Cond.methodLink RX8 162 yX0_everyRow ∈ lw_tbl := (mt3 _ (List.mem_of_getElem? (i := 67) rfl))
theorem ml_X8_165 : Cond.methodLink RX8 165 yX0_everyColumn ∈ lw_tbl := (mt3 _ (List.mem_of_getElem? (i := 71) rfl))
theorem ml_X8_168 : Cond.methodLink RX8 168 yX0_squaresTurned ∈ lw_tbl := (mt3 _ (List.mem_of_getElem? (i := 72) rfl))
theorem ml_X0_66 : Cond.methodLink RX0 66 yX0_squaresOf ∈ lw_tbl := (mt3 _ (List.mem_of_getElem? (i := 76) rfl))
theorem ml_L_69 : Cond.methodLink RL 69 yX8_go ∈ lw_tbl := (mt3 _ (List.mem_of_getElem? (i := 77) rfl))
theorem ml_X8_171 : Cond.methodLink RX8 171 yX1_kindOf ∈ lw_tbl := (mt3 _ (List.mem_of_getElem? (i := 81) rfl))
theorem ml_X8_174 : Cond.methodLink RX8 174 yX1_numberOf ∈ lw_tbl := (mt3 _ (List.mem_of_getElem? (i := 82) rfl))
theorem ml_L_73 : Cond.methodLink RL 73 yX8_form ∈ lw_tbl := (mt3 _ (List.mem_of_getElem? (i := 83) rfl))
theorem ml_X8_177 : Cond.methodLink RX8 177 yX0_formOf ∈ lw_tbl := (mt3 _ (List.mem_of_getElem? (i := 87) rfl))
theorem ml_X0_70 : Cond.methodLink RX0 70 yX0_rowsUnlikeFirst ∈ lw_tbl := (mt3 _ (List.mem_of_getElem? (i := 91) rfl))
theorem ml_X0_73 : Cond.methodLink RX0 73 yX0_columnsOfFirstRow ∈ lw_tbl := (mt3 _ (List.mem_of_getElem? (i := 95) rfl))
theorem ml_X0_76 : Cond.methodLink RX0 76 yX0_squaresTurned ∈ lw_tbl := (mt3 _ (List.mem_of_getElem? (i := 99) rfl))
theorem kl_X8_181 : Cond.constantLong RX8 181 (-1) ∈ lw_tbl := (mt3 _ (List.mem_of_getElem? (i := 100) rfl))
theorem ml_L_77 : Cond.methodLink RL 77 yX8_forms ∈ lw_tbl := (mt3 _ (List.mem_of_getElem? (i := 101) rfl))
theorem ml_L_82 : Cond.methodLink RL 82 yX8_alike ∈ lw_tbl := (mt3 _ (List.mem_of_getElem? (i := 105) rfl))
theorem ml_X8_183 : Cond.methodLink RX8 183 yX8_imageOf ∈ lw_tbl := (mt3 _ (List.mem_of_getElem? (i := 109) rfl))
theorem ml_X8_187 : Cond.methodLink RX8 187 yX0_sameSize ∈ lw_tbl := (mt3 _ (List.mem_of_getElem? (i := 113) rfl))
theorem ml_L_86 : Cond.methodLink RL 86 yX8_plan ∈ lw_tbl := (mt3 _ (List.mem_of_getElem? (i := 114) rfl))
theorem ml_X8_191 : Cond.methodLink RX8 191 yX7_findPlan ∈ lw_tbl := (mt3 _ (List.mem_of_getElem? (i := 118) rfl))
theorem ml_X7_34 : Cond.methodLink RX7 34 yX0_formOf ∈ lw_tbl := (mt3 _ (List.mem_of_getElem? (i := 122) rfl))
theorem ml_X7_44 : Cond.methodLink RX7 44 yX0_rowsUnlikeFirst ∈ lw_tbl := (mt3 _ (List.mem_of_getElem? (i := 123) rfl))
theorem ml_X7_48 : Cond.methodLink RX7 48 yX0_columnsOfFirstRow ∈ lw_tbl := (mt3 _ (List.mem_of_getElem? (i := 124) rfl))
theorem ml_X7_51 : Cond.methodLink RX7 51 yX7_take ∈ lw_tbl := (mt3 _ (List.mem_of_getElem? (i := 125) rfl))
theorem ml_X7_55 : Cond.methodLink RX7 55 yX0_everyRow ∈ lw_tbl := (mt3 _ (List.mem_of_getElem? (i := 129) rfl))
theorem ml_X7_59 : Cond.methodLink RX7 59 yX7_acts ∈ lw_tbl := (mt3 _ (List.mem_of_getElem? (i := 130) rfl))
theorem ml_X7_22 : Cond.methodLink RX7 22 yJ6_bitCount_0f7a4 ∈ lw_tbl := (mt3 _ (List.mem_of_getElem? (i := 134) rfl))
theorem kl_J6_265 : Cond.constant RJ6 265 (1431655765) ∈ lw_tbl := (mt3 _ (List.mem_of_getElem? (i := 137) rfl))
theorem kl_J6_266 : Cond.constant RJ6 266 (858993459) ∈ lw_tbl := (mt3 _ (List.mem_of_getElem? (i := 138) rfl))
theorem kl_J6_267 : Cond.constant RJ6 267 (252645135) ∈ lw_tbl := (mt3 _ (List.mem_of_getElem? (i := 139) rfl))
theorem ml_X7_68 : Cond.methodLink RX7 68 yX0_everyColumn ∈ lw_tbl := (mt3 _ (List.mem_of_getElem? (i := 140) rfl))
theorem ml_X8_201 : Cond.methodLink RX8 201 yJ6_bitCount_0f7a4 ∈ lw_tbl := (mt3 _ (List.mem_of_getElem? (i := 141) rfl))
theorem ml_X8_209 : Cond.methodLink RX8 209 yJ9_max_7cf53 ∈ lw_tbl := (mt3 _ (List.mem_of_getElem? (i := 142) rfl))
theorem ml_X8_214 : Cond.methodLink RX8 214 yX7_acts ∈ lw_tbl := (mt3 _ (List.mem_of_getElem? (i := 145) rfl))
theorem ml_X8_217 : Cond.methodLink RX8 217 yX8_toldOf ∈ lw_tbl := (mt3 _ (List.mem_of_getElem? (i := 146) rfl))
theorem ml_L_90 : Cond.methodLink RL 90 yX8_nearest ∈ lw_tbl := (mt3 _ (List.mem_of_getElem? (i := 150) rfl))
theorem ml_X8_220 : Cond.methodLink RX8 220 yX7_findNearest ∈ lw_tbl := (mt3 _ (List.mem_of_getElem? (i := 154) rfl))
theorem ml_X7_71 : Cond.methodLink RX7 71 yX0_squaresTurned ∈ lw_tbl := (mt3 _ (List.mem_of_getElem? (i := 158) rfl))
theorem ml_X7_75 : Cond.methodLink RX7 75 yX7_tryRows ∈ lw_tbl := (mt3 _ (List.mem_of_getElem? (i := 159) rfl))
theorem ml_X7_79 : Cond.methodLink RX7 79 yX0_squaresOf ∈ lw_tbl := (mt3 _ (List.mem_of_getElem? (i := 163) rfl))
theorem ml_X7_82 : Cond.methodLink RX7 82 yJ13_bitCount_95d88 ∈ lw_tbl := (mt3 _ (List.mem_of_getElem? (i := 164) rfl))
theorem ml_X7_86 : Cond.methodLink RX7 86 yJ9_min_7cf53 ∈ lw_tbl := (mt3 _ (List.mem_of_getElem? (i := 165) rfl))
theorem ml_L_94 : Cond.methodLink RL 94 yX8_lightest ∈ lw_tbl := (mt3 _ (List.mem_of_getElem? (i := 168) rfl))
theorem ml_L_98 : Cond.methodLink RL 98 yX8_blind ∈ lw_tbl := (mt3 _ (List.mem_of_getElem? (i := 172) rfl))
theorem ml_X8_226 : Cond.methodLink RX8 226 yX7_goBlind ∈ lw_tbl := (mt3 _ (List.mem_of_getElem? (i := 176) rfl))
theorem ml_X7_98 : Cond.methodLink RX7 98 yX7_mostUnlike ∈ lw_tbl := (mt3 _ (List.mem_of_getElem? (i := 180) rfl))
theorem ml_X7_102 : Cond.methodLink RX7 102 yX0_linesOf ∈ lw_tbl := (mt3 _ (List.mem_of_getElem? (i := 183) rfl))
theorem ml_L_102 : Cond.methodLink RL 102 yX8_slanted ∈ lw_tbl := (mt3 _ (List.mem_of_getElem? (i := 184) rfl))
theorem ml_X8_231 : Cond.methodLink RX8 231 yX7_findSlanted ∈ lw_tbl := (mt3 _ (List.mem_of_getElem? (i := 188) rfl))
theorem ml_X7_105 : Cond.methodLink RX7 105 yX7_trySlants ∈ lw_tbl := (mt3 _ (List.mem_of_getElem? (i := 192) rfl))
theorem ml_X7_109 : Cond.methodLink RX7 109 yX7_slantsThatMake ∈ lw_tbl := (mt3 _ (List.mem_of_getElem? (i := 196) rfl))
theorem ml_L_106 : Cond.methodLink RL 106 yX8_power ∈ lw_tbl := (mt3 _ (List.mem_of_getElem? (i := 200) rfl))
theorem ml_X8_234 : Cond.methodLink RX8 234 yX8_independentLines ∈ lw_tbl := (mt3 _ (List.mem_of_getElem? (i := 204) rfl))
theorem ml_L_110 : Cond.methodLink RL 110 yX8_duel ∈ lw_tbl := (mt3 _ (List.mem_of_getElem? (i := 208) rfl))
theorem ml_X8_237 : Cond.methodLink RX8 237 yX8_endOfDuel ∈ lw_tbl := (mt3 _ (List.mem_of_getElem? (i := 212) rfl))
theorem ml_X8_322 : Cond.methodLink RX8 322 yJ13_bitCount_95d88 ∈ lw_tbl := (mt3 _ (List.mem_of_getElem? (i := 215) rfl))
theorem ml_X8_241 : Cond.methodLink RX8 241 yX8_isBetter ∈ lw_tbl := (mt3 _ (List.mem_of_getElem? (i := 216) rfl))
theorem ml_L_115 : Cond.methodLink RL 115 yX8_turned ∈ lw_tbl := (mt3 _ (List.mem_of_getElem? (i := 219) rfl))
theorem ml_L_119 : Cond.methodLink RL 119 yX8_spoilt ∈ lw_tbl := (mt3 _ (List.mem_of_getElem? (i := 223) rfl))
theorem ml_X8_245 : Cond.methodLink RX8 245 yX7_findSpoilt ∈ lw_tbl := (mt3 _ (List.mem_of_getElem? (i := 227) rfl))
theorem ml_X7_118 : Cond.methodLink RX7 118 yX0_hasSquare ∈ lw_tbl := (mt3 _ (List.mem_of_getElem? (i := 231) rfl))
theorem ml_X8_248 : Cond.methodLink RX8 248 yX8_spoiltTold ∈ lw_tbl := (mt3 _ (List.mem_of_getElem? (i := 232) rfl))
theorem ml_L_123 : Cond.methodLink RL 123 yX8_both ∈ lw_tbl := (mt3 _ (List.mem_of_getElem? (i := 236) rfl))
theorem ml_X8_251 : Cond.methodLink RX8 251 yX7_findBothSpoilt ∈ lw_tbl := (mt4 _ (List.mem_of_getElem? (i := 0) rfl))
theorem ml_X7_122 : Cond.methodLink RX7 122 yX7_pairWith ∈ lw_tbl := (mt4 _ (List.mem_of_getElem? (i := 4) rfl))
theorem ml_L_127 : Cond.methodLink RL 127 yX8_rotate ∈ lw_tbl := (mt4 _ (List.mem_of_getElem? (i := 8) rfl))
theorem ml_X8_254 : Cond.methodLink RX8 254 yX0_rotateBy ∈ lw_tbl := (mt4 _ (List.mem_of_getElem? (i := 12) rfl))
theorem ml_X0_79 : Cond.methodLink RX0 79 yX0_mirror ∈ lw_tbl := (mt4 _ (List.mem_of_getElem? (i := 16) rfl))
theorem ml_X0_82 : Cond.methodLink RX0 82 yX0_quarterRight ∈ lw_tbl := (mt4 _ (List.mem_of_getElem? (i := 20) rfl))
theorem ml_X8_258 : Cond.methodLink RX8 258 yX1_clear ∈ lw_tbl := (mt4 _ (List.mem_of_getElem? (i := 24) rfl))
theorem ml_L_131 : Cond.methodLink RL 131 yX8_cut ∈ lw_tbl := (mt4 _ (List.mem_of_getElem? (i := 25) rfl))
theorem ml_X8_261 : Cond.methodLink RX8 261 yX8_isPart ∈ lw_tbl := (mt4 _ (List.mem_of_getElem? (i := 29) rfl))
theorem ml_X8_265 : Cond.methodLink RX8 265 yX0_resize ∈ lw_tbl := (mt4 _ (List.mem_of_getElem? (i := 32) rfl))
theorem ml_X0_26 : Cond.methodLink RX0 26 yX0_allSquares ∈ lw_tbl := (mt4 _ (List.mem_of_getElem? (i := 36) rfl))
theorem ml_X8_269 : Cond.methodLink RX8 269 yX8_forgetPlans ∈ lw_tbl := (mt4 _ (List.mem_of_getElem? (i := 40) rfl))
theorem ml_L_136 : Cond.methodLink RL 136 yX8_sew ∈ lw_tbl := (mt4 _ (List.mem_of_getElem? (i := 44) rfl))
theorem ml_L_141 : Cond.methodLink RL 141 yX8_name ∈ lw_tbl := (mt4 _ (List.mem_of_getElem? (i := 48) rfl))
theorem ml_X8_272 : Cond.methodLink RX8 272 yX2_find ∈ lw_tbl := (mt4 _ (List.mem_of_getElem? (i := 52) rfl))
theorem ml_X2_9 : Cond.methodLink RX2 9 yX0_become ∈ lw_tbl := (mt4 _ (List.mem_of_getElem? (i := 56) rfl))
theorem ml_X2_15 : Cond.methodLink RX2 15 yX0_rotateBy ∈ lw_tbl := (mt4 _ (List.mem_of_getElem? (i := 57) rfl))
theorem ml_X2_23 : Cond.methodLink RX2 23 yX0_formOf ∈ lw_tbl := (mt4 _ (List.mem_of_getElem? (i := 58) rfl))
theorem ml_L_145 : Cond.methodLink RL 145 yX8_cousin ∈ lw_tbl := (mt4 _ (List.mem_of_getElem? (i := 59) rfl))
theorem ml_X8_282 : Cond.methodLink RX8 282 yX2_sameAs ∈ lw_tbl := (mt4 _ (List.mem_of_getElem? (i := 63) rfl))
theorem ml_L_149 : Cond.methodLink RL 149 yX8_keep ∈ lw_tbl := (mt4 _ (List.mem_of_getElem? (i := 67) rfl))
theorem ml_L_153 : Cond.methodLink RL 153 yX8_back ∈ lw_tbl := (mt4 _ (List.mem_of_getElem? (i := 71) rfl))
theorem ml_L_157 : Cond.methodLink RL 157 yX8_sheet ∈ lw_tbl := (mt4 _ (List.mem_of_getElem? (i := 75) rfl))
theorem ml_X8_286 : Cond.methodLink RX8 286 yX4_at ∈ lw_tbl := (mt4 _ (List.mem_of_getElem? (i := 79) rfl))
theorem ml_X8_290 : Cond.methodLink RX8 290 yX8_isLane ∈ lw_tbl := (mt4 _ (List.mem_of_getElem? (i := 83) rfl))
theorem ml_X8_296 : Cond.methodLink RX8 296 yX3_renew ∈ lw_tbl := (mt4 _ (List.mem_of_getElem? (i := 86) rfl))
theorem ml_L_162 : Cond.methodLink RL 162 yX8_lay ∈ lw_tbl := (mt4 _ (List.mem_of_getElem? (i := 90) rfl))
theorem ml_X8_300 : Cond.methodLink RX8 300 yX3_isNothing ∈ lw_tbl := (mt4 _ (List.mem_of_getElem? (i := 94) rfl))
theorem ml_X8_304 : Cond.methodLink RX8 304 yX3_put ∈ lw_tbl := (mt4 _ (List.mem_of_getElem? (i := 98) rfl))
theorem ml_L_166 : Cond.methodLink RL 166 yX8_read ∈ lw_tbl := (mt4 _ (List.mem_of_getElem? (i := 102) rfl))
theorem ml_X8_307 : Cond.methodLink RX8 307 yX3_faultOfLane ∈ lw_tbl := (mt4 _ (List.mem_of_getElem? (i := 106) rfl))
theorem ml_X3_22 : Cond.methodLink RX3 22 yX3_isNothing ∈ lw_tbl := (mt4 _ (List.mem_of_getElem? (i := 110) rfl))
theorem ml_X8_310 : Cond.methodLink RX8 310 yX3_pairsFrom ∈ lw_tbl := (mt4 _ (List.mem_of_getElem? (i := 111) rfl))
theorem ml_X8_313 : Cond.methodLink RX8 313 yJ9_min_7cf53 ∈ lw_tbl := (mt4 _ (List.mem_of_getElem? (i := 115) rfl))
theorem ml_X8_316 : Cond.methodLink RX8 316 yX3_cell ∈ lw_tbl := (mt4 _ (List.mem_of_getElem? (i := 116) rfl))
theorem ml_L_170 : Cond.methodLink RL 170 yX8_torn ∈ lw_tbl := (mt4 _ (List.mem_of_getElem? (i := 120) rfl))
theorem ml_L_174 : Cond.methodLink RL 174 yX8_count ∈ lw_tbl := (mt4 _ (List.mem_of_getElem? (i := 124) rfl))
theorem ml_X8_327 : Cond.methodLink RX8 327 yX4_cellsOf ∈ lw_tbl := (mt4 _ (List.mem_of_getElem? (i := 128) rfl))
theorem ml_X4_18 : Cond.methodLink RX4 18 yX4_at ∈ lw_tbl := (mt4 _ (List.mem_of_getElem? (i := 132) rfl))
theorem ml_X4_22 : Cond.methodLink RX4 22 yX3_isNothing ∈ lw_tbl := (mt4 _ (List.mem_of_getElem? (i := 133) rfl))
theorem cl_L_10 : Cond.classLink RL 10 RX9 ∈ lw_tbl := (mt4 _ (List.mem_of_getElem? (i := 134) rfl))
theorem is_X9 : Cond.instantiable RX9 47 ∈ lw_tbl := (mt4 _ (List.mem_of_getElem? (i := 135) rfl))
theorem ml_L_12 : Cond.methodLink RL 12 yX9_init ∈ lw_tbl := (mt4 _ (List.mem_of_getElem? (i := 136) rfl))
theorem ml_X9_1 : Cond.methodLink RX9 1 Lib.objectInit ∈ lw_tbl := (mt4 _ (List.mem_of_getElem? (i := 139) rfl))
theorem ml_X9_44 : Cond.methodLink RX9 44 yX9_firstDraft ∈ lw_tbl := (mt4 _ (List.mem_of_getElem? (i := 140) rfl))
theorem ml_X9_47 : Cond.methodLink RX9 47 yX9_keepDraft ∈ lw_tbl := (mt4 _ (List.mem_of_getElem? (i := 144) rfl))
theorem fl_X9_74 : Cond.fieldLink RX9 74 "RowsColumnsModel" "high" "I" ∈ lw_tbl := (mt4 _ (List.mem_of_getElem? (i := 148) rfl))
theorem fl_X9_77 : Cond.fieldLink RX9 77 "RowsColumnsModel" "wide" "I" ∈ lw_tbl := (mt4 _ (List.mem_of_getElem? (i := 149) rfl))
theorem fl_X9_80 : Cond.fieldLink RX9 80 "RowsColumnsModel" "cloth" "J" ∈ lw_tbl := (mt4 _ (List.mem_of_getElem? (i := 150) rfl))
theorem fl_X9_83 : Cond.fieldLink RX9 83 "RowsColumnsModel" "pattern" "J" ∈ lw_tbl := (mt4 _ (List.mem_of_getElem? (i := 151) rfl))
theorem fl_X9_86 : Cond.fieldLink RX9 86 "RowsColumnsModel" "hasPattern" "Z" ∈ lw_tbl := (mt4 _ (List.mem_of_getElem? (i := 152) rfl))
theorem fl_X9_89 : Cond.fieldLink RX9 89 "RowsColumnsModel" "days" "I" ∈ lw_tbl := (mt4 _ (List.mem_of_getElem? (i := 153) rfl))
theorem fl_X9_7 : Cond.fieldLink RX9 7 "RowsColumnsModel" "day" "[I" ∈ lw_tbl := (mt4 _ (List.mem_of_getElem? (i := 154) rfl))
theorem fl_X9_13 : Cond.fieldLink RX9 13 "RowsColumnsModel" "image" "[J" ∈ lw_tbl := (mt4 _ (List.mem_of_getElem? (i := 155) rfl))
theorem fl_X9_17 : Cond.fieldLink RX9 17 "RowsColumnsModel" "imageHigh" "[I" ∈ lw_tbl := (mt4 _ (List.mem_of_getElem? (i := 156) rfl))
theorem fl_X9_20 : Cond.fieldLink RX9 20 "RowsColumnsModel" "imageWide" "[I" ∈ lw_tbl := (mt4 _ (List.mem_of_getElem? (i := 157) rfl))
theorem fl_X9_50 : Cond.fieldLink RX9 50 "RowsColumnsModel" "dHigh" "I" ∈ lw_tbl := (mt4 _ (List.mem_of_getElem? (i := 158) rfl))
theorem fl_X9_54 : Cond.fieldLink RX9 54 "RowsColumnsModel" "dWide" "I" ∈ lw_tbl := (mt4 _ (List.mem_of_getElem? (i := 159) rfl))
theorem fl_X9_57 : Cond.fieldLink RX9 57 "RowsColumnsModel" "dCloth" "J" ∈ lw_tbl := (mt4 _ (List.mem_of_getElem? (i := 160) rfl))
theorem fl_X9_183 : Cond.fieldLink RX9 183 "RowsColumnsModel" "pHigh" "I" ∈ lw_tbl := (mt4 _ (List.mem_of_getElem? (i := 161) rfl))
theorem fl_X9_186 : Cond.fieldLink RX9 186 "RowsColumnsModel" "pWide" "I" ∈ lw_tbl := (mt4 _ (List.mem_of_getElem? (i := 162) rfl))
theorem fl_X9_61 : Cond.fieldLink RX9 61 "RowsColumnsModel" "dPattern" "J" ∈ lw_tbl := (mt4 _ (List.mem_of_getElem? (i := 163) rfl))
theorem fl_X9_64 : Cond.fieldLink RX9 64 "RowsColumnsModel" "hasCloth" "Z" ∈ lw_tbl := (mt4 _ (List.mem_of_getElem? (i := 164) rfl))
theorem fl_X9_68 : Cond.fieldLink RX9 68 "RowsColumnsModel" "dHasPattern" "Z" ∈ lw_tbl := (mt4 _ (List.mem_of_getElem? (i := 165) rfl))
theorem fl_X9_71 : Cond.fieldLink RX9 71 "RowsColumnsModel" "dDays" "I" ∈ lw_tbl := (mt4 _ (List.mem_of_getElem? (i := 166) rfl))
theorem fl_X9_23 : Cond.fieldLink RX9 23 "RowsColumnsModel" "dDay" "[I" ∈ lw_tbl := (mt4 _ (List.mem_of_getElem? (i := 167) rfl))
theorem fl_X9_26 : Cond.fieldLink RX9 26 "RowsColumnsModel" "tape" "[I" ∈ lw_tbl := (mt4 _ (List.mem_of_getElem? (i := 168) rfl))
theorem fl_X9_92 : Cond.fieldLink RX9 92 "RowsColumnsModel" "taped" "I" ∈ lw_tbl := (mt4 _ (List.mem_of_getElem? (i := 169) rfl))
theorem fl_X9_110 : Cond.fieldLink RX9 110 "RowsColumnsModel" "pos" "I" ∈ lw_tbl := (mt4 _ (List.mem_of_getElem? (i := 170) rfl))
theorem fl_X9_104 : Cond.fieldLink RX9 104 "RowsColumnsModel" "from" "I" ∈ lw_tbl := (mt4 _ (List.mem_of_getElem? (i := 171) rfl))
theorem fl_X9_124 : Cond.fieldLink RX9 124 "RowsColumnsModel" "sort" "I" ∈ lw_tbl := (mt4 _ (List.mem_of_getElem? (i := 172) rfl))
theorem fl_X9_135 : Cond.fieldLink RX9 135 "RowsColumnsModel" "value" "I" ∈ lw_tbl := (mt4 _ (List.mem_of_getElem? (i := 173) rfl))
theorem fl_X9_101 : Cond.fieldLink RX9 101 "RowsColumnsModel" "fault" "I" ∈ lw_tbl := (mt4 _ (List.mem_of_getElem? (i := 174) rfl))
theorem fl_X9_107 : Cond.fieldLink RX9 107 "RowsColumnsModel" "wrongAt" "I" ∈ lw_tbl := (mt4 _ (List.mem_of_getElem? (i := 175) rfl))
theorem fl_X9_142 : Cond.fieldLink RX9 142 "RowsColumnsModel" "rowsRead" "I" ∈ lw_tbl := (mt4 _ (List.mem_of_getElem? (i := 176) rfl))
theorem fl_X9_145 : Cond.fieldLink RX9 145 "RowsColumnsModel" "wideRead" "I" ∈ lw_tbl := (mt4 _ (List.mem_of_getElem? (i := 177) rfl))
theorem fl_X9_148 : Cond.fieldLink RX9 148 "RowsColumnsModel" "setRead" "J" ∈ lw_tbl := (mt4 _ (List.mem_of_getElem? (i := 178) rfl))
theorem fl_X9_245 : Cond.fieldLink RX9 245 "RowsColumnsModel" "planRows" "I" ∈ lw_tbl := (mt4 _ (List.mem_of_getElem? (i := 179) rfl))
theorem fl_X9_248 : Cond.fieldLink RX9 248 "RowsColumnsModel" "planColumns" "I" ∈ lw_tbl := (mt4 _ (List.mem_of_getElem? (i := 180) rfl))
theorem fl_X9_260 : Cond.fieldLink RX9 260 "RowsColumnsModel" "nearMany" "I" ∈ lw_tbl := (mt4 _ (List.mem_of_getElem? (i := 181) rfl))
theorem fl_X9_263 : Cond.fieldLink RX9 263 "RowsColumnsModel" "nearRows" "I" ∈ lw_tbl := (mt4 _ (List.mem_of_getElem? (i := 182) rfl))
theorem fl_X9_266 : Cond.fieldLink RX9 266 "RowsColumnsModel" "nearColumns" "I" ∈ lw_tbl := (mt4 _ (List.mem_of_getElem? (i := 183) rfl))
theorem fl_X9_29 : Cond.fieldLink RX9 29 "RowsColumnsModel" "base" "[J" ∈ lw_tbl := (mt4 _ (List.mem_of_getElem? (i := 184) rfl))
theorem fl_X9_32 : Cond.fieldLink RX9 32 "RowsColumnsModel" "worth" "[I" ∈ lw_tbl := (mt4 _ (List.mem_of_getElem? (i := 185) rfl))
theorem fl_X9_301 : Cond.fieldLink RX9 301 "RowsColumnsModel" "firstMove" "I" ∈ lw_tbl := (mt4 _ (List.mem_of_getElem? (i := 186) rfl))
theorem fl_X9_320 : Cond.fieldLink RX9 320 "RowsColumnsModel" "nameForm" "J" ∈ lw_tbl := (mt4 _ (List.mem_of_getElem? (i := 187) rfl))
theorem fl_X9_317 : Cond.fieldLink RX9 317 "RowsColumnsModel" "nameTurning" "I" ∈ lw_tbl := (mt4 _ (List.mem_of_getElem? (i := 188) rfl))
theorem fl_X9_323 : Cond.fieldLink RX9 323 "RowsColumnsModel" "nameHigh" "I" ∈ lw_tbl := (mt4 _ (List.mem_of_getElem? (i := 189) rfl))
theorem fl_X9_326 : Cond.fieldLink RX9 326 "RowsColumnsModel" "nameWide" "I" ∈ lw_tbl := (mt4 _ (List.mem_of_getElem? (i := 190) rfl))
theorem fl_X9_35 : Cond.fieldLink RX9 35 "RowsColumnsModel" "lanes" "[I" ∈ lw_tbl := (mt4 _ (List.mem_of_getElem? (i := 191) rfl))
theorem fl_X9_38 : Cond.fieldLink RX9 38 "RowsColumnsModel" "sizes" "[I" ∈ lw_tbl := (mt4 _ (List.mem_of_getElem? (i := 192) rfl))
theorem fl_X9_41 : Cond.fieldLink RX9 41 "RowsColumnsModel" "cells" "[I" ∈ lw_tbl := (mt4 _ (List.mem_of_getElem? (i := 193) rfl))
theorem fl_X9_338 : Cond.fieldLink RX9 338 "RowsColumnsModel" "torn" "I" ∈ lw_tbl := (mt4 _ (List.mem_of_getElem? (i := 194) rfl))
theorem ml_L_19 : Cond.methodLink RL 19 yX9_feed ∈ lw_tbl := (mt5 _ (List.mem_of_getElem? (i := 50) rfl))
theorem kl_X9_95 : Cond.constantLong RX9 95 (255) ∈ lw_tbl := (mt5 _ (List.mem_of_getElem? (i := 54) rfl))
theorem ml_L_24 : Cond.methodLink RL 24 yX9_end ∈ lw_tbl := (mt5 _ (List.mem_of_getElem? (i := 55) rfl))
theorem ml_X9_97 : Cond.methodLink RX9 97 yX9_in ∈ lw_tbl := (mt5 _ (List.mem_of_getElem? (i := 59) rfl))
theorem ml_L_29 : Cond.methodLink RL 29 yX9_text ∈ lw_tbl := (mt5 _ (List.mem_of_getElem? (i := 62) rfl))
theorem ml_X9_159 : Cond.methodLink RX9 159 yX9_next ∈ lw_tbl := (mt5 _ (List.mem_of_getElem? (i := 66) rfl))
theorem ml_X9_113 : Cond.methodLink RX9 113 yX9_look ∈ lw_tbl := (mt5 _ (List.mem_of_getElem? (i := 70) rfl))
theorem kl_X9_127 : Cond.constantLong RX9 127 (97) ∈ lw_tbl := (mt5 _ (List.mem_of_getElem? (i := 74) rfl))
theorem kl_X9_129 : Cond.constantLong RX9 129 (122) ∈ lw_tbl := (mt5 _ (List.mem_of_getElem? (i := 75) rfl))
theorem kl_X9_131 : Cond.constantLong RX9 131 (48) ∈ lw_tbl := (mt5 _ (List.mem_of_getElem? (i := 76) rfl))
theorem kl_X9_133 : Cond.constantLong RX9 133 (57) ∈ lw_tbl := (mt5 _ (List.mem_of_getElem? (i := 77) rfl))
theorem ml_X9_138 : Cond.methodLink RX9 138 yX9_needs ∈ lw_tbl := (mt5 _ (List.mem_of_getElem? (i := 78) rfl))
theorem ml_X9_194 : Cond.methodLink RX9 194 yX9_readLine ∈ lw_tbl := (mt5 _ (List.mem_of_getElem? (i := 82) rfl))
theorem ml_X9_174 : Cond.methodLink RX9 174 yX9_lineNow ∈ lw_tbl := (mt5 _ (List.mem_of_getElem? (i := 86) rfl))
theorem ml_X9_117 : Cond.methodLink RX9 117 yX9_is ∈ lw_tbl := (mt5 _ (List.mem_of_getElem? (i := 90) rfl))
theorem ml_X9_121 : Cond.methodLink RX9 121 yX9_goesOn ∈ lw_tbl := (mt5 _ (List.mem_of_getElem? (i := 94) rfl))
theorem ml_X9_177 : Cond.methodLink RX9 177 yX9_readDay ∈ lw_tbl := (mt5 _ (List.mem_of_getElem? (i := 98) rfl))
theorem ml_X9_170 : Cond.methodLink RX9 170 yX9_readAct ∈ lw_tbl := (mt5 _ (List.mem_of_getElem? (i := 102) rfl))
theorem ml_X9_162 : Cond.methodLink RX9 162 yX9_actNow ∈ lw_tbl := (mt5 _ (List.mem_of_getElem? (i := 106) rfl))
theorem kl_X9_166 : Cond.constantLong RX9 166 (14) ∈ lw_tbl := (mt5 _ (List.mem_of_getElem? (i := 110) rfl))
theorem kl_X9_168 : Cond.constantLong RX9 168 (7) ∈ lw_tbl := (mt5 _ (List.mem_of_getElem? (i := 111) rfl))
theorem ml_X9_180 : Cond.methodLink RX9 180 yX9_readRows ∈ lw_tbl := (mt5 _ (List.mem_of_getElem? (i := 112) rfl))
theorem ml_X9_151 : Cond.methodLink RX9 151 yX9_isRowName ∈ lw_tbl := (mt5 _ (List.mem_of_getElem? (i := 116) rfl))
theorem ml_X9_155 : Cond.methodLink RX9 155 yX9_bitOf ∈ lw_tbl := (mt5 _ (List.mem_of_getElem? (i := 120) rfl))
theorem ml_X9_197 : Cond.methodLink RX9 197 yX9_areActs ∈ lw_tbl := (mt5 _ (List.mem_of_getElem? (i := 123) rfl))
theorem ml_X9_191 : Cond.methodLink RX9 191 yX9_isActOf ∈ lw_tbl := (mt5 _ (List.mem_of_getElem? (i := 127) rfl))
theorem kl_X9_189 : Cond.constantLong RX9 189 (2) ∈ lw_tbl := (mt5 _ (List.mem_of_getElem? (i := 130) rfl))
theorem ml_L_33 : Cond.methodLink RL 33 yX9_fault ∈ lw_tbl := (mt5 _ (List.mem_of_getElem? (i := 131) rfl))
theorem ml_L_37 : Cond.methodLink RL 37 yX9_rule ∈ lw_tbl := (mt5 _ (List.mem_of_getElem? (i := 135) rfl))
theorem ml_X9_200 : Cond.methodLink RX9 200 yX9_flag ∈ lw_tbl := (mt5 _ (List.mem_of_getElem? (i := 139) rfl))
theorem ml_L_42 : Cond.methodLink RL 42 yX9_day ∈ lw_tbl := (mt5 _ (List.mem_of_getElem? (i := 142) rfl))
theorem kl_X9_204 : Cond.constantLong RX9 204 (-1) ∈ lw_tbl := (mt5 _ (List.mem_of_getElem? (i := 146) rfl))
theorem ml_L_47 : Cond.methodLink RL 47 yX9_cloth ∈ lw_tbl := (mt5 _ (List.mem_of_getElem? (i := 147) rfl))
theorem ml_L_51 : Cond.methodLink RL 51 yX9_square ∈ lw_tbl := (mt5 _ (List.mem_of_getElem? (i := 151) rfl))
theorem ml_X9_206 : Cond.methodLink RX9 206 yX9_isSquare ∈ lw_tbl := (mt5 _ (List.mem_of_getElem? (i := 155) rfl))
theorem ml_X9_210 : Cond.methodLink RX9 210 yX9_isDark ∈ lw_tbl := (mt5 _ (List.mem_of_getElem? (i := 159) rfl))
theorem ml_L_56 : Cond.methodLink RL 56 yX9_paint ∈ lw_tbl := (mt5 _ (List.mem_of_getElem? (i := 162) rfl))
theorem ml_L_60 : Cond.methodLink RL 60 yX9_wish ∈ lw_tbl := (mt5 _ (List.mem_of_getElem? (i := 166) rfl))
theorem ml_L_64 : Cond.methodLink RL 64 yX9_act ∈ lw_tbl := (mt5 _ (List.mem_of_getElem? (i := 170) rfl))
theorem ml_X9_214 : Cond.methodLink RX9 214 yX9_isAct ∈ lw_tbl := (mt5 _ (List.mem_of_getElem? (i := 174) rfl))
theorem ml_X9_217 : Cond.methodLink RX9 217 yX9_actSet ∈ lw_tbl := (mt5 _ (List.mem_of_getElem? (i := 178) rfl))
theorem ml_X9_220 : Cond.methodLink RX9 220 yX9_many ∈ lw_tbl := (mt5 _ (List.mem_of_getElem? (i := 182) rfl))
theorem ml_L_68 : Cond.methodLink RL 68 yX9_turn ∈ lw_tbl := (mt5 _ (List.mem_of_getElem? (i := 185) rfl))
theorem ml_X9_224 : Cond.methodLink RX9 224 yX9_turnSet ∈ lw_tbl := (mt5 _ (List.mem_of_getElem? (i := 189) rfl))
theorem ml_L_72 : Cond.methodLink RL 72 yX9_go ∈ lw_tbl := (mt5 _ (List.mem_of_getElem? (i := 193) rfl))
theorem ml_L_76 : Cond.methodLink RL 76 yX9_form ∈ lw_tbl := (mt5 _ (List.mem_of_getElem? (i := 197) rfl))
theorem ml_X9_231 : Cond.methodLink RX9 231 yX9_formNow ∈ lw_tbl := (mt5 _ (List.mem_of_getElem? (i := 201) rfl))
theorem ml_X9_227 : Cond.methodLink RX9 227 yX9_formOf ∈ lw_tbl := (mt5 _ (List.mem_of_getElem? (i := 205) rfl))
theorem ml_L_81 : Cond.methodLink RL 81 yX9_forms ∈ lw_tbl := (mt5 _ (List.mem_of_getElem? (i := 208) rfl))
theorem ml_L_85 : Cond.methodLink RL 85 yX9_alike ∈ lw_tbl := (mt5 _ (List.mem_of_getElem? (i := 212) rfl))
theorem ml_X9_235 : Cond.methodLink RX9 235 yX9_isImage ∈ lw_tbl := (mt5 _ (List.mem_of_getElem? (i := 216) rfl))
theorem ml_X9_239 : Cond.methodLink RX9 239 yX9_isKept ∈ lw_tbl := (mt5 _ (List.mem_of_getElem? (i := 219) rfl))
theorem ml_X9_242 : Cond.methodLink RX9 242 yX9_isOfSize ∈ lw_tbl := (mt5 _ (List.mem_of_getElem? (i := 223) rfl))
theorem ml_L_89 : Cond.methodLink RL 89 yX9_plan ∈ lw_tbl := (mt5 _ (List.mem_of_getElem? (i := 227) rfl))
theorem kl_X9_251 : Cond.constantLong RX9 251 (3) ∈ lw_tbl := (mt5 _ (List.mem_of_getElem? (i := 231) rfl))
theorem ml_X9_253 : Cond.methodLink RX9 253 yX9_findPlan ∈ lw_tbl := (mt5 _ (List.mem_of_getElem? (i := 232) rfl))
theorem ml_X9_257 : Cond.methodLink RX9 257 yX9_planTold ∈ lw_tbl := (mt5 _ (List.mem_of_getElem? (i := 236) rfl))
theorem ml_L_93 : Cond.methodLink RL 93 yX9_nearest ∈ lw_tbl := (mt6 _ (List.mem_of_getElem? (i := 0) rfl))
theorem ml_X9_269 : Cond.methodLink RX9 269 yX9_findNearest ∈ lw_tbl := (mt6 _ (List.mem_of_getElem? (i := 4) rfl))
theorem ml_X9_273 : Cond.methodLink RX9 273 yX9_nearTold ∈ lw_tbl := (mt6 _ (List.mem_of_getElem? (i := 8) rfl))
theorem ml_L_97 : Cond.methodLink RL 97 yX9_lightest ∈ lw_tbl := (mt6 _ (List.mem_of_getElem? (i := 12) rfl))
theorem ml_L_101 : Cond.methodLink RL 101 yX9_blind ∈ lw_tbl := (mt6 _ (List.mem_of_getElem? (i := 16) rfl))
theorem ml_X9_276 : Cond.methodLink RX9 276 yX9_mostOf ∈ lw_tbl := (mt6 _ (List.mem_of_getElem? (i := 20) rfl))
theorem ml_L_105 : Cond.methodLink RL 105 yX9_slanted ∈ lw_tbl := (mt6 _ (List.mem_of_getElem? (i := 24) rfl))
theorem ml_X9_280 : Cond.methodLink RX9 280 yX9_isBefore ∈ lw_tbl := (mt6 _ (List.mem_of_getElem? (i := 28) rfl))
theorem ml_L_109 : Cond.methodLink RL 109 yX9_power ∈ lw_tbl := (mt6 _ (List.mem_of_getElem? (i := 32) rfl))
theorem ml_X9_284 : Cond.methodLink RX9 284 yX9_isNew ∈ lw_tbl := (mt6 _ (List.mem_of_getElem? (i := 36) rfl))
theorem ml_L_114 : Cond.methodLink RL 114 yX9_duel ∈ lw_tbl := (mt6 _ (List.mem_of_getElem? (i := 40) rfl))
theorem kl_X9_291 : Cond.constantLong RX9 291 (4) ∈ lw_tbl := (mt6 _ (List.mem_of_getElem? (i := 44) rfl))
theorem ml_X9_293 : Cond.methodLink RX9 293 yX9_worthOf ∈ lw_tbl := (mt6 _ (List.mem_of_getElem? (i := 45) rfl))
theorem ml_X9_287 : Cond.methodLink RX9 287 yX9_isMove ∈ lw_tbl := (mt6 _ (List.mem_of_getElem? (i := 49) rfl))
theorem ml_X9_297 : Cond.methodLink RX9 297 yX9_best ∈ lw_tbl := (mt6 _ (List.mem_of_getElem? (i := 53) rfl))
theorem ml_L_118 : Cond.methodLink RL 118 yX9_turned ∈ lw_tbl := (mt6 _ (List.mem_of_getElem? (i := 57) rfl))
theorem ml_L_122 : Cond.methodLink RL 122 yX9_spoilt ∈ lw_tbl := (mt6 _ (List.mem_of_getElem? (i := 61) rfl))
theorem ml_L_126 : Cond.methodLink RL 126 yX9_both ∈ lw_tbl := (mt6 _ (List.mem_of_getElem? (i := 65) rfl))
theorem ml_L_130 : Cond.methodLink RL 130 yX9_rotate ∈ lw_tbl := (mt6 _ (List.mem_of_getElem? (i := 69) rfl))
theorem ml_X9_310 : Cond.methodLink RX9 310 yX9_rotated ∈ lw_tbl := (mt6 _ (List.mem_of_getElem? (i := 73) rfl))
theorem ml_X9_304 : Cond.methodLink RX9 304 yX9_mirrored ∈ lw_tbl := (mt6 _ (List.mem_of_getElem? (i := 76) rfl))
theorem ml_X9_307 : Cond.methodLink RX9 307 yX9_quarter ∈ lw_tbl := (mt6 _ (List.mem_of_getElem? (i := 79) rfl))
theorem ml_L_135 : Cond.methodLink RL 135 yX9_cut ∈ lw_tbl := (mt6 _ (List.mem_of_getElem? (i := 82) rfl))
theorem ml_X9_314 : Cond.methodLink RX9 314 yX9_endsPattern ∈ lw_tbl := (mt6 _ (List.mem_of_getElem? (i := 86) rfl))
theorem ml_L_140 : Cond.methodLink RL 140 yX9_sew ∈ lw_tbl := (mt6 _ (List.mem_of_getElem? (i := 90) rfl))
theorem ml_L_144 : Cond.methodLink RL 144 yX9_name ∈ lw_tbl := (mt6 _ (List.mem_of_getElem? (i := 94) rfl))
theorem ml_X9_329 : Cond.methodLink RX9 329 yX9_findName ∈ lw_tbl := (mt6 _ (List.mem_of_getElem? (i := 98) rfl))
theorem ml_L_148 : Cond.methodLink RL 148 yX9_cousin ∈ lw_tbl := (mt6 _ (List.mem_of_getElem? (i := 102) rfl))
theorem ml_L_152 : Cond.methodLink RL 152 yX9_keep ∈ lw_tbl := (mt6 _ (List.mem_of_getElem? (i := 106) rfl))
theorem ml_L_156 : Cond.methodLink RL 156 yX9_back ∈ lw_tbl := (mt6 _ (List.mem_of_getElem? (i := 110) rfl))
theorem ml_L_161 : Cond.methodLink RL 161 yX9_sheet ∈ lw_tbl := (mt6 _ (List.mem_of_getElem? (i := 114) rfl))
theorem ml_X9_333 : Cond.methodLink RX9 333 yX9_isSheet ∈ lw_tbl := (mt6 _ (List.mem_of_getElem? (i := 118) rfl))
theorem ml_L_165 : Cond.methodLink RL 165 yX9_lay ∈ lw_tbl := (mt6 _ (List.mem_of_getElem? (i := 121) rfl))
theorem ml_L_169 : Cond.methodLink RL 169 yX9_read ∈ lw_tbl := (mt6 _ (List.mem_of_getElem? (i := 125) rfl))
theorem kl_X9_336 : Cond.constantLong RX9 336 (20) ∈ lw_tbl := (mt6 _ (List.mem_of_getElem? (i := 129) rfl))
theorem ml_L_173 : Cond.methodLink RL 173 yX9_torn ∈ lw_tbl := (mt6 _ (List.mem_of_getElem? (i := 130) rfl))
theorem ml_L_177 : Cond.methodLink RL 177 yX9_count ∈ lw_tbl := (mt6 _ (List.mem_of_getElem? (i := 134) rfl))
theorem kl_L_13 : Cond.constantLong RL 13 (4294967295) ∈ lw_tbl := (mt6 _ (List.mem_of_getElem? (i := 138) rfl))
theorem fl_J0_9 : Cond.fieldLink RJ0 9 "java/lang/String" "value" "[B" ∈ lw_tbl := (mt6 _ (List.mem_of_getElem? (i := 139) rfl))
theorem fl_J0_15 : Cond.fieldLink RJ0 15 "java/lang/String" "coder" "B" ∈ lw_tbl := (mt6 _ (List.mem_of_getElem? (i := 140) rfl))
theorem oc_code : Cond.code Lib.objectInit ⟨#[0xb1]⟩ 1 none ∈ lw_tbl := (mt1 _ (List.mem_of_getElem? (i := 25) rfl))
theorem oc_inst : Cond.instanceMethod Lib.objectInit ∈ lw_tbl := (mt1 _ (List.mem_of_getElem? (i := 24) rfl))
