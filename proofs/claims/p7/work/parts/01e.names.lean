theorem mo_X4_cellsOf : MOv x_X4_cellsOf 1 := ⟨⟨(mt4 _ (List.mem_of_getElem? (i := 131) rfl)), (mt1 _ (List.mem_of_getElem? (i := 6) rfl)), ⟨by decide +kernel, by decide +kernel, by decide +kernel⟩, by decide +kernel⟩, (mt4 _ (List.mem_of_getElem? (i := 129) rfl)), (mt4 _ (List.mem_of_getElem? (i := 130) rfl))⟩
def x_X5_init : Mx := (yX5_init, cX5_init, 1, none)
theorem mo_X5_init : MOi x_X5_init 0 := ⟨⟨(mt1 _ (List.mem_of_getElem? (i := 81) rfl)), (mt1 _ (List.mem_of_getElem? (i := 4) rfl)), ⟨by decide +kernel, by decide +kernel, by decide +kernel⟩, by decide +kernel⟩, (mt1 _ (List.mem_of_getElem? (i := 80) rfl)), rfl⟩
def x_X5_add : Mx := (yX5_add, cX5_add, 5, (some .boolean))
theorem mo_X5_add : MOv x_X5_add 1 := ⟨⟨(mt2 _ (List.mem_of_getElem? (i := 46) rfl)), (mt1 _ (List.mem_of_getElem? (i := 4) rfl)), ⟨by decide +kernel, by decide +kernel, by decide +kernel⟩, by decide +kernel⟩, (mt2 _ (List.mem_of_getElem? (i := 44) rfl)), (mt2 _ (List.mem_of_getElem? (i := 45) rfl))⟩
def x_X5_byteAt : Mx := (yX5_byteAt, cX5_byteAt, 2, (some .int))
theorem mo_X5_byteAt : MOv x_X5_byteAt 1 := ⟨⟨(mt2 _ (List.mem_of_getElem? (i := 78) rfl)), (mt1 _ (List.mem_of_getElem? (i := 4) rfl)), ⟨by decide +kernel, by decide +kernel, by decide +kernel⟩, by decide +kernel⟩, (mt2 _ (List.mem_of_getElem? (i := 76) rfl)), (mt2 _ (List.mem_of_getElem? (i := 77) rfl))⟩
def x_X6_init : Mx := (yX6_init, cX6_init, 2, none)
theorem mo_X6_init : MOi x_X6_init 1 := ⟨⟨(mt1 _ (List.mem_of_getElem? (i := 97) rfl)), (mt1 _ (List.mem_of_getElem? (i := 5) rfl)), ⟨by decide +kernel, by decide +kernel, by decide +kernel⟩, by decide +kernel⟩, (mt1 _ (List.mem_of_getElem? (i := 96) rfl)), rfl⟩
def x_X6_takeText : Mx := (yX6_takeText, cX6_takeText, 2, (some .int))
theorem mo_X6_takeText : MOv x_X6_takeText 0 := ⟨⟨(mt2 _ (List.mem_of_getElem? (i := 58) rfl)), (mt1 _ (List.mem_of_getElem? (i := 5) rfl)), ⟨by decide +kernel, by decide +kernel, by decide +kernel⟩, by decide +kernel⟩, (mt2 _ (List.mem_of_getElem? (i := 56) rfl)), (mt2 _ (List.mem_of_getElem? (i := 57) rfl))⟩
def x_X6_refuse : Mx := (yX6_refuse, cX6_refuse, 2, (some .boolean))
theorem mo_X6_refuse : MOv x_X6_refuse 1 := ⟨⟨(mt2 _ (List.mem_of_getElem? (i := 92) rfl)), (mt1 _ (List.mem_of_getElem? (i := 5) rfl)), ⟨by decide +kernel, by decide +kernel, by decide +kernel⟩, by decide +kernel⟩, (mt2 _ (List.mem_of_getElem? (i := 91) rfl)), (mp _ (List.mem_of_getElem? (i := 3) rfl : (yX6_refuse, 10) ∈ lw_privs))⟩
def x_X6_takeLine : Mx := (yX6_takeLine, cX6_takeLine, 1, (some .boolean))
theorem mo_X6_takeLine : MOv x_X6_takeLine 0 := ⟨⟨(mt2 _ (List.mem_of_getElem? (i := 70) rfl)), (mt1 _ (List.mem_of_getElem? (i := 5) rfl)), ⟨by decide +kernel, by decide +kernel, by decide +kernel⟩, by decide +kernel⟩, (mt2 _ (List.mem_of_getElem? (i := 69) rfl)), (mp _ (List.mem_of_getElem? (i := 0) rfl : (yX6_takeLine, 10) ∈ lw_privs))⟩
def x_X6_takeRows : Mx := (yX6_takeRows, cX6_takeRows, 3, (some .boolean))
theorem mo_X6_takeRows : MOv x_X6_takeRows 1 := ⟨⟨(mt2 _ (List.mem_of_getElem? (i := 149) rfl)), (mt1 _ (List.mem_of_getElem? (i := 5) rfl)), ⟨by decide +kernel, by decide +kernel, by decide +kernel⟩, by decide +kernel⟩, (mt2 _ (List.mem_of_getElem? (i := 148) rfl)), (mp _ (List.mem_of_getElem? (i := 5) rfl : (yX6_takeRows, 10) ∈ lw_privs))⟩
def x_X6_takeRow : Mx := (yX6_takeRow, cX6_takeRow, 4, (some .boolean))
theorem mo_X6_takeRow : MOv x_X6_takeRow 1 := ⟨⟨(mt2 _ (List.mem_of_getElem? (i := 153) rfl)), (mt1 _ (List.mem_of_getElem? (i := 5) rfl)), ⟨by decide +kernel, by decide +kernel, by decide +kernel⟩, by decide +kernel⟩, (mt2 _ (List.mem_of_getElem? (i := 152) rfl)), (mp _ (List.mem_of_getElem? (i := 6) rfl : (yX6_takeRow, 10) ∈ lw_privs))⟩
def x_X6_takeDay : Mx := (yX6_takeDay, cX6_takeDay, 3, (some .boolean))
theorem mo_X6_takeDay : MOv x_X6_takeDay 0 := ⟨⟨(mt2 _ (List.mem_of_getElem? (i := 163) rfl)), (mt1 _ (List.mem_of_getElem? (i := 5) rfl)), ⟨by decide +kernel, by decide +kernel, by decide +kernel⟩, by decide +kernel⟩, (mt2 _ (List.mem_of_getElem? (i := 162) rfl)), (mp _ (List.mem_of_getElem? (i := 8) rfl : (yX6_takeDay, 10) ∈ lw_privs))⟩
def x_X6_takeNumber : Mx := (yX6_takeNumber, cX6_takeNumber, 2, (some .boolean))
theorem mo_X6_takeNumber : MOv x_X6_takeNumber 1 := ⟨⟨(mt2 _ (List.mem_of_getElem? (i := 178) rfl)), (mt1 _ (List.mem_of_getElem? (i := 5) rfl)), ⟨by decide +kernel, by decide +kernel, by decide +kernel⟩, by decide +kernel⟩, (mt2 _ (List.mem_of_getElem? (i := 177) rfl)), (mp _ (List.mem_of_getElem? (i := 10) rfl : (yX6_takeNumber, 10) ∈ lw_privs))⟩
def x_X6_judgeWhole : Mx := (yX6_judgeWhole, cX6_judgeWhole, 3, none)
theorem mo_X6_judgeWhole : MOv x_X6_judgeWhole 0 := ⟨⟨(mt2 _ (List.mem_of_getElem? (i := 190) rfl)), (mt1 _ (List.mem_of_getElem? (i := 5) rfl)), ⟨by decide +kernel, by decide +kernel, by decide +kernel⟩, by decide +kernel⟩, (mt2 _ (List.mem_of_getElem? (i := 189) rfl)), (mp _ (List.mem_of_getElem? (i := 11) rfl : (yX6_judgeWhole, 10) ∈ lw_privs))⟩
def x_X6_kindNamed : Mx := (yX6_kindNamed, cX6_kindNamed, 1, (some .int))
theorem mo_X6_kindNamed : MOv x_X6_kindNamed 0 := ⟨⟨(mt2 _ (List.mem_of_getElem? (i := 171) rfl)), (mt1 _ (List.mem_of_getElem? (i := 5) rfl)), ⟨by decide +kernel, by decide +kernel, by decide +kernel⟩, by decide +kernel⟩, (mt2 _ (List.mem_of_getElem? (i := 170) rfl)), (mp _ (List.mem_of_getElem? (i := 9) rfl : (yX6_kindNamed, 10) ∈ lw_privs))⟩
def x_X6_isNamed : Mx := (yX6_isNamed, cX6_isNamed, 3, (some .boolean))
theorem mo_X6_isNamed : MOv x_X6_isNamed 1 := ⟨⟨(mt2 _ (List.mem_of_getElem? (i := 97) rfl)), (mt1 _ (List.mem_of_getElem? (i := 5) rfl)), ⟨by decide +kernel, by decide +kernel, by decide +kernel⟩, by decide +kernel⟩, (mt2 _ (List.mem_of_getElem? (i := 96) rfl)), (mp _ (List.mem_of_getElem? (i := 4) rfl : (yX6_isNamed, 10) ∈ lw_privs))⟩
def x_X6_isRow : Mx := (yX6_isRow, cX6_isRow, 3, (some .boolean))
theorem mo_X6_isRow : MOv x_X6_isRow 0 := ⟨⟨(mt2 _ (List.mem_of_getElem? (i := 157) rfl)), (mt1 _ (List.mem_of_getElem? (i := 5) rfl)), ⟨by decide +kernel, by decide +kernel, by decide +kernel⟩, by decide +kernel⟩, (mt2 _ (List.mem_of_getElem? (i := 156) rfl)), (mp _ (List.mem_of_getElem? (i := 7) rfl : (yX6_isRow, 10) ∈ lw_privs))⟩
def x_X6_step : Mx := (yX6_step, cX6_step, 1, none)
theorem mo_X6_step : MOv x_X6_step 0 := ⟨⟨(mt2 _ (List.mem_of_getElem? (i := 74) rfl)), (mt1 _ (List.mem_of_getElem? (i := 5) rfl)), ⟨by decide +kernel, by decide +kernel, by decide +kernel⟩, by decide +kernel⟩, (mt2 _ (List.mem_of_getElem? (i := 73) rfl)), (mp _ (List.mem_of_getElem? (i := 1) rfl : (yX6_step, 10) ∈ lw_privs))⟩
def x_X6_stepNumber : Mx := (yX6_stepNumber, cX6_stepNumber, 1, none)
theorem mo_X6_stepNumber : MOv x_X6_stepNumber 0 := ⟨⟨(mt2 _ (List.mem_of_getElem? (i := 88) rfl)), (mt1 _ (List.mem_of_getElem? (i := 5) rfl)), ⟨by decide +kernel, by decide +kernel, by decide +kernel⟩, by decide +kernel⟩, (mt2 _ (List.mem_of_getElem? (i := 87) rfl)), (mp _ (List.mem_of_getElem? (i := 2) rfl : (yX6_stepNumber, 10) ∈ lw_privs))⟩
def x_X6_isLetter : Mx := (yX6_isLetter, cX6_isLetter, 1, (some .boolean))
theorem mo_X6_isLetter : MOs x_X6_isLetter 1 := ⟨⟨(mt2 _ (List.mem_of_getElem? (i := 81) rfl)), (mt1 _ (List.mem_of_getElem? (i := 5) rfl)), ⟨by decide +kernel, by decide +kernel, by decide +kernel⟩, by decide +kernel⟩, (mt2 _ (List.mem_of_getElem? (i := 80) rfl))⟩
def x_X6_isFigure : Mx := (yX6_isFigure, cX6_isFigure, 1, (some .boolean))
theorem mo_X6_isFigure : MOs x_X6_isFigure 1 := ⟨⟨(mt2 _ (List.mem_of_getElem? (i := 84) rfl)), (mt1 _ (List.mem_of_getElem? (i := 5) rfl)), ⟨by decide +kernel, by decide +kernel, by decide +kernel⟩, by decide +kernel⟩, (mt2 _ (List.mem_of_getElem? (i := 83) rfl))⟩
def x_X7_init : Mx := (yX7_init, cX7_init, 1, none)
theorem mo_X7_init : MOi x_X7_init 0 := ⟨⟨(mt1 _ (List.mem_of_getElem? (i := 170) rfl)), (mt1 _ (List.mem_of_getElem? (i := 8) rfl)), ⟨by decide +kernel, by decide +kernel, by decide +kernel⟩, by decide +kernel⟩, (mt1 _ (List.mem_of_getElem? (i := 169) rfl)), rfl⟩
def x_X7_acts : Mx := (yX7_acts, cX7_acts, 1, (some .int))
theorem mo_X7_acts : MOv x_X7_acts 0 := ⟨⟨(mt3 _ (List.mem_of_getElem? (i := 133) rfl)), (mt1 _ (List.mem_of_getElem? (i := 8) rfl)), ⟨by decide +kernel, by decide +kernel, by decide +kernel⟩, by decide +kernel⟩, (mt3 _ (List.mem_of_getElem? (i := 131) rfl)), (mt3 _ (List.mem_of_getElem? (i := 132) rfl))⟩
def x_X7_take : Mx := (yX7_take, cX7_take, 4, none)
theorem mo_X7_take : MOv x_X7_take 3 := ⟨⟨(mt3 _ (List.mem_of_getElem? (i := 128) rfl)), (mt1 _ (List.mem_of_getElem? (i := 8) rfl)), ⟨by decide +kernel, by decide +kernel, by decide +kernel⟩, by decide +kernel⟩, (mt3 _ (List.mem_of_getElem? (i := 127) rfl)), (mp _ (List.mem_of_getElem? (i := 15) rfl : (yX7_take, 10) ∈ lw_privs))⟩
def x_X7_findPlan : Mx := (yX7_findPlan, cX7_findPlan, 7, none)
theorem mo_X7_findPlan : MOv x_X7_findPlan 2 := ⟨⟨(mt3 _ (List.mem_of_getElem? (i := 121) rfl)), (mt1 _ (List.mem_of_getElem? (i := 8) rfl)), ⟨by decide +kernel, by decide +kernel, by decide +kernel⟩, by decide +kernel⟩, (mt3 _ (List.mem_of_getElem? (i := 119) rfl)), (mt3 _ (List.mem_of_getElem? (i := 120) rfl))⟩
def x_X7_findNearest : Mx := (yX7_findNearest, cX7_findNearest, 5, none)
theorem mo_X7_findNearest : MOv x_X7_findNearest 2 := ⟨⟨(mt3 _ (List.mem_of_getElem? (i := 157) rfl)), (mt1 _ (List.mem_of_getElem? (i := 8) rfl)), ⟨by decide +kernel, by decide +kernel, by decide +kernel⟩, by decide +kernel⟩, (mt3 _ (List.mem_of_getElem? (i := 155) rfl)), (mt3 _ (List.mem_of_getElem? (i := 156) rfl))⟩
def x_X7_tryRows : Mx := (yX7_tryRows, cX7_tryRows, 9, none)
theorem mo_X7_tryRows : MOv x_X7_tryRows 3 := ⟨⟨(mt3 _ (List.mem_of_getElem? (i := 162) rfl)), (mt1 _ (List.mem_of_getElem? (i := 8) rfl)), ⟨by decide +kernel, by decide +kernel, by decide +kernel⟩, by decide +kernel⟩, (mt3 _ (List.mem_of_getElem? (i := 161) rfl)), (mp _ (List.mem_of_getElem? (i := 17) rfl : (yX7_tryRows, 10) ∈ lw_privs))⟩
def x_X7_goBlind : Mx := (yX7_goBlind, cX7_goBlind, 10, none)
theorem mo_X7_goBlind : MOv x_X7_goBlind 2 := ⟨⟨(mt3 _ (List.mem_of_getElem? (i := 179) rfl)), (mt1 _ (List.mem_of_getElem? (i := 8) rfl)), ⟨by decide +kernel, by decide +kernel, by decide +kernel⟩, by decide +kernel⟩, (mt3 _ (List.mem_of_getElem? (i := 177) rfl)), (mt3 _ (List.mem_of_getElem? (i := 178) rfl))⟩
def x_X7_mostUnlike : Mx := (yX7_mostUnlike, cX7_mostUnlike, 10, (some .int))
theorem mo_X7_mostUnlike : MOs x_X7_mostUnlike 3 := ⟨⟨(mt3 _ (List.mem_of_getElem? (i := 182) rfl)), (mt1 _ (List.mem_of_getElem? (i := 8) rfl)), ⟨by decide +kernel, by decide +kernel, by decide +kernel⟩, by decide +kernel⟩, (mt3 _ (List.mem_of_getElem? (i := 181) rfl))⟩
def x_X7_findSlanted : Mx := (yX7_findSlanted, cX7_findSlanted, 6, none)
theorem mo_X7_findSlanted : MOv x_X7_findSlanted 2 := ⟨⟨(mt3 _ (List.mem_of_getElem? (i := 191) rfl)), (mt1 _ (List.mem_of_getElem? (i := 8) rfl)), ⟨by decide +kernel, by decide +kernel, by decide +kernel⟩, by decide +kernel⟩, (mt3 _ (List.mem_of_getElem? (i := 189) rfl)), (mt3 _ (List.mem_of_getElem? (i := 190) rfl))⟩
def x_X7_trySlants : Mx := (yX7_trySlants, cX7_trySlants, 7, none)
theorem mo_X7_trySlants : MOv x_X7_trySlants 3 := ⟨⟨(mt3 _ (List.mem_of_getElem? (i := 195) rfl)), (mt1 _ (List.mem_of_getElem? (i := 8) rfl)), ⟨by decide +kernel, by decide +kernel, by decide +kernel⟩, by decide +kernel⟩, (mt3 _ (List.mem_of_getElem? (i := 194) rfl)), (mp _ (List.mem_of_getElem? (i := 18) rfl : (yX7_trySlants, 10) ∈ lw_privs))⟩
def x_X7_slantsThatMake : Mx := (yX7_slantsThatMake, cX7_slantsThatMake, 7, (some .int))
theorem mo_X7_slantsThatMake : MOv x_X7_slantsThatMake 1 := ⟨⟨(mt3 _ (List.mem_of_getElem? (i := 199) rfl)), (mt1 _ (List.mem_of_getElem? (i := 8) rfl)), ⟨by decide +kernel, by decide +kernel, by decide +kernel⟩, by decide +kernel⟩, (mt3 _ (List.mem_of_getElem? (i := 198) rfl)), (mp _ (List.mem_of_getElem? (i := 19) rfl : (yX7_slantsThatMake, 10) ∈ lw_privs))⟩
def x_X7_findSpoilt : Mx := (yX7_findSpoilt, cX7_findSpoilt, 7, none)
theorem mo_X7_findSpoilt : MOv x_X7_findSpoilt 2 := ⟨⟨(mt3 _ (List.mem_of_getElem? (i := 230) rfl)), (mt1 _ (List.mem_of_getElem? (i := 8) rfl)), ⟨by decide +kernel, by decide +kernel, by decide +kernel⟩, by decide +kernel⟩, (mt3 _ (List.mem_of_getElem? (i := 228) rfl)), (mt3 _ (List.mem_of_getElem? (i := 229) rfl))⟩
def x_X7_findBothSpoilt : Mx := (yX7_findBothSpoilt, cX7_findBothSpoilt, 7, none)
theorem mo_X7_findBothSpoilt : MOv x_X7_findBothSpoilt 2 := ⟨⟨(mt4 _ (List.mem_of_getElem? (i := 3) rfl)), (mt1 _ (List.mem_of_getElem? (i := 8) rfl)), ⟨by decide +kernel, by decide +kernel, by decide +kernel⟩, by decide +kernel⟩, (mt4 _ (List.mem_of_getElem? (i := 1) rfl)), (mt4 _ (List.mem_of_getElem? (i := 2) rfl))⟩
def x_X7_pairWith : Mx := (yX7_pairWith, cX7_pairWith, 6, none)
theorem mo_X7_pairWith : MOv x_X7_pairWith 3 := ⟨⟨(mt4 _ (List.mem_of_getElem? (i := 7) rfl)), (mt1 _ (List.mem_of_getElem? (i := 8) rfl)), ⟨by decide +kernel, by decide +kernel, by decide +kernel⟩, by decide +kernel⟩, (mt4 _ (List.mem_of_getElem? (i := 6) rfl)), (mp _ (List.mem_of_getElem? (i := 22) rfl : (yX7_pairWith, 10) ∈ lw_privs))⟩
def x_X8_init : Mx := (yX8_init, cX8_init, 1, none)
theorem mo_X8_init : MOi x_X8_init 0 := ⟨⟨(mt1 _ (List.mem_of_getElem? (i := 22) rfl)), (mt1 _ (List.mem_of_getElem? (i := 1) rfl)), ⟨by decide +kernel, by decide +kernel, by decide +kernel⟩, by decide +kernel⟩, (mt1 _ (List.mem_of_getElem? (i := 21) rfl)), rfl⟩
def x_X8_feed : Mx := (yX8_feed, cX8_feed, 3, (some .int))
theorem mo_X8_feed : MOv x_X8_feed 1 := ⟨⟨(mt2 _ (List.mem_of_getElem? (i := 42) rfl)), (mt1 _ (List.mem_of_getElem? (i := 1) rfl)), ⟨by decide +kernel, by decide +kernel, by decide +kernel⟩, by decide +kernel⟩, (mt2 _ (List.mem_of_getElem? (i := 40) rfl)), (mt2 _ (List.mem_of_getElem? (i := 41) rfl))⟩
def x_X8_end : Mx := (yX8_end, cX8_end, 3, (some .int))
theorem mo_X8_end : MOv x_X8_end 1 := ⟨⟨(mt2 _ (List.mem_of_getElem? (i := 50) rfl)), (mt1 _ (List.mem_of_getElem? (i := 1) rfl)), ⟨by decide +kernel, by decide +kernel, by decide +kernel⟩, by decide +kernel⟩, (mt2 _ (List.mem_of_getElem? (i := 48) rfl)), (mt2 _ (List.mem_of_getElem? (i := 49) rfl))⟩
def x_X8_text : Mx := (yX8_text, cX8_text, 2, (some .int))
theorem mo_X8_text : MOv x_X8_text 0 := ⟨⟨(mt2 _ (List.mem_of_getElem? (i := 54) rfl)), (mt1 _ (List.mem_of_getElem? (i := 1) rfl)), ⟨by decide +kernel, by decide +kernel, by decide +kernel⟩, by decide +kernel⟩, (mt2 _ (List.mem_of_getElem? (i := 52) rfl)), (mt2 _ (List.mem_of_getElem? (i := 53) rfl))⟩
def x_X8_fault : Mx := (yX8_fault, cX8_fault, 1, (some .int))
theorem mo_X8_fault : MOv x_X8_fault 0 := ⟨⟨(mt2 _ (List.mem_of_getElem? (i := 227) rfl)), (mt1 _ (List.mem_of_getElem? (i := 1) rfl)), ⟨by decide +kernel, by decide +kernel, by decide +kernel⟩, by decide +kernel⟩, (mt2 _ (List.mem_of_getElem? (i := 225) rfl)), (mt2 _ (List.mem_of_getElem? (i := 226) rfl))⟩
def x_X8_rule : Mx := (yX8_rule, cX8_rule, 2, (some .int))
theorem mo_X8_rule : MOv x_X8_rule 1 := ⟨⟨(mt2 _ (List.mem_of_getElem? (i := 231) rfl)), (mt1 _ (List.mem_of_getElem? (i := 1) rfl)), ⟨by decide +kernel, by decide +kernel, by decide +kernel⟩, by decide +kernel⟩, (mt2 _ (List.mem_of_getElem? (i := 229) rfl)), (mt2 _ (List.mem_of_getElem? (i := 230) rfl))⟩
def x_X8_day : Mx := (yX8_day, cX8_day, 3, (some .int))
theorem mo_X8_day : MOv x_X8_day 2 := ⟨⟨(mt2 _ (List.mem_of_getElem? (i := 236) rfl)), (mt1 _ (List.mem_of_getElem? (i := 1) rfl)), ⟨by decide +kernel, by decide +kernel, by decide +kernel⟩, by decide +kernel⟩, (mt2 _ (List.mem_of_getElem? (i := 234) rfl)), (mt2 _ (List.mem_of_getElem? (i := 235) rfl))⟩
def x_X8_cloth : Mx := (yX8_cloth, cX8_cloth, 2, (some .long))
theorem mo_X8_cloth : MOv x_X8_cloth 1 := ⟨⟨(mt3 _ (List.mem_of_getElem? (i := 2) rfl)), (mt1 _ (List.mem_of_getElem? (i := 1) rfl)), ⟨by decide +kernel, by decide +kernel, by decide +kernel⟩, by decide +kernel⟩, (mt3 _ (List.mem_of_getElem? (i := 0) rfl)), (mt3 _ (List.mem_of_getElem? (i := 1) rfl))⟩
def x_X8_square : Mx := (yX8_square, cX8_square, 3, (some .int))
theorem mo_X8_square : MOv x_X8_square 2 := ⟨⟨(mt3 _ (List.mem_of_getElem? (i := 6) rfl)), (mt1 _ (List.mem_of_getElem? (i := 1) rfl)), ⟨by decide +kernel, by decide +kernel, by decide +kernel⟩, by decide +kernel⟩, (mt3 _ (List.mem_of_getElem? (i := 4) rfl)), (mt3 _ (List.mem_of_getElem? (i := 5) rfl))⟩
def x_X8_paint : Mx := (yX8_paint, cX8_paint, 4, (some .int))
theorem mo_X8_paint : MOv x_X8_paint 3 := ⟨⟨(mt3 _ (List.mem_of_getElem? (i := 18) rfl)), (mt1 _ (List.mem_of_getElem? (i := 1) rfl)), ⟨by decide +kernel, by decide +kernel, by decide +kernel⟩, by decide +kernel⟩, (mt3 _ (List.mem_of_getElem? (i := 16) rfl)), (mt3 _ (List.mem_of_getElem? (i := 17) rfl))⟩
def x_X8_wish : Mx := (yX8_wish, cX8_wish, 4, (some .int))
theorem mo_X8_wish : MOv x_X8_wish 3 := ⟨⟨(mt3 _ (List.mem_of_getElem? (i := 28) rfl)), (mt1 _ (List.mem_of_getElem? (i := 1) rfl)), ⟨by decide +kernel, by decide +kernel, by decide +kernel⟩, by decide +kernel⟩, (mt3 _ (List.mem_of_getElem? (i := 26) rfl)), (mt3 _ (List.mem_of_getElem? (i := 27) rfl))⟩
def x_X8_act : Mx := (yX8_act, cX8_act, 3, (some .int))
theorem mo_X8_act : MOv x_X8_act 2 := ⟨⟨(mt3 _ (List.mem_of_getElem? (i := 32) rfl)), (mt1 _ (List.mem_of_getElem? (i := 1) rfl)), ⟨by decide +kernel, by decide +kernel, by decide +kernel⟩, by decide +kernel⟩, (mt3 _ (List.mem_of_getElem? (i := 30) rfl)), (mt3 _ (List.mem_of_getElem? (i := 31) rfl))⟩
def x_X8_turn : Mx := (yX8_turn, cX8_turn, 3, (some .int))
theorem mo_X8_turn : MOv x_X8_turn 2 := ⟨⟨(mt3 _ (List.mem_of_getElem? (i := 66) rfl)), (mt1 _ (List.mem_of_getElem? (i := 1) rfl)), ⟨by decide +kernel, by decide +kernel, by decide +kernel⟩, by decide +kernel⟩, (mt3 _ (List.mem_of_getElem? (i := 64) rfl)), (mt3 _ (List.mem_of_getElem? (i := 65) rfl))⟩
def x_X8_go : Mx := (yX8_go, cX8_go, 4, (some .int))
theorem mo_X8_go : MOv x_X8_go 1 := ⟨⟨(mt3 _ (List.mem_of_getElem? (i := 80) rfl)), (mt1 _ (List.mem_of_getElem? (i := 1) rfl)), ⟨by decide +kernel, by decide +kernel, by decide +kernel⟩, by decide +kernel⟩, (mt3 _ (List.mem_of_getElem? (i := 78) rfl)), (mt3 _ (List.mem_of_getElem? (i := 79) rfl))⟩
def x_X8_form : Mx := (yX8_form, cX8_form, 2, (some .long))
theorem mo_X8_form : MOv x_X8_form 1 := ⟨⟨(mt3 _ (List.mem_of_getElem? (i := 86) rfl)), (mt1 _ (List.mem_of_getElem? (i := 1) rfl)), ⟨by decide +kernel, by decide +kernel, by decide +kernel⟩, by decide +kernel⟩, (mt3 _ (List.mem_of_getElem? (i := 84) rfl)), (mt3 _ (List.mem_of_getElem? (i := 85) rfl))⟩
def x_X8_forms : Mx := (yX8_forms, cX8_forms, 1, (some .long))
theorem mo_X8_forms : MOv x_X8_forms 0 := ⟨⟨(mt3 _ (List.mem_of_getElem? (i := 104) rfl)), (mt1 _ (List.mem_of_getElem? (i := 1) rfl)), ⟨by decide +kernel, by decide +kernel, by decide +kernel⟩, by decide +kernel⟩, (mt3 _ (List.mem_of_getElem? (i := 102) rfl)), (mt3 _ (List.mem_of_getElem? (i := 103) rfl))⟩
def x_X8_alike : Mx := (yX8_alike, cX8_alike, 3, (some .int))
theorem mo_X8_alike : MOv x_X8_alike 1 := ⟨⟨(mt3 _ (List.mem_of_getElem? (i := 108) rfl)), (mt1 _ (List.mem_of_getElem? (i := 1) rfl)), ⟨by decide +kernel, by decide +kernel, by decide +kernel⟩, by decide +kernel⟩, (mt3 _ (List.mem_of_getElem? (i := 106) rfl)), (mt3 _ (List.mem_of_getElem? (i := 107) rfl))⟩
def x_X8_plan : Mx := (yX8_plan, cX8_plan, 2, (some .int))
theorem mo_X8_plan : MOv x_X8_plan 1 := ⟨⟨(mt3 _ (List.mem_of_getElem? (i := 117) rfl)), (mt1 _ (List.mem_of_getElem? (i := 1) rfl)), ⟨by decide +kernel, by decide +kernel, by decide +kernel⟩, by decide +kernel⟩, (mt3 _ (List.mem_of_getElem? (i := 115) rfl)), (mt3 _ (List.mem_of_getElem? (i := 116) rfl))⟩
def x_X8_nearest : Mx := (yX8_nearest, cX8_nearest, 2, (some .int))
theorem mo_X8_nearest : MOv x_X8_nearest 1 := ⟨⟨(mt3 _ (List.mem_of_getElem? (i := 153) rfl)), (mt1 _ (List.mem_of_getElem? (i := 1) rfl)), ⟨by decide +kernel, by decide +kernel, by decide +kernel⟩, by decide +kernel⟩, (mt3 _ (List.mem_of_getElem? (i := 151) rfl)), (mt3 _ (List.mem_of_getElem? (i := 152) rfl))⟩
def x_X8_lightest : Mx := (yX8_lightest, cX8_lightest, 2, (some .int))
theorem mo_X8_lightest : MOv x_X8_lightest 1 := ⟨⟨(mt3 _ (List.mem_of_getElem? (i := 171) rfl)), (mt1 _ (List.mem_of_getElem? (i := 1) rfl)), ⟨by decide +kernel, by decide +kernel, by decide +kernel⟩, by decide +kernel⟩, (mt3 _ (List.mem_of_getElem? (i := 169) rfl)), (mt3 _ (List.mem_of_getElem? (i := 170) rfl))⟩
def x_X8_blind : Mx := (yX8_blind, cX8_blind, 2, (some .int))
theorem mo_X8_blind : MOv x_X8_blind 1 := ⟨⟨(mt3 _ (List.mem_of_getElem? (i := 175) rfl)), (mt1 _ (List.mem_of_getElem? (i := 1) rfl)), ⟨by decide +kernel, by decide +kernel, by decide +kernel⟩, by decide +kernel⟩, (mt3 _ (List.mem_of_getElem? (i := 173) rfl)), (mt3 _ (List.mem_of_getElem? (i := 174) rfl))⟩
def x_X8_slanted : Mx := (yX8_slanted, cX8_slanted, 2, (some .int))
theorem mo_X8_slanted : MOv x_X8_slanted 1 := ⟨⟨(mt3 _ (List.mem_of_getElem? (i := 187) rfl)), (mt1 _ (List.mem_of_getElem? (i := 1) rfl)), ⟨by decide +kernel, by decide +kernel, by decide +kernel⟩, by decide +kernel⟩, (mt3 _ (List.mem_of_getElem? (i := 185) rfl)), (mt3 _ (List.mem_of_getElem? (i := 186) rfl))⟩
def x_X8_power : Mx := (yX8_power, cX8_power, 2, (some .int))
theorem mo_X8_power : MOv x_X8_power 1 := ⟨⟨(mt3 _ (List.mem_of_getElem? (i := 203) rfl)), (mt1 _ (List.mem_of_getElem? (i := 1) rfl)), ⟨by decide +kernel, by decide +kernel, by decide +kernel⟩, by decide +kernel⟩, (mt3 _ (List.mem_of_getElem? (i := 201) rfl)), (mt3 _ (List.mem_of_getElem? (i := 202) rfl))⟩
def x_X8_duel : Mx := (yX8_duel, cX8_duel, 9, (some .int))
theorem mo_X8_duel : MOv x_X8_duel 3 := ⟨⟨(mt3 _ (List.mem_of_getElem? (i := 211) rfl)), (mt1 _ (List.mem_of_getElem? (i := 1) rfl)), ⟨by decide +kernel, by decide +kernel, by decide +kernel⟩, by decide +kernel⟩, (mt3 _ (List.mem_of_getElem? (i := 209) rfl)), (mt3 _ (List.mem_of_getElem? (i := 210) rfl))⟩
def x_X8_turned : Mx := (yX8_turned, cX8_turned, 4, (some .int))
theorem mo_X8_turned : MOv x_X8_turned 2 := ⟨⟨(mt3 _ (List.mem_of_getElem? (i := 222) rfl)), (mt1 _ (List.mem_of_getElem? (i := 1) rfl)), ⟨by decide +kernel, by decide +kernel, by decide +kernel⟩, by decide +kernel⟩, (mt3 _ (List.mem_of_getElem? (i := 220) rfl)), (mt3 _ (List.mem_of_getElem? (i := 221) rfl))⟩
def x_X8_spoilt : Mx := (yX8_spoilt, cX8_spoilt, 2, (some .int))
theorem mo_X8_spoilt : MOv x_X8_spoilt 1 := ⟨⟨(mt3 _ (List.mem_of_getElem? (i := 226) rfl)), (mt1 _ (List.mem_of_getElem? (i := 1) rfl)), ⟨by decide +kernel, by decide +kernel, by decide +kernel⟩, by decide +kernel⟩, (mt3 _ (List.mem_of_getElem? (i := 224) rfl)), (mt3 _ (List.mem_of_getElem? (i := 225) rfl))⟩
def x_X8_both : Mx := (yX8_both, cX8_both, 2, (some .int))
theorem mo_X8_both : MOv x_X8_both 1 := ⟨⟨(mt3 _ (List.mem_of_getElem? (i := 239) rfl)), (mt1 _ (List.mem_of_getElem? (i := 1) rfl)), ⟨by decide +kernel, by decide +kernel, by decide +kernel⟩, by decide +kernel⟩, (mt3 _ (List.mem_of_getElem? (i := 237) rfl)), (mt3 _ (List.mem_of_getElem? (i := 238) rfl))⟩
def x_X8_rotate : Mx := (yX8_rotate, cX8_rotate, 2, (some .int))
theorem mo_X8_rotate : MOv x_X8_rotate 1 := ⟨⟨(mt4 _ (List.mem_of_getElem? (i := 11) rfl)), (mt1 _ (List.mem_of_getElem? (i := 1) rfl)), ⟨by decide +kernel, by decide +kernel, by decide +kernel⟩, by decide +kernel⟩, (mt4 _ (List.mem_of_getElem? (i := 9) rfl)), (mt4 _ (List.mem_of_getElem? (i := 10) rfl))⟩
def x_X8_cut : Mx := (yX8_cut, cX8_cut, 5, (some .int))
theorem mo_X8_cut : MOv x_X8_cut 4 := ⟨⟨(mt4 _ (List.mem_of_getElem? (i := 28) rfl)), (mt1 _ (List.mem_of_getElem? (i := 1) rfl)), ⟨by decide +kernel, by decide +kernel, by decide +kernel⟩, by decide +kernel⟩, (mt4 _ (List.mem_of_getElem? (i := 26) rfl)), (mt4 _ (List.mem_of_getElem? (i := 27) rfl))⟩
def x_X8_sew : Mx := (yX8_sew, cX8_sew, 8, (some .int))
theorem mo_X8_sew : MOv x_X8_sew 2 := ⟨⟨(mt4 _ (List.mem_of_getElem? (i := 47) rfl)), (mt1 _ (List.mem_of_getElem? (i := 1) rfl)), ⟨by decide +kernel, by decide +kernel, by decide +kernel⟩, by decide +kernel⟩, (mt4 _ (List.mem_of_getElem? (i := 45) rfl)), (mt4 _ (List.mem_of_getElem? (i := 46) rfl))⟩
def x_X8_name : Mx := (yX8_name, cX8_name, 2, (some .long))
theorem mo_X8_name : MOv x_X8_name 1 := ⟨⟨(mt4 _ (List.mem_of_getElem? (i := 51) rfl)), (mt1 _ (List.mem_of_getElem? (i := 1) rfl)), ⟨by decide +kernel, by decide +kernel, by decide +kernel⟩, by decide +kernel⟩, (mt4 _ (List.mem_of_getElem? (i := 49) rfl)), (mt4 _ (List.mem_of_getElem? (i := 50) rfl))⟩
def x_X8_cousin : Mx := (yX8_cousin, cX8_cousin, 3, (some .int))
theorem mo_X8_cousin : MOv x_X8_cousin 1 := ⟨⟨(mt4 _ (List.mem_of_getElem? (i := 62) rfl)), (mt1 _ (List.mem_of_getElem? (i := 1) rfl)), ⟨by decide +kernel, by decide +kernel, by decide +kernel⟩, by decide +kernel⟩, (mt4 _ (List.mem_of_getElem? (i := 60) rfl)), (mt4 _ (List.mem_of_getElem? (i := 61) rfl))⟩
def x_X8_keep : Mx := (yX8_keep, cX8_keep, 4, (some .int))
theorem mo_X8_keep : MOv x_X8_keep 1 := ⟨⟨(mt4 _ (List.mem_of_getElem? (i := 70) rfl)), (mt1 _ (List.mem_of_getElem? (i := 1) rfl)), ⟨by decide +kernel, by decide +kernel, by decide +kernel⟩, by decide +kernel⟩, (mt4 _ (List.mem_of_getElem? (i := 68) rfl)), (mt4 _ (List.mem_of_getElem? (i := 69) rfl))⟩
def x_X8_back : Mx := (yX8_back, cX8_back, 3, (some .int))
theorem mo_X8_back : MOv x_X8_back 1 := ⟨⟨(mt4 _ (List.mem_of_getElem? (i := 74) rfl)), (mt1 _ (List.mem_of_getElem? (i := 1) rfl)), ⟨by decide +kernel, by decide +kernel, by decide +kernel⟩, by decide +kernel⟩, (mt4 _ (List.mem_of_getElem? (i := 72) rfl)), (mt4 _ (List.mem_of_getElem? (i := 73) rfl))⟩
def x_X8_sheet : Mx := (yX8_sheet, cX8_sheet, 5, (some .int))
theorem mo_X8_sheet : MOv x_X8_sheet 3 := ⟨⟨(mt4 _ (List.mem_of_getElem? (i := 78) rfl)), (mt1 _ (List.mem_of_getElem? (i := 1) rfl)), ⟨by decide +kernel, by decide +kernel, by decide +kernel⟩, by decide +kernel⟩, (mt4 _ (List.mem_of_getElem? (i := 76) rfl)), (mt4 _ (List.mem_of_getElem? (i := 77) rfl))⟩
def x_X8_lay : Mx := (yX8_lay, cX8_lay, 5, (some .int))
theorem mo_X8_lay : MOv x_X8_lay 3 := ⟨⟨(mt4 _ (List.mem_of_getElem? (i := 93) rfl)), (mt1 _ (List.mem_of_getElem? (i := 1) rfl)), ⟨by decide +kernel, by decide +kernel, by decide +kernel⟩, by decide +kernel⟩, (mt4 _ (List.mem_of_getElem? (i := 91) rfl)), (mt4 _ (List.mem_of_getElem? (i := 92) rfl))⟩
def x_X8_read : Mx := (yX8_read, cX8_read, 9, (some .int))
theorem mo_X8_read : MOv x_X8_read 4 := ⟨⟨(mt4 _ (List.mem_of_getElem? (i := 105) rfl)), (mt1 _ (List.mem_of_getElem? (i := 1) rfl)), ⟨by decide +kernel, by decide +kernel, by decide +kernel⟩, by decide +kernel⟩, (mt4 _ (List.mem_of_getElem? (i := 103) rfl)), (mt4 _ (List.mem_of_getElem? (i := 104) rfl))⟩
def x_X8_torn : Mx := (yX8_torn, cX8_torn, 1, (some .int))
theorem mo_X8_torn : MOv x_X8_torn 0 := ⟨⟨(mt4 _ (List.mem_of_getElem? (i := 123) rfl)), (mt1 _ (List.mem_of_getElem? (i := 1) rfl)), ⟨by decide +kernel, by decide +kernel, by decide +kernel⟩, by decide +kernel⟩, (mt4 _ (List.mem_of_getElem? (i := 121) rfl)), (mt4 _ (List.mem_of_getElem? (i := 122) rfl))⟩
def x_X8_count : Mx := (yX8_count, cX8_count, 2, (some .int))
theorem mo_X8_count : MOv x_X8_count 1 := ⟨⟨(mt4 _ (List.mem_of_getElem? (i := 127) rfl)), (mt1 _ (List.mem_of_getElem? (i := 1) rfl)), ⟨by decide +kernel, by decide +kernel, by decide +kernel⟩, by decide +kernel⟩, (mt4 _ (List.mem_of_getElem? (i := 125) rfl)), (mt4 _ (List.mem_of_getElem? (i := 126) rfl))⟩
def x_X8_imageOf : Mx := (yX8_imageOf, cX8_imageOf, 2, (some (.object "RowsColumns$Cloth")))
theorem mo_X8_imageOf : MOv x_X8_imageOf 1 := ⟨⟨(mt3 _ (List.mem_of_getElem? (i := 112) rfl)), (mt1 _ (List.mem_of_getElem? (i := 1) rfl)), ⟨by decide +kernel, by decide +kernel, by decide +kernel⟩, by decide +kernel⟩, (mt3 _ (List.mem_of_getElem? (i := 111) rfl)), (mp _ (List.mem_of_getElem? (i := 14) rfl : (yX8_imageOf, 15) ∈ lw_privs))⟩
def x_X8_forgetPlans : Mx := (yX8_forgetPlans, cX8_forgetPlans, 1, none)
theorem mo_X8_forgetPlans : MOv x_X8_forgetPlans 0 := ⟨⟨(mt4 _ (List.mem_of_getElem? (i := 43) rfl)), (mt1 _ (List.mem_of_getElem? (i := 1) rfl)), ⟨by decide +kernel, by decide +kernel, by decide +kernel⟩, by decide +kernel⟩, (mt4 _ (List.mem_of_getElem? (i := 42) rfl)), (mp _ (List.mem_of_getElem? (i := 25) rfl : (yX8_forgetPlans, 15) ∈ lw_privs))⟩
def x_X8_toldOf : Mx := (yX8_toldOf, cX8_toldOf, 3, (some .int))
theorem mo_X8_toldOf : MOv x_X8_toldOf 2 := ⟨⟨(mt3 _ (List.mem_of_getElem? (i := 149) rfl)), (mt1 _ (List.mem_of_getElem? (i := 1) rfl)), ⟨by decide +kernel, by decide +kernel, by decide +kernel⟩, by decide +kernel⟩, (mt3 _ (List.mem_of_getElem? (i := 148) rfl)), (mp _ (List.mem_of_getElem? (i := 16) rfl : (yX8_toldOf, 15) ∈ lw_privs))⟩
def x_X8_spoiltTold : Mx := (yX8_spoiltTold, cX8_spoiltTold, 2, (some .int))
theorem mo_X8_spoiltTold : MOv x_X8_spoiltTold 1 := ⟨⟨(mt3 _ (List.mem_of_getElem? (i := 235) rfl)), (mt1 _ (List.mem_of_getElem? (i := 1) rfl)), ⟨by decide +kernel, by decide +kernel, by decide +kernel⟩, by decide +kernel⟩, (mt3 _ (List.mem_of_getElem? (i := 234) rfl)), (mp _ (List.mem_of_getElem? (i := 21) rfl : (yX8_spoiltTold, 15) ∈ lw_privs))⟩
def x_X8_isPart : Mx := (yX8_isPart, cX8_isPart, 3, (some .boolean))
theorem mo_X8_isPart : MOs x_X8_isPart 3 := ⟨⟨(mt4 _ (List.mem_of_getElem? (i := 31) rfl)), (mt1 _ (List.mem_of_getElem? (i := 1) rfl)), ⟨by decide +kernel, by decide +kernel, by decide +kernel⟩, by decide +kernel⟩, (mt4 _ (List.mem_of_getElem? (i := 30) rfl))⟩
def x_X8_isLane : Mx := (yX8_isLane, cX8_isLane, 1, (some .boolean))
theorem mo_X8_isLane : MOs x_X8_isLane 1 := ⟨⟨(mt4 _ (List.mem_of_getElem? (i := 85) rfl)), (mt1 _ (List.mem_of_getElem? (i := 1) rfl)), ⟨by decide +kernel, by decide +kernel, by decide +kernel⟩, by decide +kernel⟩, (mt4 _ (List.mem_of_getElem? (i := 84) rfl))⟩
def x_X8_isBetter : Mx := (yX8_isBetter, cX8_isBetter, 3, (some .boolean))
theorem mo_X8_isBetter : MOs x_X8_isBetter 3 := ⟨⟨(mt3 _ (List.mem_of_getElem? (i := 218) rfl)), (mt1 _ (List.mem_of_getElem? (i := 1) rfl)), ⟨by decide +kernel, by decide +kernel, by decide +kernel⟩, by decide +kernel⟩, (mt3 _ (List.mem_of_getElem? (i := 217) rfl))⟩
def x_X8_endOfDuel : Mx := (yX8_endOfDuel, cX8_endOfDuel, 9, (some .int))
theorem mo_X8_endOfDuel : MOs x_X8_endOfDuel 4 := ⟨⟨(mt3 _ (List.mem_of_getElem? (i := 214) rfl)), (mt1 _ (List.mem_of_getElem? (i := 1) rfl)), ⟨by decide +kernel, by decide +kernel, by decide +kernel⟩, by decide +kernel⟩, (mt3 _ (List.mem_of_getElem? (i := 213) rfl))⟩
def x_X8_independentLines : Mx := (yX8_independentLines, cX8_independentLines, 10, (some .int))
theorem mo_X8_independentLines : MOv x_X8_independentLines 1 := ⟨⟨(mt3 _ (List.mem_of_getElem? (i := 207) rfl)), (mt1 _ (List.mem_of_getElem? (i := 1) rfl)), ⟨by decide +kernel, by decide +kernel, by decide +kernel⟩, by decide +kernel⟩, (mt3 _ (List.mem_of_getElem? (i := 206) rfl)), (mp _ (List.mem_of_getElem? (i := 20) rfl : (yX8_independentLines, 15) ∈ lw_privs))⟩
def x_X9_init : Mx := (yX9_init, cX9_init, 2, none)
theorem mo_X9_init : MOi x_X9_init 0 := ⟨⟨(mt4 _ (List.mem_of_getElem? (i := 138) rfl)), (mt1 _ (List.mem_of_getElem? (i := 10) rfl)), ⟨by decide +kernel, by decide +kernel, by decide +kernel⟩, by decide +kernel⟩, (mt4 _ (List.mem_of_getElem? (i := 137) rfl)), rfl⟩
def x_X9_in : Mx := (yX9_in, cX9_in, 6, (some .boolean))
theorem mo_X9_in : MOs x_X9_in 3 := ⟨⟨(mt5 _ (List.mem_of_getElem? (i := 61) rfl)), (mt1 _ (List.mem_of_getElem? (i := 10) rfl)), ⟨by decide +kernel, by decide +kernel, by decide +kernel⟩, by decide +kernel⟩, (mt5 _ (List.mem_of_getElem? (i := 60) rfl))⟩
def x_X9_flag : Mx := (yX9_flag, cX9_flag, 1, (some .int))
theorem mo_X9_flag : MOs x_X9_flag 1 := ⟨⟨(mt5 _ (List.mem_of_getElem? (i := 141) rfl)), (mt1 _ (List.mem_of_getElem? (i := 10) rfl)), ⟨by decide +kernel, by decide +kernel, by decide +kernel⟩, by decide +kernel⟩, (mt5 _ (List.mem_of_getElem? (i := 140) rfl))⟩
def x_X9_bitOf : Mx := (yX9_bitOf, cX9_bitOf, 2, (some .long))
theorem mo_X9_bitOf : MOs x_X9_bitOf 2 := ⟨⟨(mt5 _ (List.mem_of_getElem? (i := 122) rfl)), (mt1 _ (List.mem_of_getElem? (i := 10) rfl)), ⟨by decide +kernel, by decide +kernel, by decide +kernel⟩, by decide +kernel⟩, (mt5 _ (List.mem_of_getElem? (i := 121) rfl))⟩
def x_X9_many : Mx := (yX9_many, cX9_many, 4, (some .int))
theorem mo_X9_many : MOs x_X9_many 1 := ⟨⟨(mt5 _ (List.mem_of_getElem? (i := 184) rfl)), (mt1 _ (List.mem_of_getElem? (i := 10) rfl)), ⟨by decide +kernel, by decide +kernel, by decide +kernel⟩, by decide +kernel⟩, (mt5 _ (List.mem_of_getElem? (i := 183) rfl))⟩
def x_X9_firstDraft : Mx := (yX9_firstDraft, cX9_firstDraft, 1, none)
theorem mo_X9_firstDraft : MOv x_X9_firstDraft 0 := ⟨⟨(mt4 _ (List.mem_of_getElem? (i := 143) rfl)), (mt1 _ (List.mem_of_getElem? (i := 10) rfl)), ⟨by decide +kernel, by decide +kernel, by decide +kernel⟩, by decide +kernel⟩, (mt4 _ (List.mem_of_getElem? (i := 142) rfl)), (mp _ (List.mem_of_getElem? (i := 26) rfl : (yX9_firstDraft, 47) ∈ lw_privs))⟩
def x_X9_keepDraft : Mx := (yX9_keepDraft, cX9_keepDraft, 2, none)
theorem mo_X9_keepDraft : MOv x_X9_keepDraft 0 := ⟨⟨(mt4 _ (List.mem_of_getElem? (i := 147) rfl)), (mt1 _ (List.mem_of_getElem? (i := 10) rfl)), ⟨by decide +kernel, by decide +kernel, by decide +kernel⟩, by decide +kernel⟩, (mt4 _ (List.mem_of_getElem? (i := 146) rfl)), (mp _ (List.mem_of_getElem? (i := 27) rfl : (yX9_keepDraft, 47) ∈ lw_privs))⟩
def x_X9_feed : Mx := (yX9_feed, cX9_feed, 4, (some .int))
theorem mo_X9_feed : MOv x_X9_feed 1 := ⟨⟨(mt5 _ (List.mem_of_getElem? (i := 53) rfl)), (mt1 _ (List.mem_of_getElem? (i := 10) rfl)), ⟨by decide +kernel, by decide +kernel, by decide +kernel⟩, by decide +kernel⟩, (mt5 _ (List.mem_of_getElem? (i := 51) rfl)), (mt5 _ (List.mem_of_getElem? (i := 52) rfl))⟩
def x_X9_end : Mx := (yX9_end, cX9_end, 3, (some .int))
theorem mo_X9_end : MOv x_X9_end 1 := ⟨⟨(mt5 _ (List.mem_of_getElem? (i := 58) rfl)), (mt1 _ (List.mem_of_getElem? (i := 10) rfl)), ⟨by decide +kernel, by decide +kernel, by decide +kernel⟩, by decide +kernel⟩, (mt5 _ (List.mem_of_getElem? (i := 56) rfl)), (mt5 _ (List.mem_of_getElem? (i := 57) rfl))⟩
def x_X9_needs : Mx := (yX9_needs, cX9_needs, 3, none)
theorem mo_X9_needs : MOv x_X9_needs 2 := ⟨⟨(mt5 _ (List.mem_of_getElem? (i := 81) rfl)), (mt1 _ (List.mem_of_getElem? (i := 10) rfl)), ⟨by decide +kernel, by decide +kernel, by decide +kernel⟩, by decide +kernel⟩, (mt5 _ (List.mem_of_getElem? (i := 80) rfl)), (mp _ (List.mem_of_getElem? (i := 30) rfl : (yX9_needs, 47) ∈ lw_privs))⟩
def x_X9_look : Mx := (yX9_look, cX9_look, 2, (some .int))
theorem mo_X9_look : MOv x_X9_look 1 := ⟨⟨(mt5 _ (List.mem_of_getElem? (i := 73) rfl)), (mt1 _ (List.mem_of_getElem? (i := 10) rfl)), ⟨by decide +kernel, by decide +kernel, by decide +kernel⟩, by decide +kernel⟩, (mt5 _ (List.mem_of_getElem? (i := 72) rfl)), (mp _ (List.mem_of_getElem? (i := 29) rfl : (yX9_look, 47) ∈ lw_privs))⟩
def x_X9_is : Mx := (yX9_is, cX9_is, 5, (some .boolean))
theorem mo_X9_is : MOv x_X9_is 4 := ⟨⟨(mt5 _ (List.mem_of_getElem? (i := 93) rfl)), (mt1 _ (List.mem_of_getElem? (i := 10) rfl)), ⟨by decide +kernel, by decide +kernel, by decide +kernel⟩, by decide +kernel⟩, (mt5 _ (List.mem_of_getElem? (i := 92) rfl)), (mp _ (List.mem_of_getElem? (i := 33) rfl : (yX9_is, 47) ∈ lw_privs))⟩
def x_X9_goesOn : Mx := (yX9_goesOn, cX9_goesOn, 5, (some .boolean))
theorem mo_X9_goesOn : MOv x_X9_goesOn 4 := ⟨⟨(mt5 _ (List.mem_of_getElem? (i := 97) rfl)), (mt1 _ (List.mem_of_getElem? (i := 10) rfl)), ⟨by decide +kernel, by decide +kernel, by decide +kernel⟩, by decide +kernel⟩, (mt5 _ (List.mem_of_getElem? (i := 96) rfl)), (mp _ (List.mem_of_getElem? (i := 34) rfl : (yX9_goesOn, 47) ∈ lw_privs))⟩
def x_X9_lineNow : Mx := (yX9_lineNow, cX9_lineNow, 1, (some .int))
theorem mo_X9_lineNow : MOv x_X9_lineNow 0 := ⟨⟨(mt5 _ (List.mem_of_getElem? (i := 89) rfl)), (mt1 _ (List.mem_of_getElem? (i := 10) rfl)), ⟨by decide +kernel, by decide +kernel, by decide +kernel⟩, by decide +kernel⟩, (mt5 _ (List.mem_of_getElem? (i := 88) rfl)), (mp _ (List.mem_of_getElem? (i := 32) rfl : (yX9_lineNow, 47) ∈ lw_privs))⟩
def x_X9_actNow : Mx := (yX9_actNow, cX9_actNow, 1, (some .int))
theorem mo_X9_actNow : MOv x_X9_actNow 0 := ⟨⟨(mt5 _ (List.mem_of_getElem? (i := 109) rfl)), (mt1 _ (List.mem_of_getElem? (i := 10) rfl)), ⟨by decide +kernel, by decide +kernel, by decide +kernel⟩, by decide +kernel⟩, (mt5 _ (List.mem_of_getElem? (i := 108) rfl)), (mp _ (List.mem_of_getElem? (i := 37) rfl : (yX9_actNow, 47) ∈ lw_privs))⟩
def x_X9_isRowName : Mx := (yX9_isRowName, cX9_isRowName, 3, (some .boolean))
theorem mo_X9_isRowName : MOv x_X9_isRowName 0 := ⟨⟨(mt5 _ (List.mem_of_getElem? (i := 119) rfl)), (mt1 _ (List.mem_of_getElem? (i := 10) rfl)), ⟨by decide +kernel, by decide +kernel, by decide +kernel⟩, by decide +kernel⟩, (mt5 _ (List.mem_of_getElem? (i := 118) rfl)), (mp _ (List.mem_of_getElem? (i := 39) rfl : (yX9_isRowName, 47) ∈ lw_privs))⟩
def x_X9_next : Mx := (yX9_next, cX9_next, 2, none)
theorem mo_X9_next : MOv x_X9_next 0 := ⟨⟨(mt5 _ (List.mem_of_getElem? (i := 69) rfl)), (mt1 _ (List.mem_of_getElem? (i := 10) rfl)), ⟨by decide +kernel, by decide +kernel, by decide +kernel⟩, by decide +kernel⟩, (mt5 _ (List.mem_of_getElem? (i := 68) rfl)), (mp _ (List.mem_of_getElem? (i := 28) rfl : (yX9_next, 47) ∈ lw_privs))⟩
def x_X9_readRows : Mx := (yX9_readRows, cX9_readRows, 4, none)
theorem mo_X9_readRows : MOv x_X9_readRows 0 := ⟨⟨(mt5 _ (List.mem_of_getElem? (i := 115) rfl)), (mt1 _ (List.mem_of_getElem? (i := 10) rfl)), ⟨by decide +kernel, by decide +kernel, by decide +kernel⟩, by decide +kernel⟩, (mt5 _ (List.mem_of_getElem? (i := 114) rfl)), (mp _ (List.mem_of_getElem? (i := 38) rfl : (yX9_readRows, 47) ∈ lw_privs))⟩
def x_X9_readAct : Mx := (yX9_readAct, cX9_readAct, 3, none)
theorem mo_X9_readAct : MOv x_X9_readAct 1 := ⟨⟨(mt5 _ (List.mem_of_getElem? (i := 105) rfl)), (mt1 _ (List.mem_of_getElem? (i := 10) rfl)), ⟨by decide +kernel, by decide +kernel, by decide +kernel⟩, by decide +kernel⟩, (mt5 _ (List.mem_of_getElem? (i := 104) rfl)), (mp _ (List.mem_of_getElem? (i := 36) rfl : (yX9_readAct, 47) ∈ lw_privs))⟩
def x_X9_readDay : Mx := (yX9_readDay, cX9_readDay, 3, none)
theorem mo_X9_readDay : MOv x_X9_readDay 0 := ⟨⟨(mt5 _ (List.mem_of_getElem? (i := 101) rfl)), (mt1 _ (List.mem_of_getElem? (i := 10) rfl)), ⟨by decide +kernel, by decide +kernel, by decide +kernel⟩, by decide +kernel⟩, (mt5 _ (List.mem_of_getElem? (i := 100) rfl)), (mp _ (List.mem_of_getElem? (i := 35) rfl : (yX9_readDay, 47) ∈ lw_privs))⟩
def x_X9_readLine : Mx := (yX9_readLine, cX9_readLine, 2, none)
theorem mo_X9_readLine : MOv x_X9_readLine 0 := ⟨⟨(mt5 _ (List.mem_of_getElem? (i := 85) rfl)), (mt1 _ (List.mem_of_getElem? (i := 10) rfl)), ⟨by decide +kernel, by decide +kernel, by decide +kernel⟩, by decide +kernel⟩, (mt5 _ (List.mem_of_getElem? (i := 84) rfl)), (mp _ (List.mem_of_getElem? (i := 31) rfl : (yX9_readLine, 47) ∈ lw_privs))⟩
def x_X9_isActOf : Mx := (yX9_isActOf, cX9_isActOf, 4, (some .boolean))
theorem mo_X9_isActOf : MOs x_X9_isActOf 4 := ⟨⟨(mt5 _ (List.mem_of_getElem? (i := 129) rfl)), (mt1 _ (List.mem_of_getElem? (i := 10) rfl)), ⟨by decide +kernel, by decide +kernel, by decide +kernel⟩, by decide +kernel⟩, (mt5 _ (List.mem_of_getElem? (i := 128) rfl))⟩
def x_X9_areActs : Mx := (yX9_areActs, cX9_areActs, 4, (some .boolean))
theorem mo_X9_areActs : MOv x_X9_areActs 0 := ⟨⟨(mt5 _ (List.mem_of_getElem? (i := 126) rfl)), (mt1 _ (List.mem_of_getElem? (i := 10) rfl)), ⟨by decide +kernel, by decide +kernel, by decide +kernel⟩, by decide +kernel⟩, (mt5 _ (List.mem_of_getElem? (i := 125) rfl)), (mp _ (List.mem_of_getElem? (i := 40) rfl : (yX9_areActs, 47) ∈ lw_privs))⟩
def x_X9_text : Mx := (yX9_text, cX9_text, 2, (some .int))
theorem mo_X9_text : MOv x_X9_text 0 := ⟨⟨(mt5 _ (List.mem_of_getElem? (i := 65) rfl)), (mt1 _ (List.mem_of_getElem? (i := 10) rfl)), ⟨by decide +kernel, by decide +kernel, by decide +kernel⟩, by decide +kernel⟩, (mt5 _ (List.mem_of_getElem? (i := 63) rfl)), (mt5 _ (List.mem_of_getElem? (i := 64) rfl))⟩
def x_X9_fault : Mx := (yX9_fault, cX9_fault, 1, (some .int))
theorem mo_X9_fault : MOv x_X9_fault 0 := ⟨⟨(mt5 _ (List.mem_of_getElem? (i := 134) rfl)), (mt1 _ (List.mem_of_getElem? (i := 10) rfl)), ⟨by decide +kernel, by decide +kernel, by decide +kernel⟩, by decide +kernel⟩, (mt5 _ (List.mem_of_getElem? (i := 132) rfl)), (mt5 _ (List.mem_of_getElem? (i := 133) rfl))⟩
def x_X9_rule : Mx := (yX9_rule, cX9_rule, 2, (some .int))
theorem mo_X9_rule : MOv x_X9_rule 1 := ⟨⟨(mt5 _ (List.mem_of_getElem? (i := 138) rfl)), (mt1 _ (List.mem_of_getElem? (i := 10) rfl)), ⟨by decide +kernel, by decide +kernel, by decide +kernel⟩, by decide +kernel⟩, (mt5 _ (List.mem_of_getElem? (i := 136) rfl)), (mt5 _ (List.mem_of_getElem? (i := 137) rfl))⟩
def x_X9_day : Mx := (yX9_day, cX9_day, 3, (some .int))
theorem mo_X9_day : MOv x_X9_day 2 := ⟨⟨(mt5 _ (List.mem_of_getElem? (i := 145) rfl)), (mt1 _ (List.mem_of_getElem? (i := 10) rfl)), ⟨by decide +kernel, by decide +kernel, by decide +kernel⟩, by decide +kernel⟩, (mt5 _ (List.mem_of_getElem? (i := 143) rfl)), (mt5 _ (List.mem_of_getElem? (i := 144) rfl))⟩
def x_X9_cloth : Mx := (yX9_cloth, cX9_cloth, 2, (some .long))
theorem mo_X9_cloth : MOv x_X9_cloth 1 := ⟨⟨(mt5 _ (List.mem_of_getElem? (i := 150) rfl)), (mt1 _ (List.mem_of_getElem? (i := 10) rfl)), ⟨by decide +kernel, by decide +kernel, by decide +kernel⟩, by decide +kernel⟩, (mt5 _ (List.mem_of_getElem? (i := 148) rfl)), (mt5 _ (List.mem_of_getElem? (i := 149) rfl))⟩
def x_X9_isSquare : Mx := (yX9_isSquare, cX9_isSquare, 3, (some .boolean))
theorem mo_X9_isSquare : MOv x_X9_isSquare 2 := ⟨⟨(mt5 _ (List.mem_of_getElem? (i := 158) rfl)), (mt1 _ (List.mem_of_getElem? (i := 10) rfl)), ⟨by decide +kernel, by decide +kernel, by decide +kernel⟩, by decide +kernel⟩, (mt5 _ (List.mem_of_getElem? (i := 157) rfl)), (mp _ (List.mem_of_getElem? (i := 41) rfl : (yX9_isSquare, 47) ∈ lw_privs))⟩
def x_X9_isDark : Mx := (yX9_isDark, cX9_isDark, 4, (some .int))
theorem mo_X9_isDark : MOs x_X9_isDark 3 := ⟨⟨(mt5 _ (List.mem_of_getElem? (i := 161) rfl)), (mt1 _ (List.mem_of_getElem? (i := 10) rfl)), ⟨by decide +kernel, by decide +kernel, by decide +kernel⟩, by decide +kernel⟩, (mt5 _ (List.mem_of_getElem? (i := 160) rfl))⟩
def x_X9_square : Mx := (yX9_square, cX9_square, 3, (some .int))
theorem mo_X9_square : MOv x_X9_square 2 := ⟨⟨(mt5 _ (List.mem_of_getElem? (i := 154) rfl)), (mt1 _ (List.mem_of_getElem? (i := 10) rfl)), ⟨by decide +kernel, by decide +kernel, by decide +kernel⟩, by decide +kernel⟩, (mt5 _ (List.mem_of_getElem? (i := 152) rfl)), (mt5 _ (List.mem_of_getElem? (i := 153) rfl))⟩
def x_X9_paint : Mx := (yX9_paint, cX9_paint, 5, (some .int))
theorem mo_X9_paint : MOv x_X9_paint 3 := ⟨⟨(mt5 _ (List.mem_of_getElem? (i := 165) rfl)), (mt1 _ (List.mem_of_getElem? (i := 10) rfl)), ⟨by decide +kernel, by decide +kernel, by decide +kernel⟩, by decide +kernel⟩, (mt5 _ (List.mem_of_getElem? (i := 163) rfl)), (mt5 _ (List.mem_of_getElem? (i := 164) rfl))⟩
def x_X9_wish : Mx := (yX9_wish, cX9_wish, 5, (some .int))
theorem mo_X9_wish : MOv x_X9_wish 3 := ⟨⟨(mt5 _ (List.mem_of_getElem? (i := 169) rfl)), (mt1 _ (List.mem_of_getElem? (i := 10) rfl)), ⟨by decide +kernel, by decide +kernel, by decide +kernel⟩, by decide +kernel⟩, (mt5 _ (List.mem_of_getElem? (i := 167) rfl)), (mt5 _ (List.mem_of_getElem? (i := 168) rfl))⟩
def x_X9_actSet : Mx := (yX9_actSet, cX9_actSet, 8, (some .long))
theorem mo_X9_actSet : MOv x_X9_actSet 2 := ⟨⟨(mt5 _ (List.mem_of_getElem? (i := 181) rfl)), (mt1 _ (List.mem_of_getElem? (i := 10) rfl)), ⟨by decide +kernel, by decide +kernel, by decide +kernel⟩, by decide +kernel⟩, (mt5 _ (List.mem_of_getElem? (i := 180) rfl)), (mp _ (List.mem_of_getElem? (i := 43) rfl : (yX9_actSet, 47) ∈ lw_privs))⟩
def x_X9_turnSet : Mx := (yX9_turnSet, cX9_turnSet, 7, (some .long))
theorem mo_X9_turnSet : MOv x_X9_turnSet 2 := ⟨⟨(mt5 _ (List.mem_of_getElem? (i := 192) rfl)), (mt1 _ (List.mem_of_getElem? (i := 10) rfl)), ⟨by decide +kernel, by decide +kernel, by decide +kernel⟩, by decide +kernel⟩, (mt5 _ (List.mem_of_getElem? (i := 191) rfl)), (mp _ (List.mem_of_getElem? (i := 44) rfl : (yX9_turnSet, 47) ∈ lw_privs))⟩
def x_X9_isAct : Mx := (yX9_isAct, cX9_isAct, 3, (some .boolean))
theorem mo_X9_isAct : MOv x_X9_isAct 2 := ⟨⟨(mt5 _ (List.mem_of_getElem? (i := 177) rfl)), (mt1 _ (List.mem_of_getElem? (i := 10) rfl)), ⟨by decide +kernel, by decide +kernel, by decide +kernel⟩, by decide +kernel⟩, (mt5 _ (List.mem_of_getElem? (i := 176) rfl)), (mp _ (List.mem_of_getElem? (i := 42) rfl : (yX9_isAct, 47) ∈ lw_privs))⟩
def x_X9_act : Mx := (yX9_act, cX9_act, 3, (some .int))
theorem mo_X9_act : MOv x_X9_act 2 := ⟨⟨(mt5 _ (List.mem_of_getElem? (i := 173) rfl)), (mt1 _ (List.mem_of_getElem? (i := 10) rfl)), ⟨by decide +kernel, by decide +kernel, by decide +kernel⟩, by decide +kernel⟩, (mt5 _ (List.mem_of_getElem? (i := 171) rfl)), (mt5 _ (List.mem_of_getElem? (i := 172) rfl))⟩
def x_X9_turn : Mx := (yX9_turn, cX9_turn, 3, (some .int))
theorem mo_X9_turn : MOv x_X9_turn 2 := ⟨⟨(mt5 _ (List.mem_of_getElem? (i := 188) rfl)), (mt1 _ (List.mem_of_getElem? (i := 10) rfl)), ⟨by decide +kernel, by decide +kernel, by decide +kernel⟩, by decide +kernel⟩, (mt5 _ (List.mem_of_getElem? (i := 186) rfl)), (mt5 _ (List.mem_of_getElem? (i := 187) rfl))⟩
def x_X9_go : Mx := (yX9_go, cX9_go, 4, (some .int))
theorem mo_X9_go : MOv x_X9_go 1 := ⟨⟨(mt5 _ (List.mem_of_getElem? (i := 196) rfl)), (mt1 _ (List.mem_of_getElem? (i := 10) rfl)), ⟨by decide +kernel, by decide +kernel, by decide +kernel⟩, by decide +kernel⟩, (mt5 _ (List.mem_of_getElem? (i := 194) rfl)), (mt5 _ (List.mem_of_getElem? (i := 195) rfl))⟩
def x_X9_formOf : Mx := (yX9_formOf, cX9_formOf, 9, (some .long))
theorem mo_X9_formOf : MOs x_X9_formOf 3 := ⟨⟨(mt5 _ (List.mem_of_getElem? (i := 207) rfl)), (mt1 _ (List.mem_of_getElem? (i := 10) rfl)), ⟨by decide +kernel, by decide +kernel, by decide +kernel⟩, by decide +kernel⟩, (mt5 _ (List.mem_of_getElem? (i := 206) rfl))⟩
def x_X9_formNow : Mx := (yX9_formNow, cX9_formNow, 3, (some .long))
theorem mo_X9_formNow : MOv x_X9_formNow 1 := ⟨⟨(mt5 _ (List.mem_of_getElem? (i := 204) rfl)), (mt1 _ (List.mem_of_getElem? (i := 10) rfl)), ⟨by decide +kernel, by decide +kernel, by decide +kernel⟩, by decide +kernel⟩, (mt5 _ (List.mem_of_getElem? (i := 203) rfl)), (mp _ (List.mem_of_getElem? (i := 45) rfl : (yX9_formNow, 47) ∈ lw_privs))⟩
def x_X9_form : Mx := (yX9_form, cX9_form, 2, (some .long))
theorem mo_X9_form : MOv x_X9_form 1 := ⟨⟨(mt5 _ (List.mem_of_getElem? (i := 200) rfl)), (mt1 _ (List.mem_of_getElem? (i := 10) rfl)), ⟨by decide +kernel, by decide +kernel, by decide +kernel⟩, by decide +kernel⟩, (mt5 _ (List.mem_of_getElem? (i := 198) rfl)), (mt5 _ (List.mem_of_getElem? (i := 199) rfl))⟩
def x_X9_forms : Mx := (yX9_forms, cX9_forms, 1, (some .long))
theorem mo_X9_forms : MOv x_X9_forms 0 := ⟨⟨(mt5 _ (List.mem_of_getElem? (i := 211) rfl)), (mt1 _ (List.mem_of_getElem? (i := 10) rfl)), ⟨by decide +kernel, by decide +kernel, by decide +kernel⟩, by decide +kernel⟩, (mt5 _ (List.mem_of_getElem? (i := 209) rfl)), (mt5 _ (List.mem_of_getElem? (i := 210) rfl))⟩
def x_X9_isImage : Mx := (yX9_isImage, cX9_isImage, 1, (some .boolean))
theorem mo_X9_isImage : MOs x_X9_isImage 1 := ⟨⟨(mt5 _ (List.mem_of_getElem? (i := 218) rfl)), (mt1 _ (List.mem_of_getElem? (i := 10) rfl)), ⟨by decide +kernel, by decide +kernel, by decide +kernel⟩, by decide +kernel⟩, (mt5 _ (List.mem_of_getElem? (i := 217) rfl))⟩
def x_X9_isKept : Mx := (yX9_isKept, cX9_isKept, 2, (some .boolean))
theorem mo_X9_isKept : MOv x_X9_isKept 1 := ⟨⟨(mt5 _ (List.mem_of_getElem? (i := 222) rfl)), (mt1 _ (List.mem_of_getElem? (i := 10) rfl)), ⟨by decide +kernel, by decide +kernel, by decide +kernel⟩, by decide +kernel⟩, (mt5 _ (List.mem_of_getElem? (i := 221) rfl)), (mp _ (List.mem_of_getElem? (i := 46) rfl : (yX9_isKept, 47) ∈ lw_privs))⟩
def x_X9_isOfSize : Mx := (yX9_isOfSize, cX9_isOfSize, 2, (some .boolean))
theorem mo_X9_isOfSize : MOv x_X9_isOfSize 1 := ⟨⟨(mt5 _ (List.mem_of_getElem? (i := 226) rfl)), (mt1 _ (List.mem_of_getElem? (i := 10) rfl)), ⟨by decide +kernel, by decide +kernel, by decide +kernel⟩, by decide +kernel⟩, (mt5 _ (List.mem_of_getElem? (i := 225) rfl)), (mp _ (List.mem_of_getElem? (i := 47) rfl : (yX9_isOfSize, 47) ∈ lw_privs))⟩
def x_X9_alike : Mx := (yX9_alike, cX9_alike, 2, (some .int))
