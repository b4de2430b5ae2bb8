theorem mo_X9_alike : MOv x_X9_alike 1 := ⟨⟨(mt5 _ (List.mem_of_getElem? (i := 215) rfl)), (mt1 _ (List.mem_of_getElem? (i := 10) rfl)), ⟨by decide +kernel, by decide +kernel, by decide +kernel⟩, by decide +kernel⟩, (mt5 _ (List.mem_of_getElem? (i := 213) rfl)), (mt5 _ (List.mem_of_getElem? (i := 214) rfl))⟩
def x_X9_findPlan : Mx := (yX9_findPlan, cX9_findPlan, 8, (some .boolean))
theorem mo_X9_findPlan : MOv x_X9_findPlan 1 := ⟨⟨(mt5 _ (List.mem_of_getElem? (i := 235) rfl)), (mt1 _ (List.mem_of_getElem? (i := 10) rfl)), ⟨by decide +kernel, by decide +kernel, by decide +kernel⟩, by decide +kernel⟩, (mt5 _ (List.mem_of_getElem? (i := 234) rfl)), (mp _ (List.mem_of_getElem? (i := 48) rfl : (yX9_findPlan, 47) ∈ lw_privs))⟩
def x_X9_planTold : Mx := (yX9_planTold, cX9_planTold, 4, (some .int))
theorem mo_X9_planTold : MOv x_X9_planTold 1 := ⟨⟨(mt5 _ (List.mem_of_getElem? (i := 239) rfl)), (mt1 _ (List.mem_of_getElem? (i := 10) rfl)), ⟨by decide +kernel, by decide +kernel, by decide +kernel⟩, by decide +kernel⟩, (mt5 _ (List.mem_of_getElem? (i := 238) rfl)), (mp _ (List.mem_of_getElem? (i := 49) rfl : (yX9_planTold, 47) ∈ lw_privs))⟩
def x_X9_plan : Mx := (yX9_plan, cX9_plan, 2, (some .int))
theorem mo_X9_plan : MOv x_X9_plan 1 := ⟨⟨(mt5 _ (List.mem_of_getElem? (i := 230) rfl)), (mt1 _ (List.mem_of_getElem? (i := 10) rfl)), ⟨by decide +kernel, by decide +kernel, by decide +kernel⟩, by decide +kernel⟩, (mt5 _ (List.mem_of_getElem? (i := 228) rfl)), (mt5 _ (List.mem_of_getElem? (i := 229) rfl))⟩
def x_X9_findNearest : Mx := (yX9_findNearest, cX9_findNearest, 10, none)
theorem mo_X9_findNearest : MOv x_X9_findNearest 1 := ⟨⟨(mt6 _ (List.mem_of_getElem? (i := 7) rfl)), (mt1 _ (List.mem_of_getElem? (i := 10) rfl)), ⟨by decide +kernel, by decide +kernel, by decide +kernel⟩, by decide +kernel⟩, (mt6 _ (List.mem_of_getElem? (i := 6) rfl)), (mp _ (List.mem_of_getElem? (i := 50) rfl : (yX9_findNearest, 47) ∈ lw_privs))⟩
def x_X9_nearTold : Mx := (yX9_nearTold, cX9_nearTold, 2, (some .int))
theorem mo_X9_nearTold : MOv x_X9_nearTold 1 := ⟨⟨(mt6 _ (List.mem_of_getElem? (i := 11) rfl)), (mt1 _ (List.mem_of_getElem? (i := 10) rfl)), ⟨by decide +kernel, by decide +kernel, by decide +kernel⟩, by decide +kernel⟩, (mt6 _ (List.mem_of_getElem? (i := 10) rfl)), (mp _ (List.mem_of_getElem? (i := 51) rfl : (yX9_nearTold, 47) ∈ lw_privs))⟩
def x_X9_nearest : Mx := (yX9_nearest, cX9_nearest, 2, (some .int))
theorem mo_X9_nearest : MOv x_X9_nearest 1 := ⟨⟨(mt6 _ (List.mem_of_getElem? (i := 3) rfl)), (mt1 _ (List.mem_of_getElem? (i := 10) rfl)), ⟨by decide +kernel, by decide +kernel, by decide +kernel⟩, by decide +kernel⟩, (mt6 _ (List.mem_of_getElem? (i := 1) rfl)), (mt6 _ (List.mem_of_getElem? (i := 2) rfl))⟩
def x_X9_lightest : Mx := (yX9_lightest, cX9_lightest, 2, (some .int))
theorem mo_X9_lightest : MOv x_X9_lightest 1 := ⟨⟨(mt6 _ (List.mem_of_getElem? (i := 15) rfl)), (mt1 _ (List.mem_of_getElem? (i := 10) rfl)), ⟨by decide +kernel, by decide +kernel, by decide +kernel⟩, by decide +kernel⟩, (mt6 _ (List.mem_of_getElem? (i := 13) rfl)), (mt6 _ (List.mem_of_getElem? (i := 14) rfl))⟩
def x_X9_mostOf : Mx := (yX9_mostOf, cX9_mostOf, 8, (some .int))
theorem mo_X9_mostOf : MOv x_X9_mostOf 2 := ⟨⟨(mt6 _ (List.mem_of_getElem? (i := 23) rfl)), (mt1 _ (List.mem_of_getElem? (i := 10) rfl)), ⟨by decide +kernel, by decide +kernel, by decide +kernel⟩, by decide +kernel⟩, (mt6 _ (List.mem_of_getElem? (i := 22) rfl)), (mp _ (List.mem_of_getElem? (i := 52) rfl : (yX9_mostOf, 47) ∈ lw_privs))⟩
def x_X9_blind : Mx := (yX9_blind, cX9_blind, 7, (some .int))
theorem mo_X9_blind : MOv x_X9_blind 1 := ⟨⟨(mt6 _ (List.mem_of_getElem? (i := 19) rfl)), (mt1 _ (List.mem_of_getElem? (i := 10) rfl)), ⟨by decide +kernel, by decide +kernel, by decide +kernel⟩, by decide +kernel⟩, (mt6 _ (List.mem_of_getElem? (i := 17) rfl)), (mt6 _ (List.mem_of_getElem? (i := 18) rfl))⟩
def x_X9_isBefore : Mx := (yX9_isBefore, cX9_isBefore, 9, (some .boolean))
theorem mo_X9_isBefore : MOv x_X9_isBefore 8 := ⟨⟨(mt6 _ (List.mem_of_getElem? (i := 31) rfl)), (mt1 _ (List.mem_of_getElem? (i := 10) rfl)), ⟨by decide +kernel, by decide +kernel, by decide +kernel⟩, by decide +kernel⟩, (mt6 _ (List.mem_of_getElem? (i := 30) rfl)), (mp _ (List.mem_of_getElem? (i := 53) rfl : (yX9_isBefore, 47) ∈ lw_privs))⟩
def x_X9_slanted : Mx := (yX9_slanted, cX9_slanted, 14, (some .int))
theorem mo_X9_slanted : MOv x_X9_slanted 1 := ⟨⟨(mt6 _ (List.mem_of_getElem? (i := 27) rfl)), (mt1 _ (List.mem_of_getElem? (i := 10) rfl)), ⟨by decide +kernel, by decide +kernel, by decide +kernel⟩, by decide +kernel⟩, (mt6 _ (List.mem_of_getElem? (i := 25) rfl)), (mt6 _ (List.mem_of_getElem? (i := 26) rfl))⟩
def x_X9_isNew : Mx := (yX9_isNew, cX9_isNew, 6, (some .boolean))
theorem mo_X9_isNew : MOv x_X9_isNew 1 := ⟨⟨(mt6 _ (List.mem_of_getElem? (i := 39) rfl)), (mt1 _ (List.mem_of_getElem? (i := 10) rfl)), ⟨by decide +kernel, by decide +kernel, by decide +kernel⟩, by decide +kernel⟩, (mt6 _ (List.mem_of_getElem? (i := 38) rfl)), (mp _ (List.mem_of_getElem? (i := 54) rfl : (yX9_isNew, 47) ∈ lw_privs))⟩
def x_X9_power : Mx := (yX9_power, cX9_power, 5, (some .int))
theorem mo_X9_power : MOv x_X9_power 1 := ⟨⟨(mt6 _ (List.mem_of_getElem? (i := 35) rfl)), (mt1 _ (List.mem_of_getElem? (i := 10) rfl)), ⟨by decide +kernel, by decide +kernel, by decide +kernel⟩, by decide +kernel⟩, (mt6 _ (List.mem_of_getElem? (i := 33) rfl)), (mt6 _ (List.mem_of_getElem? (i := 34) rfl))⟩
def x_X9_isMove : Mx := (yX9_isMove, cX9_isMove, 3, (some .boolean))
theorem mo_X9_isMove : MOv x_X9_isMove 2 := ⟨⟨(mt6 _ (List.mem_of_getElem? (i := 52) rfl)), (mt1 _ (List.mem_of_getElem? (i := 10) rfl)), ⟨by decide +kernel, by decide +kernel, by decide +kernel⟩, by decide +kernel⟩, (mt6 _ (List.mem_of_getElem? (i := 51) rfl)), (mp _ (List.mem_of_getElem? (i := 56) rfl : (yX9_isMove, 47) ∈ lw_privs))⟩
def x_X9_worthOf : Mx := (yX9_worthOf, cX9_worthOf, 11, (some .int))
theorem mo_X9_worthOf : MOv x_X9_worthOf 3 := ⟨⟨(mt6 _ (List.mem_of_getElem? (i := 48) rfl)), (mt1 _ (List.mem_of_getElem? (i := 10) rfl)), ⟨by decide +kernel, by decide +kernel, by decide +kernel⟩, by decide +kernel⟩, (mt6 _ (List.mem_of_getElem? (i := 47) rfl)), (mp _ (List.mem_of_getElem? (i := 55) rfl : (yX9_worthOf, 47) ∈ lw_privs))⟩
def x_X9_best : Mx := (yX9_best, cX9_best, 7, (some .int))
theorem mo_X9_best : MOv x_X9_best 2 := ⟨⟨(mt6 _ (List.mem_of_getElem? (i := 56) rfl)), (mt1 _ (List.mem_of_getElem? (i := 10) rfl)), ⟨by decide +kernel, by decide +kernel, by decide +kernel⟩, by decide +kernel⟩, (mt6 _ (List.mem_of_getElem? (i := 55) rfl)), (mp _ (List.mem_of_getElem? (i := 57) rfl : (yX9_best, 47) ∈ lw_privs))⟩
def x_X9_duel : Mx := (yX9_duel, cX9_duel, 8, (some .int))
theorem mo_X9_duel : MOv x_X9_duel 3 := ⟨⟨(mt6 _ (List.mem_of_getElem? (i := 43) rfl)), (mt1 _ (List.mem_of_getElem? (i := 10) rfl)), ⟨by decide +kernel, by decide +kernel, by decide +kernel⟩, by decide +kernel⟩, (mt6 _ (List.mem_of_getElem? (i := 41) rfl)), (mt6 _ (List.mem_of_getElem? (i := 42) rfl))⟩
def x_X9_turned : Mx := (yX9_turned, cX9_turned, 3, (some .int))
theorem mo_X9_turned : MOv x_X9_turned 2 := ⟨⟨(mt6 _ (List.mem_of_getElem? (i := 60) rfl)), (mt1 _ (List.mem_of_getElem? (i := 10) rfl)), ⟨by decide +kernel, by decide +kernel, by decide +kernel⟩, by decide +kernel⟩, (mt6 _ (List.mem_of_getElem? (i := 58) rfl)), (mt6 _ (List.mem_of_getElem? (i := 59) rfl))⟩
def x_X9_spoilt : Mx := (yX9_spoilt, cX9_spoilt, 5, (some .int))
theorem mo_X9_spoilt : MOv x_X9_spoilt 1 := ⟨⟨(mt6 _ (List.mem_of_getElem? (i := 64) rfl)), (mt1 _ (List.mem_of_getElem? (i := 10) rfl)), ⟨by decide +kernel, by decide +kernel, by decide +kernel⟩, by decide +kernel⟩, (mt6 _ (List.mem_of_getElem? (i := 62) rfl)), (mt6 _ (List.mem_of_getElem? (i := 63) rfl))⟩
def x_X9_both : Mx := (yX9_both, cX9_both, 7, (some .int))
theorem mo_X9_both : MOv x_X9_both 1 := ⟨⟨(mt6 _ (List.mem_of_getElem? (i := 68) rfl)), (mt1 _ (List.mem_of_getElem? (i := 10) rfl)), ⟨by decide +kernel, by decide +kernel, by decide +kernel⟩, by decide +kernel⟩, (mt6 _ (List.mem_of_getElem? (i := 66) rfl)), (mt6 _ (List.mem_of_getElem? (i := 67) rfl))⟩
def x_X9_mirrored : Mx := (yX9_mirrored, cX9_mirrored, 8, (some .long))
theorem mo_X9_mirrored : MOs x_X9_mirrored 3 := ⟨⟨(mt6 _ (List.mem_of_getElem? (i := 78) rfl)), (mt1 _ (List.mem_of_getElem? (i := 10) rfl)), ⟨by decide +kernel, by decide +kernel, by decide +kernel⟩, by decide +kernel⟩, (mt6 _ (List.mem_of_getElem? (i := 77) rfl))⟩
def x_X9_quarter : Mx := (yX9_quarter, cX9_quarter, 8, (some .long))
theorem mo_X9_quarter : MOs x_X9_quarter 3 := ⟨⟨(mt6 _ (List.mem_of_getElem? (i := 81) rfl)), (mt1 _ (List.mem_of_getElem? (i := 10) rfl)), ⟨by decide +kernel, by decide +kernel, by decide +kernel⟩, by decide +kernel⟩, (mt6 _ (List.mem_of_getElem? (i := 80) rfl))⟩
def x_X9_rotated : Mx := (yX9_rotated, cX9_rotated, 8, (some .long))
theorem mo_X9_rotated : MOs x_X9_rotated 4 := ⟨⟨(mt6 _ (List.mem_of_getElem? (i := 75) rfl)), (mt1 _ (List.mem_of_getElem? (i := 10) rfl)), ⟨by decide +kernel, by decide +kernel, by decide +kernel⟩, by decide +kernel⟩, (mt6 _ (List.mem_of_getElem? (i := 74) rfl))⟩
def x_X9_endsPattern : Mx := (yX9_endsPattern, cX9_endsPattern, 1, none)
theorem mo_X9_endsPattern : MOv x_X9_endsPattern 0 := ⟨⟨(mt6 _ (List.mem_of_getElem? (i := 89) rfl)), (mt1 _ (List.mem_of_getElem? (i := 10) rfl)), ⟨by decide +kernel, by decide +kernel, by decide +kernel⟩, by decide +kernel⟩, (mt6 _ (List.mem_of_getElem? (i := 88) rfl)), (mp _ (List.mem_of_getElem? (i := 58) rfl : (yX9_endsPattern, 47) ∈ lw_privs))⟩
def x_X9_rotate : Mx := (yX9_rotate, cX9_rotate, 3, (some .int))
theorem mo_X9_rotate : MOv x_X9_rotate 1 := ⟨⟨(mt6 _ (List.mem_of_getElem? (i := 72) rfl)), (mt1 _ (List.mem_of_getElem? (i := 10) rfl)), ⟨by decide +kernel, by decide +kernel, by decide +kernel⟩, by decide +kernel⟩, (mt6 _ (List.mem_of_getElem? (i := 70) rfl)), (mt6 _ (List.mem_of_getElem? (i := 71) rfl))⟩
def x_X9_cut : Mx := (yX9_cut, cX9_cut, 9, (some .int))
theorem mo_X9_cut : MOv x_X9_cut 4 := ⟨⟨(mt6 _ (List.mem_of_getElem? (i := 85) rfl)), (mt1 _ (List.mem_of_getElem? (i := 10) rfl)), ⟨by decide +kernel, by decide +kernel, by decide +kernel⟩, by decide +kernel⟩, (mt6 _ (List.mem_of_getElem? (i := 83) rfl)), (mt6 _ (List.mem_of_getElem? (i := 84) rfl))⟩
def x_X9_sew : Mx := (yX9_sew, cX9_sew, 3, (some .int))
theorem mo_X9_sew : MOv x_X9_sew 2 := ⟨⟨(mt6 _ (List.mem_of_getElem? (i := 93) rfl)), (mt1 _ (List.mem_of_getElem? (i := 10) rfl)), ⟨by decide +kernel, by decide +kernel, by decide +kernel⟩, by decide +kernel⟩, (mt6 _ (List.mem_of_getElem? (i := 91) rfl)), (mt6 _ (List.mem_of_getElem? (i := 92) rfl))⟩
def x_X9_findName : Mx := (yX9_findName, cX9_findName, 10, none)
theorem mo_X9_findName : MOv x_X9_findName 3 := ⟨⟨(mt6 _ (List.mem_of_getElem? (i := 101) rfl)), (mt1 _ (List.mem_of_getElem? (i := 10) rfl)), ⟨by decide +kernel, by decide +kernel, by decide +kernel⟩, by decide +kernel⟩, (mt6 _ (List.mem_of_getElem? (i := 100) rfl)), (mp _ (List.mem_of_getElem? (i := 59) rfl : (yX9_findName, 47) ∈ lw_privs))⟩
def x_X9_name : Mx := (yX9_name, cX9_name, 2, (some .long))
theorem mo_X9_name : MOv x_X9_name 1 := ⟨⟨(mt6 _ (List.mem_of_getElem? (i := 97) rfl)), (mt1 _ (List.mem_of_getElem? (i := 10) rfl)), ⟨by decide +kernel, by decide +kernel, by decide +kernel⟩, by decide +kernel⟩, (mt6 _ (List.mem_of_getElem? (i := 95) rfl)), (mt6 _ (List.mem_of_getElem? (i := 96) rfl))⟩
def x_X9_cousin : Mx := (yX9_cousin, cX9_cousin, 6, (some .int))
theorem mo_X9_cousin : MOv x_X9_cousin 1 := ⟨⟨(mt6 _ (List.mem_of_getElem? (i := 105) rfl)), (mt1 _ (List.mem_of_getElem? (i := 10) rfl)), ⟨by decide +kernel, by decide +kernel, by decide +kernel⟩, by decide +kernel⟩, (mt6 _ (List.mem_of_getElem? (i := 103) rfl)), (mt6 _ (List.mem_of_getElem? (i := 104) rfl))⟩
def x_X9_keep : Mx := (yX9_keep, cX9_keep, 3, (some .int))
theorem mo_X9_keep : MOv x_X9_keep 1 := ⟨⟨(mt6 _ (List.mem_of_getElem? (i := 109) rfl)), (mt1 _ (List.mem_of_getElem? (i := 10) rfl)), ⟨by decide +kernel, by decide +kernel, by decide +kernel⟩, by decide +kernel⟩, (mt6 _ (List.mem_of_getElem? (i := 107) rfl)), (mt6 _ (List.mem_of_getElem? (i := 108) rfl))⟩
def x_X9_back : Mx := (yX9_back, cX9_back, 2, (some .int))
theorem mo_X9_back : MOv x_X9_back 1 := ⟨⟨(mt6 _ (List.mem_of_getElem? (i := 113) rfl)), (mt1 _ (List.mem_of_getElem? (i := 10) rfl)), ⟨by decide +kernel, by decide +kernel, by decide +kernel⟩, by decide +kernel⟩, (mt6 _ (List.mem_of_getElem? (i := 111) rfl)), (mt6 _ (List.mem_of_getElem? (i := 112) rfl))⟩
def x_X9_isSheet : Mx := (yX9_isSheet, cX9_isSheet, 2, (some .boolean))
theorem mo_X9_isSheet : MOs x_X9_isSheet 2 := ⟨⟨(mt6 _ (List.mem_of_getElem? (i := 120) rfl)), (mt1 _ (List.mem_of_getElem? (i := 10) rfl)), ⟨by decide +kernel, by decide +kernel, by decide +kernel⟩, by decide +kernel⟩, (mt6 _ (List.mem_of_getElem? (i := 119) rfl))⟩
def x_X9_sheet : Mx := (yX9_sheet, cX9_sheet, 5, (some .int))
theorem mo_X9_sheet : MOv x_X9_sheet 3 := ⟨⟨(mt6 _ (List.mem_of_getElem? (i := 117) rfl)), (mt1 _ (List.mem_of_getElem? (i := 10) rfl)), ⟨by decide +kernel, by decide +kernel, by decide +kernel⟩, by decide +kernel⟩, (mt6 _ (List.mem_of_getElem? (i := 115) rfl)), (mt6 _ (List.mem_of_getElem? (i := 116) rfl))⟩
def x_X9_lay : Mx := (yX9_lay, cX9_lay, 4, (some .int))
theorem mo_X9_lay : MOv x_X9_lay 3 := ⟨⟨(mt6 _ (List.mem_of_getElem? (i := 124) rfl)), (mt1 _ (List.mem_of_getElem? (i := 10) rfl)), ⟨by decide +kernel, by decide +kernel, by decide +kernel⟩, by decide +kernel⟩, (mt6 _ (List.mem_of_getElem? (i := 122) rfl)), (mt6 _ (List.mem_of_getElem? (i := 123) rfl))⟩
def x_X9_read : Mx := (yX9_read, cX9_read, 11, (some .int))
theorem mo_X9_read : MOv x_X9_read 4 := ⟨⟨(mt6 _ (List.mem_of_getElem? (i := 128) rfl)), (mt1 _ (List.mem_of_getElem? (i := 10) rfl)), ⟨by decide +kernel, by decide +kernel, by decide +kernel⟩, by decide +kernel⟩, (mt6 _ (List.mem_of_getElem? (i := 126) rfl)), (mt6 _ (List.mem_of_getElem? (i := 127) rfl))⟩
def x_X9_torn : Mx := (yX9_torn, cX9_torn, 1, (some .int))
theorem mo_X9_torn : MOv x_X9_torn 0 := ⟨⟨(mt6 _ (List.mem_of_getElem? (i := 133) rfl)), (mt1 _ (List.mem_of_getElem? (i := 10) rfl)), ⟨by decide +kernel, by decide +kernel, by decide +kernel⟩, by decide +kernel⟩, (mt6 _ (List.mem_of_getElem? (i := 131) rfl)), (mt6 _ (List.mem_of_getElem? (i := 132) rfl))⟩
def x_X9_count : Mx := (yX9_count, cX9_count, 2, (some .int))
theorem mo_X9_count : MOv x_X9_count 1 := ⟨⟨(mt6 _ (List.mem_of_getElem? (i := 137) rfl)), (mt1 _ (List.mem_of_getElem? (i := 10) rfl)), ⟨by decide +kernel, by decide +kernel, by decide +kernel⟩, by decide +kernel⟩, (mt6 _ (List.mem_of_getElem? (i := 135) rfl)), (mt6 _ (List.mem_of_getElem? (i := 136) rfl))⟩
def x_J6_bitCount_0f7a4 : Mx := (yJ6_bitCount_0f7a4, cJ6_bitCount_0f7a4, 1, (some .int))
theorem mo_J6_bitCount_0f7a4 : MOs x_J6_bitCount_0f7a4 1 := ⟨⟨(mt3 _ (List.mem_of_getElem? (i := 136) rfl)), (mt1 _ (List.mem_of_getElem? (i := 16) rfl)), ⟨by decide +kernel, by decide +kernel, by decide +kernel⟩, by decide +kernel⟩, (mt3 _ (List.mem_of_getElem? (i := 135) rfl))⟩
def x_J13_bitCount_95d88 : Mx := (yJ13_bitCount_95d88, cJ13_bitCount_95d88, 2, (some .int))
theorem mo_J13_bitCount_95d88 : MOs x_J13_bitCount_95d88 1 := ⟨⟨(mt3 _ (List.mem_of_getElem? (i := 59) rfl)), (mt1 _ (List.mem_of_getElem? (i := 15) rfl)), ⟨by decide +kernel, by decide +kernel, by decide +kernel⟩, by decide +kernel⟩, (mt3 _ (List.mem_of_getElem? (i := 58) rfl))⟩
def x_J0_length_8abf5 : Mx := (yJ0_length_8abf5, cJ0_length_8abf5, 1, (some .int))
theorem mo_J0_length_8abf5 : MOv x_J0_length_8abf5 0 := ⟨⟨(mt2 _ (List.mem_of_getElem? (i := 101) rfl)), (mt1 _ (List.mem_of_getElem? (i := 11) rfl)), ⟨by decide +kernel, by decide +kernel, by decide +kernel⟩, by decide +kernel⟩, (mt2 _ (List.mem_of_getElem? (i := 99) rfl)), (mt2 _ (List.mem_of_getElem? (i := 100) rfl))⟩
def x_J0_charAt_5068e : Mx := (yJ0_charAt_5068e, cJ0_charAt_5068e, 2, (some .char))
theorem mo_J0_charAt_5068e : MOv x_J0_charAt_5068e 1 := ⟨⟨(mt2 _ (List.mem_of_getElem? (i := 111) rfl)), (mt1 _ (List.mem_of_getElem? (i := 11) rfl)), ⟨by decide +kernel, by decide +kernel, by decide +kernel⟩, by decide +kernel⟩, (mt2 _ (List.mem_of_getElem? (i := 109) rfl)), (mt2 _ (List.mem_of_getElem? (i := 110) rfl))⟩
def x_J0_coder_7d493 : Mx := (yJ0_coder_7d493, cJ0_coder_7d493, 1, (some .byte))
theorem mo_J0_coder_7d493 : MOv x_J0_coder_7d493 0 := ⟨⟨(mt2 _ (List.mem_of_getElem? (i := 105) rfl)), (mt1 _ (List.mem_of_getElem? (i := 11) rfl)), ⟨by decide +kernel, by decide +kernel, by decide +kernel⟩, by decide +kernel⟩, (mt2 _ (List.mem_of_getElem? (i := 103) rfl)), (mt2 _ (List.mem_of_getElem? (i := 104) rfl))⟩
def x_J0_isLatin1_aae02 : Mx := (yJ0_isLatin1_aae02, cJ0_isLatin1_aae02, 1, (some .boolean))
theorem mo_J0_isLatin1_aae02 : MOv x_J0_isLatin1_aae02 0 := ⟨⟨(mt2 _ (List.mem_of_getElem? (i := 115) rfl)), (mt1 _ (List.mem_of_getElem? (i := 11) rfl)), ⟨by decide +kernel, by decide +kernel, by decide +kernel⟩, by decide +kernel⟩, (mt2 _ (List.mem_of_getElem? (i := 113) rfl)), (mt2 _ (List.mem_of_getElem? (i := 114) rfl))⟩
def x_J0_checkIndex_df160 : Mx := (yJ0_checkIndex_df160, cJ0_checkIndex_df160, 2, none)
theorem mo_J0_checkIndex_df160 : MOs x_J0_checkIndex_df160 2 := ⟨⟨(mt2 _ (List.mem_of_getElem? (i := 121) rfl)), (mt1 _ (List.mem_of_getElem? (i := 11) rfl)), ⟨by decide +kernel, by decide +kernel, by decide +kernel⟩, by decide +kernel⟩, (mt2 _ (List.mem_of_getElem? (i := 120) rfl))⟩
def x_J1_charAt_3b067 : Mx := (yJ1_charAt_3b067, cJ1_charAt_3b067, 2, (some .char))
theorem mo_J1_charAt_3b067 : MOs x_J1_charAt_3b067 2 := ⟨⟨(mt2 _ (List.mem_of_getElem? (i := 118) rfl)), (mt1 _ (List.mem_of_getElem? (i := 12) rfl)), ⟨by decide +kernel, by decide +kernel, by decide +kernel⟩, by decide +kernel⟩, (mt2 _ (List.mem_of_getElem? (i := 117) rfl))⟩
def x_J2_getChar_3b067 : Mx := (yJ2_getChar_3b067, cJ2_getChar_3b067, 2, (some .char))
theorem mo_J2_getChar_3b067 : MOs x_J2_getChar_3b067 2 := ⟨⟨(mt2 _ (List.mem_of_getElem? (i := 139) rfl)), (mt1 _ (List.mem_of_getElem? (i := 14) rfl)), ⟨by decide +kernel, by decide +kernel, by decide +kernel⟩, by decide +kernel⟩, (mt2 _ (List.mem_of_getElem? (i := 138) rfl))⟩
def x_J2_length_9d52b : Mx := (yJ2_length_9d52b, cJ2_length_9d52b, 1, (some .int))
theorem mo_J2_length_9d52b : MOs x_J2_length_9d52b 1 := ⟨⟨(mt2 _ (List.mem_of_getElem? (i := 135) rfl)), (mt1 _ (List.mem_of_getElem? (i := 14) rfl)), ⟨by decide +kernel, by decide +kernel, by decide +kernel⟩, by decide +kernel⟩, (mt2 _ (List.mem_of_getElem? (i := 134) rfl))⟩
def x_J2_charAt_3b067 : Mx := (yJ2_charAt_3b067, cJ2_charAt_3b067, 2, (some .char))
theorem mo_J2_charAt_3b067 : MOs x_J2_charAt_3b067 2 := ⟨⟨(mt2 _ (List.mem_of_getElem? (i := 129) rfl)), (mt1 _ (List.mem_of_getElem? (i := 14) rfl)), ⟨by decide +kernel, by decide +kernel, by decide +kernel⟩, by decide +kernel⟩, (mt2 _ (List.mem_of_getElem? (i := 128) rfl))⟩
def x_J2_checkIndex_2214a : Mx := (yJ2_checkIndex_2214a, cJ2_checkIndex_2214a, 2, none)
theorem mo_J2_checkIndex_2214a : MOs x_J2_checkIndex_2214a 2 := ⟨⟨(mt2 _ (List.mem_of_getElem? (i := 132) rfl)), (mt1 _ (List.mem_of_getElem? (i := 14) rfl)), ⟨by decide +kernel, by decide +kernel, by decide +kernel⟩, by decide +kernel⟩, (mt2 _ (List.mem_of_getElem? (i := 131) rfl))⟩
def x_J3_checkIndex_8e157 : Mx := (yJ3_checkIndex_8e157, cJ3_checkIndex_8e157, 3, (some .int))
theorem mo_J3_checkIndex_8e157 : MOs x_J3_checkIndex_8e157 3 := ⟨⟨(mt2 _ (List.mem_of_getElem? (i := 126) rfl)), (mt1 _ (List.mem_of_getElem? (i := 13) rfl)), ⟨by decide +kernel, by decide +kernel, by decide +kernel⟩, by decide +kernel⟩, (mt2 _ (List.mem_of_getElem? (i := 125) rfl))⟩
theorem ii_L : Cond.initialized RL ∈ lw_tbl := (mt1 _ (List.mem_of_getElem? (i := 0) rfl))
theorem ii_X8 : Cond.initialized RX8 ∈ lw_tbl := (mt1 _ (List.mem_of_getElem? (i := 1) rfl))
theorem ii_X0 : Cond.initialized RX0 ∈ lw_tbl := (mt1 _ (List.mem_of_getElem? (i := 2) rfl))
theorem ii_X1 : Cond.initialized RX1 ∈ lw_tbl := (mt1 _ (List.mem_of_getElem? (i := 3) rfl))
theorem ii_X5 : Cond.initialized RX5 ∈ lw_tbl := (mt1 _ (List.mem_of_getElem? (i := 4) rfl))
theorem ii_X6 : Cond.initialized RX6 ∈ lw_tbl := (mt1 _ (List.mem_of_getElem? (i := 5) rfl))
theorem ii_X4 : Cond.initialized RX4 ∈ lw_tbl := (mt1 _ (List.mem_of_getElem? (i := 6) rfl))
theorem ii_X3 : Cond.initialized RX3 ∈ lw_tbl := (mt1 _ (List.mem_of_getElem? (i := 7) rfl))
theorem ii_X7 : Cond.initialized RX7 ∈ lw_tbl := (mt1 _ (List.mem_of_getElem? (i := 8) rfl))
theorem ii_X2 : Cond.initialized RX2 ∈ lw_tbl := (mt1 _ (List.mem_of_getElem? (i := 9) rfl))
theorem ii_X9 : Cond.initialized RX9 ∈ lw_tbl := (mt1 _ (List.mem_of_getElem? (i := 10) rfl))
theorem ii_J0 : Cond.initialized RJ0 ∈ lw_tbl := (mt1 _ (List.mem_of_getElem? (i := 11) rfl))
theorem ii_J1 : Cond.initialized RJ1 ∈ lw_tbl := (mt1 _ (List.mem_of_getElem? (i := 12) rfl))
theorem ii_J3 : Cond.initialized RJ3 ∈ lw_tbl := (mt1 _ (List.mem_of_getElem? (i := 13) rfl))
theorem ii_J2 : Cond.initialized RJ2 ∈ lw_tbl := (mt1 _ (List.mem_of_getElem? (i := 14) rfl))
theorem ii_J13 : Cond.initialized RJ13 ∈ lw_tbl := (mt1 _ (List.mem_of_getElem? (i := 15) rfl))
theorem ii_J6 : Cond.initialized RJ6 ∈ lw_tbl := (mt1 _ (List.mem_of_getElem? (i := 16) rfl))
theorem ii_J9 : Cond.initialized RJ9 ∈ lw_tbl := (mt1 _ (List.mem_of_getElem? (i := 17) rfl))
theorem cl_L_7 : Cond.classLink RL 7 RX8 ∈ lw_tbl := (mt1 _ (List.mem_of_getElem? (i := 18) rfl))
theorem is_X8 : Cond.instantiable RX8 15 ∈ lw_tbl := (mt1 _ (List.mem_of_getElem? (i := 19) rfl))
theorem ml_L_9 : Cond.methodLink RL 9 yX8_init ∈ lw_tbl := (mt1 _ (List.mem_of_getElem? (i := 20) rfl))
theorem ml_X8_3 : Cond.methodLink RX8 3 Lib.objectInit ∈ lw_tbl := (mt1 _ (List.mem_of_getElem? (i := 23) rfl))
theorem cl_X8_9 : Cond.classLink RX8 9 RX0 ∈ lw_tbl := (mt1 _ (List.mem_of_getElem? (i := 26) rfl))
theorem is_X0 : Cond.instantiable RX0 4 ∈ lw_tbl := (mt1 _ (List.mem_of_getElem? (i := 27) rfl))
theorem ml_X8_11 : Cond.methodLink RX8 11 yX0_init ∈ lw_tbl := (mt1 _ (List.mem_of_getElem? (i := 28) rfl))
theorem ml_X0_3 : Cond.methodLink RX0 3 Lib.objectInit ∈ lw_tbl := (mt1 _ (List.mem_of_getElem? (i := 31) rfl))
theorem fl_X0_18 : Cond.fieldLink RX0 18 "RowsColumns$Cloth" "there" "Z" ∈ lw_tbl := (mt1 _ (List.mem_of_getElem? (i := 32) rfl))
theorem fl_X8_106 : Cond.fieldLink RX8 106 "RowsColumns$Cloth" "there" "Z" ∈ lw_tbl := (mt1 _ (List.mem_of_getElem? (i := 33) rfl))
theorem fl_X6_89 : Cond.fieldLink RX6 89 "RowsColumns$Cloth" "there" "Z" ∈ lw_tbl := (mt1 _ (List.mem_of_getElem? (i := 34) rfl))
theorem fl_X0_11 : Cond.fieldLink RX0 11 "RowsColumns$Cloth" "high" "I" ∈ lw_tbl := (mt1 _ (List.mem_of_getElem? (i := 35) rfl))
theorem fl_X2_27 : Cond.fieldLink RX2 27 "RowsColumns$Cloth" "high" "I" ∈ lw_tbl := (mt1 _ (List.mem_of_getElem? (i := 36) rfl))
theorem fl_X7_62 : Cond.fieldLink RX7 62 "RowsColumns$Cloth" "high" "I" ∈ lw_tbl := (mt1 _ (List.mem_of_getElem? (i := 37) rfl))
theorem fl_X6_93 : Cond.fieldLink RX6 93 "RowsColumns$Cloth" "high" "I" ∈ lw_tbl := (mt1 _ (List.mem_of_getElem? (i := 38) rfl))
theorem fl_X8_117 : Cond.fieldLink RX8 117 "RowsColumns$Cloth" "high" "I" ∈ lw_tbl := (mt1 _ (List.mem_of_getElem? (i := 39) rfl))
theorem fl_X0_15 : Cond.fieldLink RX0 15 "RowsColumns$Cloth" "wide" "I" ∈ lw_tbl := (mt1 _ (List.mem_of_getElem? (i := 40) rfl))
theorem fl_X2_31 : Cond.fieldLink RX2 31 "RowsColumns$Cloth" "wide" "I" ∈ lw_tbl := (mt1 _ (List.mem_of_getElem? (i := 41) rfl))
theorem fl_X7_65 : Cond.fieldLink RX7 65 "RowsColumns$Cloth" "wide" "I" ∈ lw_tbl := (mt1 _ (List.mem_of_getElem? (i := 42) rfl))
theorem fl_X6_102 : Cond.fieldLink RX6 102 "RowsColumns$Cloth" "wide" "I" ∈ lw_tbl := (mt1 _ (List.mem_of_getElem? (i := 43) rfl))
theorem fl_X8_120 : Cond.fieldLink RX8 120 "RowsColumns$Cloth" "wide" "I" ∈ lw_tbl := (mt1 _ (List.mem_of_getElem? (i := 44) rfl))
theorem fl_X0_22 : Cond.fieldLink RX0 22 "RowsColumns$Cloth" "dark" "J" ∈ lw_tbl := (mt1 _ (List.mem_of_getElem? (i := 45) rfl))
theorem fl_X2_19 : Cond.fieldLink RX2 19 "RowsColumns$Cloth" "dark" "J" ∈ lw_tbl := (mt1 _ (List.mem_of_getElem? (i := 46) rfl))
theorem fl_X6_109 : Cond.fieldLink RX6 109 "RowsColumns$Cloth" "dark" "J" ∈ lw_tbl := (mt1 _ (List.mem_of_getElem? (i := 47) rfl))
theorem fl_X8_137 : Cond.fieldLink RX8 137 "RowsColumns$Cloth" "dark" "J" ∈ lw_tbl := (mt1 _ (List.mem_of_getElem? (i := 48) rfl))
theorem cl_X8_30 : Cond.classLink RX8 30 RX1 ∈ lw_tbl := (mt1 _ (List.mem_of_getElem? (i := 58) rfl))
theorem is_X1 : Cond.instantiable RX1 3 ∈ lw_tbl := (mt1 _ (List.mem_of_getElem? (i := 59) rfl))
theorem mn_X8_32 : Cond.methodLinkNest RX8 32 yX1_init "RowsColumns" ∈ lw_tbl := (mt1 _ (List.mem_of_getElem? (i := 60) rfl))
theorem ml_X1_1 : Cond.methodLink RX1 1 Lib.objectInit ∈ lw_tbl := (mt1 _ (List.mem_of_getElem? (i := 63) rfl))
theorem fl_X1_16 : Cond.fieldLink RX1 16 "RowsColumns$Days" "many" "I" ∈ lw_tbl := (mt1 _ (List.mem_of_getElem? (i := 64) rfl))
theorem fl_X8_123 : Cond.fieldLink RX8 123 "RowsColumns$Days" "many" "I" ∈ lw_tbl := (mt1 _ (List.mem_of_getElem? (i := 65) rfl))
theorem fl_X6_113 : Cond.fieldLink RX6 113 "RowsColumns$Days" "many" "I" ∈ lw_tbl := (mt1 _ (List.mem_of_getElem? (i := 66) rfl))
theorem fl_X1_9 : Cond.fieldLink RX1 9 "RowsColumns$Days" "acts" "[I" ∈ lw_tbl := (mt1 _ (List.mem_of_getElem? (i := 67) rfl))
theorem fl_X1_13 : Cond.fieldLink RX1 13 "RowsColumns$Days" "codes" "[I" ∈ lw_tbl := (mt1 _ (List.mem_of_getElem? (i := 68) rfl))
theorem ac_int : Cond.arrayClass .int ∈ lw_tbl := (mt1 _ (List.mem_of_getElem? (i := 76) rfl))
theorem cl_X8_37 : Cond.classLink RX8 37 RX5 ∈ lw_tbl := (mt1 _ (List.mem_of_getElem? (i := 77) rfl))
theorem is_X5 : Cond.instantiable RX5 2 ∈ lw_tbl := (mt1 _ (List.mem_of_getElem? (i := 78) rfl))
theorem mn_X8_39 : Cond.methodLinkNest RX8 39 yX5_init "RowsColumns" ∈ lw_tbl := (mt1 _ (List.mem_of_getElem? (i := 79) rfl))
theorem ml_X5_1 : Cond.methodLink RX5 1 Lib.objectInit ∈ lw_tbl := (mt1 _ (List.mem_of_getElem? (i := 82) rfl))
theorem fl_X5_13 : Cond.fieldLink RX5 13 "RowsColumns$Tape" "length" "I" ∈ lw_tbl := (mt1 _ (List.mem_of_getElem? (i := 83) rfl))
theorem fl_X8_85 : Cond.fieldLink RX8 85 "RowsColumns$Tape" "length" "I" ∈ lw_tbl := (mt1 _ (List.mem_of_getElem? (i := 84) rfl))
theorem fl_X6_165 : Cond.fieldLink RX6 165 "RowsColumns$Tape" "length" "I" ∈ lw_tbl := (mt1 _ (List.mem_of_getElem? (i := 85) rfl))
theorem fl_X5_9 : Cond.fieldLink RX5 9 "RowsColumns$Tape" "bytes" "[B" ∈ lw_tbl := (mt1 _ (List.mem_of_getElem? (i := 86) rfl))
theorem ac_byte : Cond.arrayClass .byte ∈ lw_tbl := (mt1 _ (List.mem_of_getElem? (i := 92) rfl))
theorem cl_X8_44 : Cond.classLink RX8 44 RX6 ∈ lw_tbl := (mt1 _ (List.mem_of_getElem? (i := 93) rfl))
theorem is_X6 : Cond.instantiable RX6 10 ∈ lw_tbl := (mt1 _ (List.mem_of_getElem? (i := 94) rfl))
theorem ml_X8_46 : Cond.methodLink RX8 46 yX6_init ∈ lw_tbl := (mt1 _ (List.mem_of_getElem? (i := 95) rfl))
theorem ml_X6_3 : Cond.methodLink RX6 3 Lib.objectInit ∈ lw_tbl := (mt1 _ (List.mem_of_getElem? (i := 98) rfl))
theorem cl_X6_9 : Cond.classLink RX6 9 RX0 ∈ lw_tbl := (mt1 _ (List.mem_of_getElem? (i := 99) rfl))
theorem ml_X6_11 : Cond.methodLink RX6 11 yX0_init ∈ lw_tbl := (mt1 _ (List.mem_of_getElem? (i := 100) rfl))
theorem cl_X6_23 : Cond.classLink RX6 23 RX1 ∈ lw_tbl := (mt1 _ (List.mem_of_getElem? (i := 101) rfl))
theorem mn_X6_25 : Cond.methodLinkNest RX6 25 yX1_init "RowsColumns" ∈ lw_tbl := (mt1 _ (List.mem_of_getElem? (i := 102) rfl))
theorem fl_X6_14 : Cond.fieldLink RX6 14 "RowsColumns$Teller" "told" "LRowsColumns$Cloth;" ∈ lw_tbl := (mt1 _ (List.mem_of_getElem? (i := 103) rfl))
theorem fl_X8_99 : Cond.fieldLink RX8 99 "RowsColumns$Teller" "told" "LRowsColumns$Cloth;" ∈ lw_tbl := (mt1 _ (List.mem_of_getElem? (i := 104) rfl))
theorem fl_X6_20 : Cond.fieldLink RX6 20 "RowsColumns$Teller" "wished" "LRowsColumns$Cloth;" ∈ lw_tbl := (mt1 _ (List.mem_of_getElem? (i := 105) rfl))
theorem fl_X8_110 : Cond.fieldLink RX8 110 "RowsColumns$Teller" "wished" "LRowsColumns$Cloth;" ∈ lw_tbl := (mt1 _ (List.mem_of_getElem? (i := 106) rfl))
theorem fl_X6_26 : Cond.fieldLink RX6 26 "RowsColumns$Teller" "days" "LRowsColumns$Days;" ∈ lw_tbl := (mt1 _ (List.mem_of_getElem? (i := 107) rfl))
theorem fl_X8_113 : Cond.fieldLink RX8 113 "RowsColumns$Teller" "days" "LRowsColumns$Days;" ∈ lw_tbl := (mt1 _ (List.mem_of_getElem? (i := 108) rfl))
theorem fl_X6_40 : Cond.fieldLink RX6 40 "RowsColumns$Teller" "fault" "I" ∈ lw_tbl := (mt1 _ (List.mem_of_getElem? (i := 109) rfl))
theorem fl_X8_93 : Cond.fieldLink RX8 93 "RowsColumns$Teller" "fault" "I" ∈ lw_tbl := (mt1 _ (List.mem_of_getElem? (i := 110) rfl))
theorem fl_X6_30 : Cond.fieldLink RX6 30 "RowsColumns$Teller" "tape" "LRowsColumns$Tape;" ∈ lw_tbl := (mt1 _ (List.mem_of_getElem? (i := 111) rfl))
theorem fl_X6_44 : Cond.fieldLink RX6 44 "RowsColumns$Teller" "place" "I" ∈ lw_tbl := (mt1 _ (List.mem_of_getElem? (i := 112) rfl))
theorem fl_X6_65 : Cond.fieldLink RX6 65 "RowsColumns$Teller" "token" "I" ∈ lw_tbl := (mt1 _ (List.mem_of_getElem? (i := 113) rfl))
theorem fl_X6_59 : Cond.fieldLink RX6 59 "RowsColumns$Teller" "first" "I" ∈ lw_tbl := (mt1 _ (List.mem_of_getElem? (i := 114) rfl))
theorem fl_X6_47 : Cond.fieldLink RX6 47 "RowsColumns$Teller" "next" "I" ∈ lw_tbl := (mt1 _ (List.mem_of_getElem? (i := 115) rfl))
theorem fl_X6_126 : Cond.fieldLink RX6 126 "RowsColumns$Teller" "value" "I" ∈ lw_tbl := (mt1 _ (List.mem_of_getElem? (i := 116) rfl))
theorem cl_X8_53 : Cond.classLink RX8 53 RX4 ∈ lw_tbl := (mt1 _ (List.mem_of_getElem? (i := 138) rfl))
theorem is_X4 : Cond.instantiable RX4 1 ∈ lw_tbl := (mt1 _ (List.mem_of_getElem? (i := 139) rfl))
theorem ml_X8_55 : Cond.methodLink RX8 55 yX4_init ∈ lw_tbl := (mt1 _ (List.mem_of_getElem? (i := 140) rfl))
theorem ml_X4_3 : Cond.methodLink RX4 3 Lib.objectInit ∈ lw_tbl := (mt1 _ (List.mem_of_getElem? (i := 143) rfl))
theorem cl_X4_9 : Cond.classLink RX4 9 RX3 ∈ lw_tbl := (mt1 _ (List.mem_of_getElem? (i := 144) rfl))
theorem ao_Sheet : Cond.arrayOver (.object RX3) ∈ lw_tbl := (mt1 _ (List.mem_of_getElem? (i := 145) rfl))
theorem is_X3 : Cond.instantiable RX3 3 ∈ lw_tbl := (mt1 _ (List.mem_of_getElem? (i := 146) rfl))
theorem mn_X4_17 : Cond.methodLinkNest RX4 17 yX3_init "RowsColumns" ∈ lw_tbl := (mt1 _ (List.mem_of_getElem? (i := 147) rfl))
theorem ml_X3_3 : Cond.methodLink RX3 3 Lib.objectInit ∈ lw_tbl := (mt1 _ (List.mem_of_getElem? (i := 150) rfl))
theorem fl_X3_9 : Cond.fieldLink RX3 9 "RowsColumns$Sheet" "size" "I" ∈ lw_tbl := (mt1 _ (List.mem_of_getElem? (i := 151) rfl))
theorem fl_X4_26 : Cond.fieldLink RX4 26 "RowsColumns$Sheet" "size" "I" ∈ lw_tbl := (mt1 _ (List.mem_of_getElem? (i := 152) rfl))
theorem fl_X3_19 : Cond.fieldLink RX3 19 "RowsColumns$Sheet" "lane" "I" ∈ lw_tbl := (mt1 _ (List.mem_of_getElem? (i := 153) rfl))
theorem fl_X3_15 : Cond.fieldLink RX3 15 "RowsColumns$Sheet" "cells" "[I" ∈ lw_tbl := (mt1 _ (List.mem_of_getElem? (i := 154) rfl))
theorem fl_X4_11 : Cond.fieldLink RX4 11 "RowsColumns$Sheets" "all" "[LRowsColumns$Sheet;" ∈ lw_tbl := (mt1 _ (List.mem_of_getElem? (i := 162) rfl))
theorem cl_X8_60 : Cond.classLink RX8 60 RX7 ∈ lw_tbl := (mt1 _ (List.mem_of_getElem? (i := 166) rfl))
theorem is_X7 : Cond.instantiable RX7 10 ∈ lw_tbl := (mt1 _ (List.mem_of_getElem? (i := 167) rfl))
theorem mn_X8_62 : Cond.methodLinkNest RX8 62 yX7_init "RowsColumns" ∈ lw_tbl := (mt1 _ (List.mem_of_getElem? (i := 168) rfl))
theorem ml_X7_3 : Cond.methodLink RX7 3 Lib.objectInit ∈ lw_tbl := (mt1 _ (List.mem_of_getElem? (i := 171) rfl))
theorem fl_X7_40 : Cond.fieldLink RX7 40 "RowsColumns$Way" "found" "Z" ∈ lw_tbl := (mt1 _ (List.mem_of_getElem? (i := 172) rfl))
theorem fl_X8_195 : Cond.fieldLink RX8 195 "RowsColumns$Way" "found" "Z" ∈ lw_tbl := (mt1 _ (List.mem_of_getElem? (i := 173) rfl))
theorem fl_X7_18 : Cond.fieldLink RX7 18 "RowsColumns$Way" "rows" "I" ∈ lw_tbl := (mt1 _ (List.mem_of_getElem? (i := 174) rfl))
theorem fl_X8_198 : Cond.fieldLink RX8 198 "RowsColumns$Way" "rows" "I" ∈ lw_tbl := (mt1 _ (List.mem_of_getElem? (i := 175) rfl))
theorem fl_X7_28 : Cond.fieldLink RX7 28 "RowsColumns$Way" "columns" "I" ∈ lw_tbl := (mt1 _ (List.mem_of_getElem? (i := 176) rfl))
theorem fl_X8_206 : Cond.fieldLink RX8 206 "RowsColumns$Way" "columns" "I" ∈ lw_tbl := (mt1 _ (List.mem_of_getElem? (i := 177) rfl))
theorem fl_X7_31 : Cond.fieldLink RX7 31 "RowsColumns$Way" "slants" "I" ∈ lw_tbl := (mt1 _ (List.mem_of_getElem? (i := 178) rfl))
theorem fl_X8_330 : Cond.fieldLink RX8 330 "RowsColumns$Way" "slants" "I" ∈ lw_tbl := (mt1 _ (List.mem_of_getElem? (i := 179) rfl))
theorem fl_X7_92 : Cond.fieldLink RX7 92 "RowsColumns$Way" "unlike" "I" ∈ lw_tbl := (mt1 _ (List.mem_of_getElem? (i := 180) rfl))
theorem fl_X8_223 : Cond.fieldLink RX8 223 "RowsColumns$Way" "unlike" "I" ∈ lw_tbl := (mt1 _ (List.mem_of_getElem? (i := 181) rfl))
theorem fl_X7_95 : Cond.fieldLink RX7 95 "RowsColumns$Way" "days" "I" ∈ lw_tbl := (mt1 _ (List.mem_of_getElem? (i := 182) rfl))
theorem fl_X8_229 : Cond.fieldLink RX8 229 "RowsColumns$Way" "days" "I" ∈ lw_tbl := (mt1 _ (List.mem_of_getElem? (i := 183) rfl))
theorem fl_X7_112 : Cond.fieldLink RX7 112 "RowsColumns$Way" "many" "I" ∈ lw_tbl := (mt1 _ (List.mem_of_getElem? (i := 184) rfl))
theorem fl_X8_333 : Cond.fieldLink RX8 333 "RowsColumns$Way" "many" "I" ∈ lw_tbl := (mt1 _ (List.mem_of_getElem? (i := 185) rfl))
theorem fl_X7_115 : Cond.fieldLink RX7 115 "RowsColumns$Way" "first" "I" ∈ lw_tbl := (mt1 _ (List.mem_of_getElem? (i := 186) rfl))
theorem fl_X8_334 : Cond.fieldLink RX8 334 "RowsColumns$Way" "first" "I" ∈ lw_tbl := (mt1 _ (List.mem_of_getElem? (i := 187) rfl))
theorem fl_X7_9 : Cond.fieldLink RX7 9 "RowsColumns$Way" "slantSets" "[J" ∈ lw_tbl := (mt1 _ (List.mem_of_getElem? (i := 188) rfl))
theorem fl_X7_15 : Cond.fieldLink RX7 15 "RowsColumns$Way" "squareForms" "[J" ∈ lw_tbl := (mt1 _ (List.mem_of_getElem? (i := 189) rfl))
theorem ac_long : Cond.arrayClass .long ∈ lw_tbl := (mt1 _ (List.mem_of_getElem? (i := 211) rfl))
theorem cl_X8_67 : Cond.classLink RX8 67 RX2 ∈ lw_tbl := (mt1 _ (List.mem_of_getElem? (i := 212) rfl))
theorem is_X2 : Cond.instantiable RX2 4 ∈ lw_tbl := (mt1 _ (List.mem_of_getElem? (i := 213) rfl))
theorem mn_X8_69 : Cond.methodLinkNest RX8 69 yX2_init "RowsColumns" ∈ lw_tbl := (mt1 _ (List.mem_of_getElem? (i := 214) rfl))
theorem ml_X2_3 : Cond.methodLink RX2 3 Lib.objectInit ∈ lw_tbl := (mt1 _ (List.mem_of_getElem? (i := 217) rfl))
theorem fl_X2_42 : Cond.fieldLink RX2 42 "RowsColumns$Name" "high" "I" ∈ lw_tbl := (mt1 _ (List.mem_of_getElem? (i := 218) rfl))
theorem fl_X2_43 : Cond.fieldLink RX2 43 "RowsColumns$Name" "wide" "I" ∈ lw_tbl := (mt1 _ (List.mem_of_getElem? (i := 219) rfl))
theorem fl_X2_34 : Cond.fieldLink RX2 34 "RowsColumns$Name" "form" "J" ∈ lw_tbl := (mt1 _ (List.mem_of_getElem? (i := 220) rfl))
theorem fl_X8_276 : Cond.fieldLink RX8 276 "RowsColumns$Name" "form" "J" ∈ lw_tbl := (mt1 _ (List.mem_of_getElem? (i := 221) rfl))
theorem fl_X2_39 : Cond.fieldLink RX2 39 "RowsColumns$Name" "turning" "I" ∈ lw_tbl := (mt1 _ (List.mem_of_getElem? (i := 222) rfl))
theorem fl_X8_279 : Cond.fieldLink RX8 279 "RowsColumns$Name" "turning" "I" ∈ lw_tbl := (mt1 _ (List.mem_of_getElem? (i := 223) rfl))
theorem fl_X8_14 : Cond.fieldLink RX8 14 "RowsColumns" "cloth" "LRowsColumns$Cloth;" ∈ lw_tbl := (mt1 _ (List.mem_of_getElem? (i := 233) rfl))
theorem fl_X8_18 : Cond.fieldLink RX8 18 "RowsColumns" "pattern" "LRowsColumns$Cloth;" ∈ lw_tbl := (mt1 _ (List.mem_of_getElem? (i := 234) rfl))
theorem fl_X8_21 : Cond.fieldLink RX8 21 "RowsColumns" "firstImage" "LRowsColumns$Cloth;" ∈ lw_tbl := (mt1 _ (List.mem_of_getElem? (i := 235) rfl))
theorem fl_X8_24 : Cond.fieldLink RX8 24 "RowsColumns" "secondImage" "LRowsColumns$Cloth;" ∈ lw_tbl := (mt1 _ (List.mem_of_getElem? (i := 236) rfl))
theorem fl_X8_27 : Cond.fieldLink RX8 27 "RowsColumns" "scratch" "LRowsColumns$Cloth;" ∈ lw_tbl := (mt1 _ (List.mem_of_getElem? (i := 237) rfl))
theorem fl_X8_33 : Cond.fieldLink RX8 33 "RowsColumns" "days" "LRowsColumns$Days;" ∈ lw_tbl := (mt1 _ (List.mem_of_getElem? (i := 238) rfl))
theorem fl_X8_40 : Cond.fieldLink RX8 40 "RowsColumns" "tape" "LRowsColumns$Tape;" ∈ lw_tbl := (mt1 _ (List.mem_of_getElem? (i := 239) rfl))
theorem fl_X8_49 : Cond.fieldLink RX8 49 "RowsColumns" "teller" "LRowsColumns$Teller;" ∈ lw_tbl := (mt2 _ (List.mem_of_getElem? (i := 0) rfl))
theorem fl_X8_56 : Cond.fieldLink RX8 56 "RowsColumns" "sheets" "LRowsColumns$Sheets;" ∈ lw_tbl := (mt2 _ (List.mem_of_getElem? (i := 1) rfl))
theorem fl_X8_63 : Cond.fieldLink RX8 63 "RowsColumns" "way" "LRowsColumns$Way;" ∈ lw_tbl := (mt2 _ (List.mem_of_getElem? (i := 2) rfl))
theorem fl_X8_70 : Cond.fieldLink RX8 70 "RowsColumns" "ownName" "LRowsColumns$Name;" ∈ lw_tbl := (mt2 _ (List.mem_of_getElem? (i := 3) rfl))
theorem fl_X8_74 : Cond.fieldLink RX8 74 "RowsColumns" "otherName" "LRowsColumns$Name;" ∈ lw_tbl := (mt2 _ (List.mem_of_getElem? (i := 4) rfl))
theorem fl_X8_77 : Cond.fieldLink RX8 77 "RowsColumns" "independent" "[J" ∈ lw_tbl := (mt2 _ (List.mem_of_getElem? (i := 5) rfl))
theorem fl_X8_96 : Cond.fieldLink RX8 96 "RowsColumns" "latestFault" "I" ∈ lw_tbl := (mt2 _ (List.mem_of_getElem? (i := 6) rfl))
theorem fl_X8_319 : Cond.fieldLink RX8 319 "RowsColumns" "latestTorn" "I" ∈ lw_tbl := (mt2 _ (List.mem_of_getElem? (i := 7) rfl))
theorem ml_L_15 : Cond.methodLink RL 15 yX8_feed ∈ lw_tbl := (mt2 _ (List.mem_of_getElem? (i := 39) rfl))
theorem ml_X8_81 : Cond.methodLink RX8 81 yX5_add ∈ lw_tbl := (mt2 _ (List.mem_of_getElem? (i := 43) rfl))
theorem ml_L_20 : Cond.methodLink RL 20 yX8_end ∈ lw_tbl := (mt2 _ (List.mem_of_getElem? (i := 47) rfl))
theorem ml_L_25 : Cond.methodLink RL 25 yX8_text ∈ lw_tbl := (mt2 _ (List.mem_of_getElem? (i := 51) rfl))
theorem ml_X8_89 : Cond.methodLink RX8 89 yX6_takeText ∈ lw_tbl := (mt2 _ (List.mem_of_getElem? (i := 55) rfl))
theorem ml_X6_34 : Cond.methodLink RX6 34 yX0_forget ∈ lw_tbl := (mt2 _ (List.mem_of_getElem? (i := 59) rfl))
