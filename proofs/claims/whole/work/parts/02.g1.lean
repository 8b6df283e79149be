set_option maxRecDepth 20000 in
theorem ggX0_init_X0_addLine : GoodIn wsX0_init wsX0_addLine := goodIn_r _ [19, 20, 5, 6, 7, 13, 14, 21, 22, 23, 24, 25, 26, 27, 28, 18, 29, 30, 31, 32, 33, 34, 35, 36, 37, 38, 39] (by decide +kernel) (by decide +kernel)
set_option maxRecDepth 20000 in
theorem gX0_init_X0_addLine : GoodIn wsX0_init (wsV RX0 40 RX0 yX0_addLine wsX0_addLine) := goodIn_app (goodIn_of _ (by decide +kernel)) ggX0_init_X0_addLine
set_option maxRecDepth 20000 in
theorem ggX0_addChange_X0_addLine : GoodIn wsX0_addChange wsX0_addLine := goodIn_r _ [7, 8, 9, 10, 11, 12, 13, 14, 15, 16, 17, 18, 19, 20, 21, 6, 22, 23, 24, 25, 26, 27, 28, 29, 30, 31, 32] (by decide +kernel) (by decide +kernel)
set_option maxRecDepth 20000 in
theorem gX0_addChange_X0_addLine : GoodIn wsX0_addChange (wsV RX0 40 RX0 yX0_addLine wsX0_addLine) := goodIn_app (goodIn_of _ (by decide +kernel)) ggX0_addChange_X0_addLine
set_option maxRecDepth 20000 in
theorem ggX0_addMerge_X0_addLine : GoodIn wsX0_addMerge wsX0_addLine := goodIn_r _ [6, 7, 8, 9, 10, 11, 12, 13, 14, 15, 16, 17, 18, 19, 20, 5, 21, 22, 23, 24, 25, 26, 27, 28, 29, 30, 31] (by decide +kernel) (by decide +kernel)
set_option maxRecDepth 20000 in
theorem gX0_addMerge_X0_addLine : GoodIn wsX0_addMerge (wsV RX0 40 RX0 yX0_addLine wsX0_addLine) := goodIn_app (goodIn_of _ (by decide +kernel)) ggX0_addMerge_X0_addLine
set_option maxRecDepth 20000 in
theorem ggX0_addPick_X0_addLine : GoodIn wsX0_addPick wsX0_addLine := goodIn_r _ [6, 7, 8, 9, 10, 11, 12, 13, 14, 15, 16, 17, 18, 19, 20, 5, 21, 22, 23, 24, 25, 26, 27, 28, 29, 30, 31] (by decide +kernel) (by decide +kernel)
set_option maxRecDepth 20000 in
theorem gX0_addPick_X0_addLine : GoodIn wsX0_addPick (wsV RX0 40 RX0 yX0_addLine wsX0_addLine) := goodIn_app (goodIn_of _ (by decide +kernel)) ggX0_addPick_X0_addLine
set_option maxRecDepth 20000 in
theorem ggX0_addLine_X5_lowBit : GoodIn wsX0_addLine wsX5_lowBit := goodIn_r _ [9] (by decide +kernel) (by decide +kernel)
set_option maxRecDepth 20000 in
theorem gX0_addLine_X5_lowBit_n48 : GoodIn wsX0_addLine (wsX5_lowBit) := ggX0_addLine_X5_lowBit
set_option maxRecDepth 20000 in
theorem ggX0_addLine_X5_highBit : GoodIn wsX0_addLine wsX5_highBit := goodIn_r _ [11] (by decide +kernel) (by decide +kernel)
set_option maxRecDepth 20000 in
theorem gX0_addLine_X5_highBit_n52 : GoodIn wsX0_addLine (wsX5_highBit) := ggX0_addLine_X5_highBit
set_option maxRecDepth 20000 in
theorem ggX0_addLine_X0_addAncestorsOf : GoodIn wsX0_addLine wsX0_addAncestorsOf := goodIn_r _ [16, 5, 6, 17, 18, 19, 20, 21, 22, 23, 24, 25, 26] (by decide +kernel) (by decide +kernel)
set_option maxRecDepth 20000 in
theorem gX0_addLine_X0_addAncestorsOf : GoodIn wsX0_addLine (wsV RX0 55 RX0 yX0_addAncestorsOf wsX0_addAncestorsOf) := goodIn_app (goodIn_of _ (by decide +kernel)) ggX0_addLine_X0_addAncestorsOf
set_option maxRecDepth 20000 in
theorem ggX0_descends_X5_hasNumber : GoodIn wsX0_descends wsX5_hasNumber := goodIn_r _ [5, 6, 7, 4, 8, 9, 10, 11] (by decide +kernel) (by decide +kernel)
set_option maxRecDepth 20000 in
theorem gX0_descends_X5_hasNumber_n59 : GoodIn wsX0_descends (wsX5_hasNumber) := ggX0_descends_X5_hasNumber
set_option maxRecDepth 20000 in
theorem ggX0_greatestShared_X5_hasNumber : GoodIn wsX0_greatestShared wsX5_hasNumber := goodIn_r _ [9, 10, 11, 8, 12, 13, 14, 15] (by decide +kernel) (by decide +kernel)
set_option maxRecDepth 20000 in
theorem gX0_greatestShared_X5_hasNumber_n59 : GoodIn wsX0_greatestShared (wsX5_hasNumber) := ggX0_greatestShared_X5_hasNumber
set_option maxRecDepth 20000 in
theorem ggX1_numberOf_X1_add : GoodIn wsX1_numberOf wsX1_add := goodIn_r _ [7, 1, 2, 8, 9, 10, 11] (by decide +kernel) (by decide +kernel)
set_option maxRecDepth 20000 in
theorem gX1_numberOf_X1_add : GoodIn wsX1_numberOf (wsV RX1 22 RX1 yX1_add wsX1_add) := goodIn_app (goodIn_of _ (by decide +kernel)) ggX1_numberOf_X1_add
set_option maxRecDepth 20000 in
theorem ggX2_stateIn_X4_sideCount : GoodIn wsX2_stateIn wsX4_sideCount := goodIn_r _ [8, 9, 10, 11, 12, 7, 13, 14, 15, 16, 17, 18, 19, 20, 32, 33, 34] (by decide +kernel) (by decide +kernel)
set_option maxRecDepth 20000 in
theorem gX2_stateIn_X4_sideCount : GoodIn wsX2_stateIn (wsV RX2 25 RX4 yX4_sideCount wsX4_sideCount) := goodIn_app (goodIn_of _ (by decide +kernel)) ggX2_stateIn_X4_sideCount
set_option maxRecDepth 20000 in
theorem ggX2_stateIn_X4_loneValue : GoodIn wsX2_stateIn wsX4_loneValue := goodIn_r _ [24, 9, 10, 25, 26, 27, 11, 12, 7, 13, 14, 15, 16, 17, 18, 19, 20, 32, 33, 34, 35, 36, 37] (by decide +kernel) (by decide +kernel)
set_option maxRecDepth 20000 in
theorem gX2_stateIn_X4_loneValue : GoodIn wsX2_stateIn (wsV RX2 31 RX4 yX4_loneValue wsX4_loneValue) := goodIn_app (goodIn_of _ (by decide +kernel)) ggX2_stateIn_X4_loneValue
set_option maxRecDepth 20000 in
theorem ggX3_write_X4_copyRow : GoodIn wsX3_write wsX4_copyRow := goodIn_r _ [13, 14, 15, 16, 17, 18, 19, 20, 21, 12, 22, 118, 119, 120] (by decide +kernel) (by decide +kernel)
set_option maxRecDepth 20000 in
theorem gX3_write_X4_copyRow : GoodIn wsX3_write (wsV RX3 28 RX4 yX4_copyRow wsX4_copyRow) := goodIn_app (goodIn_of _ (by decide +kernel)) ggX3_write_X4_copyRow
set_option maxRecDepth 20000 in
theorem ggX3_write_X4_holdSide : GoodIn wsX3_write wsX4_holdSide := goodIn_r _ [26, 14, 19, 20, 21, 12, 22, 27, 28, 29, 30, 31, 118, 119, 120] (by decide +kernel) (by decide +kernel)
set_option maxRecDepth 20000 in
theorem gX3_write_X4_holdSide : GoodIn wsX3_write (wsV RX3 40 RX4 yX4_holdSide wsX4_holdSide) := goodIn_app (goodIn_of _ (by decide +kernel)) ggX3_write_X4_holdSide
set_option maxRecDepth 20000 in
theorem ggX3_write_X3_writeMerge : GoodIn wsX3_write wsX3_writeMerge := goodIn_r _ [36, 1, 37, 38, 39, 40, 41, 42, 43, 44, 45, 46, 47, 48, 49, 50, 51, 28, 52, 53, 27, 29, 54, 30, 31, 55, 56, 57, 35, 58, 59, 60, 61, 12, 62, 14, 19, 20, 21, 22, 63, 64, 65, 66, 67, 68, 69, 70, 71, 72, 73, 74, 75, 76, 77, 78, 79, 80, 81, 82, 83, 84, 85, 86, 87, 88, 89, 90, 91, 92, 93, 94, 95, 96, 106, 107, 121, 122, 123, 124, 108, 109, 110, 111, 112, 113, 114, 115, 116, 117, 118, 119, 120, 125, 126, 127] (by decide +kernel) (by decide +kernel)
set_option maxRecDepth 20000 in
theorem gX3_write_X3_writeMerge : GoodIn wsX3_write (wsV RX3 50 RX3 yX3_writeMerge wsX3_writeMerge) := goodIn_app (goodIn_of _ (by decide +kernel)) ggX3_write_X3_writeMerge
set_option maxRecDepth 20000 in
theorem ggX3_write_X3_writePick : GoodIn wsX3_write wsX3_writePick := goodIn_r _ [100, 1, 3, 59, 60, 61, 12, 62, 14, 19, 20, 21, 22, 63, 64, 65, 66, 67, 68, 69, 70, 106, 107, 108, 109, 110, 111, 112, 113, 114, 115, 116, 117, 118, 119, 120] (by decide +kernel) (by decide +kernel)
set_option maxRecDepth 20000 in
theorem gX3_write_X3_writePick : GoodIn wsX3_write (wsV RX3 57 RX3 yX3_writePick wsX3_writePick) := goodIn_app (goodIn_of _ (by decide +kernel)) ggX3_write_X3_writePick
set_option maxRecDepth 20000 in
theorem ggX3_write_X4_emptyRow : GoodIn wsX3_write wsX4_emptyRow := goodIn_r _ [104, 105, 24, 25, 12, 26, 14, 19, 20, 21, 22, 27, 28, 29, 30, 31, 118, 119, 120] (by decide +kernel) (by decide +kernel)
set_option maxRecDepth 20000 in
theorem gX3_write_X4_emptyRow : GoodIn wsX3_write (wsV RX3 61 RX4 yX4_emptyRow wsX4_emptyRow) := goodIn_app (goodIn_of _ (by decide +kernel)) ggX3_write_X4_emptyRow
set_option maxRecDepth 20000 in
theorem ggX3_writeMerge_X0_greatestShared : GoodIn wsX3_writeMerge wsX0_greatestShared := goodIn_r _ [9, 10, 11, 12, 13, 14, 15, 16, 17, 18, 19, 20, 21, 22, 23, 24, 80, 81, 82, 83, 84, 85, 86, 87, 88, 89] (by decide +kernel) (by decide +kernel)
set_option maxRecDepth 20000 in
theorem gX3_writeMerge_X0_greatestShared : GoodIn wsX3_writeMerge (wsV RX3 65 RX0 yX0_greatestShared wsX0_greatestShared) := goodIn_app (goodIn_of _ (by decide +kernel)) ggX3_writeMerge_X0_greatestShared
set_option maxRecDepth 20000 in
theorem ggX3_writeMerge_X3_mergeItem : GoodIn wsX3_writeMerge wsX3_mergeItem := goodIn_r _ [29, 30, 31, 32, 33, 34, 35, 36, 37, 38, 39, 40, 41, 42, 43, 44, 45, 46, 47, 90, 91, 92] (by decide +kernel) (by decide +kernel)
set_option maxRecDepth 20000 in
theorem gX3_writeMerge_X3_mergeItem : GoodIn wsX3_writeMerge (wsV RX3 69 RX3 yX3_mergeItem wsX3_mergeItem) := goodIn_app (goodIn_of _ (by decide +kernel)) ggX3_writeMerge_X3_mergeItem
set_option maxRecDepth 20000 in
theorem ggX3_writeMerge_X2_stateIn : GoodIn wsX3_writeMerge wsX2_stateIn := goodIn_r _ [52, 53, 54, 55, 56, 57, 58, 33, 59, 35, 36, 37, 38, 39, 60, 61, 62, 63, 64, 65, 66, 67, 68, 69, 70, 71, 72, 73, 76, 77, 78, 79, 90, 91, 92, 93, 94, 95] (by decide +kernel) (by decide +kernel)
set_option maxRecDepth 20000 in
theorem gX3_writeMerge_X2_stateIn : GoodIn wsX3_writeMerge (wsV RX3 73 RX2 yX2_stateIn wsX2_stateIn) := goodIn_app (goodIn_of _ (by decide +kernel)) ggX3_writeMerge_X2_stateIn
set_option maxRecDepth 20000 in
theorem ggX3_writeMerge_X4_holdAll : GoodIn wsX3_writeMerge wsX4_holdAll := goodIn_r _ [47, 35, 36, 37, 38, 33, 39, 90, 91, 92] (by decide +kernel) (by decide +kernel)
set_option maxRecDepth 20000 in
theorem gX3_writeMerge_X4_holdAll : GoodIn wsX3_writeMerge (wsV RX3 82 RX4 yX4_holdAll wsX4_holdAll) := goodIn_app (goodIn_of _ (by decide +kernel)) ggX3_writeMerge_X4_holdAll
set_option maxRecDepth 20000 in
theorem ggX3_mergeItem_X4_holdsSame : GoodIn wsX3_mergeItem wsX4_holdsSame := goodIn_r _ [5, 6, 7, 8, 9, 4, 10, 19, 20, 21] (by decide +kernel) (by decide +kernel)
set_option maxRecDepth 20000 in
theorem gX3_mergeItem_X4_holdsSame : GoodIn wsX3_mergeItem (wsV RX3 89 RX4 yX4_holdsSame wsX4_holdsSame) := goodIn_app (goodIn_of _ (by decide +kernel)) ggX3_mergeItem_X4_holdsSame
set_option maxRecDepth 20000 in
theorem ggX3_mergeItem_X4_holdWhat : GoodIn wsX3_mergeItem wsX4_holdWhat := goodIn_r _ [14, 6, 7, 8, 9, 4, 10, 19, 20, 21] (by decide +kernel) (by decide +kernel)
set_option maxRecDepth 20000 in
theorem gX3_mergeItem_X4_holdWhat : GoodIn wsX3_mergeItem (wsV RX3 93 RX4 yX4_holdWhat wsX4_holdWhat) := goodIn_app (goodIn_of _ (by decide +kernel)) ggX3_mergeItem_X4_holdWhat
set_option maxRecDepth 20000 in
theorem ggX3_mergeItem_X4_holdAll : GoodIn wsX3_mergeItem wsX4_holdAll := goodIn_r _ [18, 6, 7, 8, 9, 4, 10, 19, 20, 21] (by decide +kernel) (by decide +kernel)
set_option maxRecDepth 20000 in
theorem gX3_mergeItem_X4_holdAll : GoodIn wsX3_mergeItem (wsV RX3 82 RX4 yX4_holdAll wsX4_holdAll) := goodIn_app (goodIn_of _ (by decide +kernel)) ggX3_mergeItem_X4_holdAll
set_option maxRecDepth 20000 in
theorem ggX3_writePick_X4_holdsSame : GoodIn wsX3_writePick wsX4_holdsSame := goodIn_r _ [7, 8, 9, 10, 11, 6, 12, 33, 34, 35] (by decide +kernel) (by decide +kernel)
set_option maxRecDepth 20000 in
theorem gX3_writePick_X4_holdsSame : GoodIn wsX3_writePick (wsV RX3 89 RX4 yX4_holdsSame wsX4_holdsSame) := goodIn_app (goodIn_of _ (by decide +kernel)) ggX3_writePick_X4_holdsSame
set_option maxRecDepth 20000 in
theorem ggX3_writePick_X4_holdWhat : GoodIn wsX3_writePick wsX4_holdWhat := goodIn_r _ [16, 8, 9, 10, 11, 6, 12, 33, 34, 35] (by decide +kernel) (by decide +kernel)
set_option maxRecDepth 20000 in
theorem gX3_writePick_X4_holdWhat : GoodIn wsX3_writePick (wsV RX3 93 RX4 yX4_holdWhat wsX4_holdWhat) := goodIn_app (goodIn_of _ (by decide +kernel)) ggX3_writePick_X4_holdWhat
set_option maxRecDepth 20000 in
theorem ggX3_writePick_X4_holdAll : GoodIn wsX3_writePick wsX4_holdAll := goodIn_r _ [20, 8, 9, 10, 11, 6, 12, 33, 34, 35] (by decide +kernel) (by decide +kernel)
set_option maxRecDepth 20000 in
theorem gX3_writePick_X4_holdAll : GoodIn wsX3_writePick (wsV RX3 82 RX4 yX4_holdAll wsX4_holdAll) := goodIn_app (goodIn_of _ (by decide +kernel)) ggX3_writePick_X4_holdAll
set_option maxRecDepth 20000 in
theorem ggX4_emptyRow_X4_holdSide : GoodIn wsX4_emptyRow wsX4_holdSide := goodIn_r _ [5, 6, 7, 8, 9, 4, 10, 11, 12, 13, 14, 15, 16, 17, 18] (by decide +kernel) (by decide +kernel)
set_option maxRecDepth 20000 in
theorem gX4_emptyRow_X4_holdSide : GoodIn wsX4_emptyRow (wsV RX4 24 RX4 yX4_holdSide wsX4_holdSide) := goodIn_app (goodIn_of _ (by decide +kernel)) ggX4_emptyRow_X4_holdSide
set_option maxRecDepth 20000 in
theorem ggX4_copyRow_X4_cell : GoodIn wsX4_copyRow wsX4_cell := goodIn_r _ [10] (by decide +kernel) (by decide +kernel)
set_option maxRecDepth 20000 in
theorem gX4_copyRow_X4_cell : GoodIn wsX4_copyRow (va_wsS RX4 28 yX4_cell wsX4_cell) := goodIn_app (goodIn_of _ (by decide +kernel)) ggX4_copyRow_X4_cell
set_option maxRecDepth 20000 in
theorem ggX4_holdSide_X4_cell : GoodIn wsX4_holdSide wsX4_cell := goodIn_r _ [6] (by decide +kernel) (by decide +kernel)
set_option maxRecDepth 20000 in
theorem gX4_holdSide_X4_cell : GoodIn wsX4_holdSide (va_wsS RX4 28 yX4_cell wsX4_cell) := goodIn_app (goodIn_of _ (by decide +kernel)) ggX4_holdSide_X4_cell
set_option maxRecDepth 20000 in
theorem ggX4_holdSide_X5_lowBit : GoodIn wsX4_holdSide wsX5_lowBit := goodIn_r _ [9] (by decide +kernel) (by decide +kernel)
set_option maxRecDepth 20000 in
theorem gX4_holdSide_X5_lowBit_n38 : GoodIn wsX4_holdSide (wsX5_lowBit) := ggX4_holdSide_X5_lowBit
set_option maxRecDepth 20000 in
theorem ggX4_holdSide_X5_highBit : GoodIn wsX4_holdSide wsX5_highBit := goodIn_r _ [11] (by decide +kernel) (by decide +kernel)
set_option maxRecDepth 20000 in
theorem gX4_holdSide_X5_highBit_n42 : GoodIn wsX4_holdSide (wsX5_highBit) := ggX4_holdSide_X5_highBit
set_option maxRecDepth 20000 in
theorem ggX4_holdWhat_X4_cell : GoodIn wsX4_holdWhat wsX4_cell := goodIn_r _ [6] (by decide +kernel) (by decide +kernel)
set_option maxRecDepth 20000 in
theorem gX4_holdWhat_X4_cell : GoodIn wsX4_holdWhat (va_wsS RX4 28 yX4_cell wsX4_cell) := goodIn_app (goodIn_of _ (by decide +kernel)) ggX4_holdWhat_X4_cell
set_option maxRecDepth 20000 in
theorem ggX4_holdAll_X4_cell : GoodIn wsX4_holdAll wsX4_cell := goodIn_r _ [6] (by decide +kernel) (by decide +kernel)
set_option maxRecDepth 20000 in
theorem gX4_holdAll_X4_cell : GoodIn wsX4_holdAll (va_wsS RX4 28 yX4_cell wsX4_cell) := goodIn_app (goodIn_of _ (by decide +kernel)) ggX4_holdAll_X4_cell
set_option maxRecDepth 20000 in
theorem ggX4_holdsSame_X4_cell : GoodIn wsX4_holdsSame wsX4_cell := goodIn_r _ [6] (by decide +kernel) (by decide +kernel)
set_option maxRecDepth 20000 in
theorem gX4_holdsSame_X4_cell : GoodIn wsX4_holdsSame (va_wsS RX4 28 yX4_cell wsX4_cell) := goodIn_app (goodIn_of _ (by decide +kernel)) ggX4_holdsSame_X4_cell
set_option maxRecDepth 20000 in
theorem ggX4_holdsNothingElse_X4_cell : GoodIn wsX4_holdsNothingElse wsX4_cell := goodIn_r _ [6] (by decide +kernel) (by decide +kernel)
set_option maxRecDepth 20000 in
theorem gX4_holdsNothingElse_X4_cell : GoodIn wsX4_holdsNothingElse (va_wsS RX4 28 yX4_cell wsX4_cell) := goodIn_app (goodIn_of _ (by decide +kernel)) ggX4_holdsNothingElse_X4_cell
set_option maxRecDepth 20000 in
theorem ggX4_holdsNothingElse_X5_lowBit : GoodIn wsX4_holdsNothingElse wsX5_lowBit := goodIn_r _ [9] (by decide +kernel) (by decide +kernel)
set_option maxRecDepth 20000 in
theorem gX4_holdsNothingElse_X5_lowBit_n38 : GoodIn wsX4_holdsNothingElse (wsX5_lowBit) := ggX4_holdsNothingElse_X5_lowBit
set_option maxRecDepth 20000 in
theorem ggX4_holdsConflict_X4_sideCount : GoodIn wsX4_holdsConflict wsX4_sideCount := goodIn_r _ [5, 6, 7, 8, 9, 4, 10, 11, 12, 13, 14, 15, 16, 17, 18, 19, 20] (by decide +kernel) (by decide +kernel)
set_option maxRecDepth 20000 in
theorem gX4_holdsConflict_X4_sideCount : GoodIn wsX4_holdsConflict (wsV RX4 45 RX4 yX4_sideCount wsX4_sideCount) := goodIn_app (goodIn_of _ (by decide +kernel)) ggX4_holdsConflict_X4_sideCount
set_option maxRecDepth 20000 in
theorem ggX4_sideCount_X4_cell : GoodIn wsX4_sideCount wsX4_cell := goodIn_r _ [6] (by decide +kernel) (by decide +kernel)
set_option maxRecDepth 20000 in
theorem gX4_sideCount_X4_cell : GoodIn wsX4_sideCount (va_wsS RX4 28 yX4_cell wsX4_cell) := goodIn_app (goodIn_of _ (by decide +kernel)) ggX4_sideCount_X4_cell
set_option maxRecDepth 20000 in
theorem ggX4_sideCount_J13_bitCount_95d88 : GoodIn wsX4_sideCount wsJ13_bitCount_95d88 := goodIn_r _ [10, 11, 12, 13] (by decide +kernel) (by decide +kernel)
set_option maxRecDepth 20000 in
theorem gX4_sideCount_J13_bitCount_95d88 : GoodIn wsX4_sideCount (va_wsS RX4 48 yJ13_bitCount_95d88 wsJ13_bitCount_95d88) := goodIn_app (goodIn_of _ (by decide +kernel)) ggX4_sideCount_J13_bitCount_95d88
set_option maxRecDepth 20000 in
theorem ggX4_loneValue_X4_cell : GoodIn wsX4_loneValue wsX4_cell := goodIn_r _ [9] (by decide +kernel) (by decide +kernel)
set_option maxRecDepth 20000 in
theorem gX4_loneValue_X4_cell : GoodIn wsX4_loneValue (va_wsS RX4 28 yX4_cell wsX4_cell) := goodIn_app (goodIn_of _ (by decide +kernel)) ggX4_loneValue_X4_cell
set_option maxRecDepth 20000 in
theorem ggX4_loneValue_J13_bitCount_95d88 : GoodIn wsX4_loneValue wsJ13_bitCount_95d88 := goodIn_r _ [13, 14, 15, 16] (by decide +kernel) (by decide +kernel)
set_option maxRecDepth 20000 in
theorem gX4_loneValue_J13_bitCount_95d88 : GoodIn wsX4_loneValue (va_wsS RX4 48 yJ13_bitCount_95d88 wsJ13_bitCount_95d88) := goodIn_app (goodIn_of _ (by decide +kernel)) ggX4_loneValue_J13_bitCount_95d88
set_option maxRecDepth 20000 in
theorem ggX4_sideAtIndex_X4_cell : GoodIn wsX4_sideAtIndex wsX4_cell := goodIn_r _ [8] (by decide +kernel) (by decide +kernel)
set_option maxRecDepth 20000 in
theorem gX4_sideAtIndex_X4_cell : GoodIn wsX4_sideAtIndex (va_wsS RX4 28 yX4_cell wsX4_cell) := goodIn_app (goodIn_of _ (by decide +kernel)) ggX4_sideAtIndex_X4_cell
set_option maxRecDepth 20000 in
theorem ggX4_sideAtIndex_X1_numberInOrder : GoodIn wsX4_sideAtIndex wsX1_numberInOrder := goodIn_r _ [13, 14, 27, 28, 29] (by decide +kernel) (by decide +kernel)
set_option maxRecDepth 20000 in
theorem gX4_sideAtIndex_X1_numberInOrder : GoodIn wsX4_sideAtIndex (wsV RX4 62 RX1 yX1_numberInOrder wsX1_numberInOrder) := goodIn_app (goodIn_of _ (by decide +kernel)) ggX4_sideAtIndex_X1_numberInOrder
set_option maxRecDepth 20000 in
theorem ggX4_sideAtIndex_X5_hasNumber : GoodIn wsX4_sideAtIndex wsX5_hasNumber := goodIn_r _ [17, 18, 19, 16, 20, 21, 22, 23] (by decide +kernel) (by decide +kernel)
set_option maxRecDepth 20000 in
theorem gX4_sideAtIndex_X5_hasNumber_n66 : GoodIn wsX4_sideAtIndex (wsX5_hasNumber) := ggX4_sideAtIndex_X5_hasNumber
set_option maxRecDepth 20000 in
theorem ggX4_conflictCount_X4_holdsConflict : GoodIn wsX4_conflictCount wsX4_holdsConflict := goodIn_r _ [5, 6, 7, 8, 4, 9, 10, 11, 12, 13, 14, 15, 16, 17, 18, 19, 20, 21, 22, 23, 24] (by decide +kernel) (by decide +kernel)
set_option maxRecDepth 20000 in
theorem gX4_conflictCount_X4_holdsConflict : GoodIn wsX4_conflictCount (wsV RX4 70 RX4 yX4_holdsConflict wsX4_holdsConflict) := goodIn_app (goodIn_of _ (by decide +kernel)) ggX4_conflictCount_X4_holdsConflict
set_option maxRecDepth 20000 in
theorem ggX4_differenceCount_X4_holdsSame : GoodIn wsX4_differenceCount wsX4_holdsSame := goodIn_r _ [5, 6, 7, 8, 9, 4, 10, 11, 12, 13] (by decide +kernel) (by decide +kernel)
set_option maxRecDepth 20000 in
theorem gX4_differenceCount_X4_holdsSame : GoodIn wsX4_differenceCount (wsV RX4 74 RX4 yX4_holdsSame wsX4_holdsSame) := goodIn_app (goodIn_of _ (by decide +kernel)) ggX4_differenceCount_X4_holdsSame
set_option maxRecDepth 20000 in
theorem ggX5_init_X0_init : GoodIn wsX5_init wsX0_init := goodIn_r _ [33, 34, 2, 3, 6, 35, 36, 37, 38, 39, 40, 41, 42, 43, 44, 45, 46, 47, 12, 48, 49, 50, 51, 52, 53, 54, 55, 56, 57, 58, 187, 188, 189, 190, 191, 192, 193, 194, 195, 196] (by decide +kernel) (by decide +kernel)
set_option maxRecDepth 20000 in
theorem gX5_init_X0_init : GoodIn wsX5_init (wsX0_init) := ggX5_init_X0_init
set_option maxRecDepth 20000 in
theorem ggX5_init_X1_init : GoodIn wsX5_init wsX1_init := goodIn_r _ [61, 62, 2, 3, 6, 63, 64, 65, 197, 198, 199] (by decide +kernel) (by decide +kernel)
set_option maxRecDepth 20000 in
theorem gX5_init_X1_init : GoodIn wsX5_init (wsX1_init) := ggX5_init_X1_init
set_option maxRecDepth 20000 in
theorem ggX5_init_X2_init : GoodIn wsX5_init wsX2_init := goodIn_r _ [68, 69, 2, 3, 6, 70, 71, 72, 200, 201, 202, 203] (by decide +kernel) (by decide +kernel)
set_option maxRecDepth 20000 in
theorem gX5_init_X2_init : GoodIn wsX5_init (wsX2_init) := ggX5_init_X2_init
set_option maxRecDepth 20000 in
theorem ggX5_init_X3_init : GoodIn wsX5_init wsX3_init := goodIn_r _ [75, 76, 2, 3, 77, 78, 204, 205] (by decide +kernel) (by decide +kernel)
set_option maxRecDepth 20000 in
theorem gX5_init_X3_init : GoodIn wsX5_init (wsX3_init) := ggX5_init_X3_init
set_option maxRecDepth 20000 in
theorem ggX5_init_X4_init : GoodIn wsX5_init wsX4_init := goodIn_r _ [81, 82, 2, 3, 83, 42, 84, 85, 206, 207, 208] (by decide +kernel) (by decide +kernel)
set_option maxRecDepth 20000 in
theorem gX5_init_X4_init : GoodIn wsX5_init (wsX4_init) := ggX5_init_X4_init
set_option maxRecDepth 20000 in
theorem ggX5_init_X3_write : GoodIn wsX5_init wsX3_write := goodIn_r _ [89, 77, 90, 91, 92, 93, 94, 95, 96, 97, 98, 99, 28, 100, 84, 101, 102, 103, 104, 85, 105, 106, 107, 108, 109, 110, 111, 50, 51, 52, 53, 54, 112, 113, 114, 24, 115, 78, 116, 117, 118, 119, 120, 12, 121, 43, 44, 122, 123, 124, 125, 126, 127, 128, 129, 130, 131, 132, 133, 134, 135, 136, 137, 138, 139, 140, 141, 142, 143, 144, 145, 146, 147, 148, 20, 149, 70, 71, 72, 150, 151, 152, 153, 154, 155, 156, 157, 158, 159, 160, 161, 162, 163, 164, 83, 165, 166, 167, 168, 169, 170, 171, 172, 173, 174, 175, 204, 205, 187, 188, 189, 190, 191, 192, 193, 194, 195, 196, 206, 207, 208, 200, 201, 202, 203, 197, 198, 199] (by decide +kernel) (by decide +kernel)
set_option maxRecDepth 20000 in
theorem gX5_init_X3_write : GoodIn wsX5_init (wsV RX5 66 RX3 yX3_write wsX3_write) := goodIn_app (goodIn_of _ (by decide +kernel)) ggX5_init_X3_write
set_option maxRecDepth 20000 in
theorem ggX5_kindOf_X5_requireItem : GoodIn wsX5_kindOf wsX5_requireItem := goodIn_ca (goodIn_r _ [6, 7, 8, 9, 10, 11, 12, 13, 14, 15, 16, 17, 18, 19, 20] (by decide +kernel) (by decide +kernel)) (goodIn_sub (fun _ h => List.mem_cons_of_mem _ (List.mem_append_right _ h)) (by decide +kernel))
set_option maxRecDepth 20000 in
theorem gX5_kindOf_X5_requireItem : GoodIn wsX5_kindOf (wsV RX5 85 RX5 yX5_requireItem wsX5_requireItem) := goodIn_app (goodIn_of _ (by decide +kernel)) ggX5_kindOf_X5_requireItem
set_option maxRecDepth 20000 in
theorem ggX5_addBranch_X5_requireCommit : GoodIn wsX5_addBranch wsX5_requireCommit := goodIn_ca (goodIn_r _ [9, 10, 11, 12, 13, 14, 15, 16, 17, 18, 19, 20, 21, 22, 23, 24, 25, 26, 27, 28, 29, 30, 31, 32, 33, 34] (by decide +kernel) (by decide +kernel)) (goodIn_sub (fun _ h => List.mem_cons_of_mem _ (List.mem_append_right _ h)) (by decide +kernel))
set_option maxRecDepth 20000 in
theorem gX5_addBranch_X5_requireCommit : GoodIn wsX5_addBranch (wsV RX5 89 RX5 yX5_requireCommit wsX5_requireCommit) := goodIn_app (goodIn_of _ (by decide +kernel)) ggX5_addBranch_X5_requireCommit
set_option maxRecDepth 20000 in
theorem ggX5_head_X5_requireBranch : GoodIn wsX5_head wsX5_requireBranch := goodIn_ca (goodIn_r _ [6, 7, 8, 9, 10, 11, 12, 13, 14, 15, 16, 17, 18, 19, 20] (by decide +kernel) (by decide +kernel)) (goodIn_sub (fun _ h => List.mem_cons_of_mem _ (List.mem_append_right _ h)) (by decide +kernel))
set_option maxRecDepth 20000 in
theorem gX5_head_X5_requireBranch : GoodIn wsX5_head (wsV RX5 94 RX5 yX5_requireBranch wsX5_requireBranch) := goodIn_app (goodIn_of _ (by decide +kernel)) ggX5_head_X5_requireBranch
set_option maxRecDepth 20000 in
theorem ggX5_set_X5_requireBranch : GoodIn wsX5_set wsX5_requireBranch := goodIn_ca (goodIn_r _ [10, 11, 12, 13, 170, 171, 172, 173, 174, 175, 176, 177, 178, 179, 180] (by decide +kernel) (by decide +kernel)) (goodIn_sub (fun _ h => List.mem_cons_of_mem _ (List.mem_append_left _ (List.mem_append_right _ h))) (by decide +kernel))
set_option maxRecDepth 20000 in
theorem gX5_set_X5_requireBranch : GoodIn wsX5_set (wsV RX5 94 RX5 yX5_requireBranch wsX5_requireBranch) := goodIn_app (goodIn_of _ (by decide +kernel)) ggX5_set_X5_requireBranch
set_option maxRecDepth 20000 in
theorem ggX5_set_X5_requireItem : GoodIn wsX5_set wsX5_requireItem := goodIn_ca (goodIn_r _ [17, 11, 12, 18, 170, 171, 172, 173, 174, 175, 176, 177, 178, 179, 180] (by decide +kernel) (by decide +kernel)) (goodIn_sub (fun _ h => List.mem_cons_of_mem _ (List.mem_append_left _ (List.mem_append_right _ h))) (by decide +kernel))
set_option maxRecDepth 20000 in
theorem gX5_set_X5_requireItem : GoodIn wsX5_set (wsV RX5 85 RX5 yX5_requireItem wsX5_requireItem) := goodIn_app (goodIn_of _ (by decide +kernel)) ggX5_set_X5_requireItem
set_option maxRecDepth 20000 in
theorem ggX5_set_X5_requireRoomForCommit : GoodIn wsX5_set wsX5_requireRoomForCommit := goodIn_ca (goodIn_r _ [22, 23, 24, 3, 25, 170, 171, 172, 173, 174, 175, 176, 177, 178, 179, 180, 181, 182, 183, 184, 185, 186, 187, 188, 189, 190] (by decide +kernel) (by decide +kernel)) (goodIn_sub (fun _ h => List.mem_cons_of_mem _ (List.mem_append_right _ h)) (by decide +kernel))
set_option maxRecDepth 20000 in
theorem gX5_set_X5_requireRoomForCommit : GoodIn wsX5_set (wsV RX5 99 RX5 yX5_requireRoomForCommit wsX5_requireRoomForCommit) := goodIn_app (goodIn_of _ (by decide +kernel)) ggX5_set_X5_requireRoomForCommit
set_option maxRecDepth 20000 in
theorem ggX5_set_X1_numberOf : GoodIn wsX5_set wsX1_numberOf := goodIn_r _ [30, 31, 32, 33, 34, 35, 29, 36, 37, 191, 192, 193] (by decide +kernel) (by decide +kernel)
set_option maxRecDepth 20000 in
theorem gX5_set_X1_numberOf : GoodIn wsX5_set (wsV RX5 102 RX1 yX1_numberOf wsX1_numberOf) := goodIn_app (goodIn_of _ (by decide +kernel)) ggX5_set_X1_numberOf
set_option maxRecDepth 20000 in
theorem ggX5_set_X0_addChange : GoodIn wsX5_set wsX0_addChange := goodIn_r _ [42, 43, 44, 45, 46, 47, 41, 48, 49, 50, 51, 52, 53, 54, 55, 9, 56, 57, 58, 59, 60, 61, 62, 181, 182, 183, 184, 185, 186, 187, 188, 189, 190] (by decide +kernel) (by decide +kernel)
set_option maxRecDepth 20000 in
theorem gX5_set_X0_addChange : GoodIn wsX5_set (wsV RX5 106 RX0 yX0_addChange wsX0_addChange) := goodIn_app (goodIn_of _ (by decide +kernel)) ggX5_set_X0_addChange
set_option maxRecDepth 20000 in
theorem ggX5_set_X5_moveHead : GoodIn wsX5_set wsX5_moveHead := goodIn_r _ [66, 67, 68, 4, 69, 70, 71, 72, 73, 74, 75, 76, 77, 78, 79, 80, 81, 82, 83, 84, 85, 86, 87, 88, 89, 90, 91, 92, 93, 94, 95, 96, 97, 98, 99, 55, 9, 56, 57, 58, 100, 101, 102, 103, 104, 105, 106, 107, 108, 109, 41, 110, 53, 54, 111, 112, 113, 114, 115, 116, 117, 118, 119, 120, 121, 122, 123, 124, 125, 126, 127, 128, 129, 130, 131, 132, 133, 134, 135, 136, 137, 138, 139, 140, 141, 142, 143, 144, 145, 146, 147, 148, 149, 150, 151, 152, 153, 154, 155, 156, 157, 158, 159, 160, 161, 162, 163, 164, 165, 166, 167, 168, 169, 170, 171, 172, 173, 174, 175, 176, 177, 178, 179, 180, 194, 195, 181, 182, 183, 184, 185, 186, 187, 188, 189, 190, 196, 197, 198, 199, 200, 201, 202, 191, 192, 193] (by decide +kernel) (by decide +kernel)
set_option maxRecDepth 20000 in
theorem gX5_set_X5_moveHead : GoodIn wsX5_set (wsV RX5 110 RX5 yX5_moveHead wsX5_moveHead) := goodIn_app (goodIn_of _ (by decide +kernel)) ggX5_set_X5_moveHead
set_option maxRecDepth 20000 in
theorem ggX5_clear_X5_requireBranch : GoodIn wsX5_clear wsX5_requireBranch := goodIn_ca (goodIn_r _ [10, 11, 12, 13, 161, 162, 163, 164, 165, 166, 167, 168, 169, 170, 171] (by decide +kernel) (by decide +kernel)) (goodIn_sub (fun _ h => List.mem_cons_of_mem _ (List.mem_append_left _ (List.mem_append_right _ h))) (by decide +kernel))
set_option maxRecDepth 20000 in
theorem gX5_clear_X5_requireBranch : GoodIn wsX5_clear (wsV RX5 94 RX5 yX5_requireBranch wsX5_requireBranch) := goodIn_app (goodIn_of _ (by decide +kernel)) ggX5_clear_X5_requireBranch
set_option maxRecDepth 20000 in
theorem ggX5_clear_X5_requireItem : GoodIn wsX5_clear wsX5_requireItem := goodIn_ca (goodIn_r _ [17, 11, 12, 18, 161, 162, 163, 164, 165, 166, 167, 168, 169, 170, 171] (by decide +kernel) (by decide +kernel)) (goodIn_sub (fun _ h => List.mem_cons_of_mem _ (List.mem_append_left _ (List.mem_append_right _ h))) (by decide +kernel))
set_option maxRecDepth 20000 in
theorem gX5_clear_X5_requireItem : GoodIn wsX5_clear (wsV RX5 85 RX5 yX5_requireItem wsX5_requireItem) := goodIn_app (goodIn_of _ (by decide +kernel)) ggX5_clear_X5_requireItem
set_option maxRecDepth 20000 in
theorem ggX5_clear_X4_holdsNothingElse : GoodIn wsX5_clear wsX4_holdsNothingElse := goodIn_r _ [23, 24, 25, 26, 27, 22, 28, 29, 9, 30, 172, 173, 174] (by decide +kernel) (by decide +kernel)
set_option maxRecDepth 20000 in
theorem gX5_clear_X4_holdsNothingElse : GoodIn wsX5_clear (wsV RX5 114 RX4 yX4_holdsNothingElse wsX4_holdsNothingElse) := goodIn_app (goodIn_of _ (by decide +kernel)) ggX5_clear_X4_holdsNothingElse
set_option maxRecDepth 20000 in
theorem ggX5_clear_X5_requireRoomForCommit : GoodIn wsX5_clear wsX5_requireRoomForCommit := goodIn_ca (goodIn_r _ [34, 35, 36, 5, 37, 161, 162, 163, 164, 165, 166, 167, 168, 169, 170, 171, 175, 176, 177, 178, 179, 180, 181, 182, 183, 184] (by decide +kernel) (by decide +kernel)) (goodIn_sub (fun _ h => List.mem_cons_of_mem _ (List.mem_append_right _ h)) (by decide +kernel))
set_option maxRecDepth 20000 in
theorem gX5_clear_X5_requireRoomForCommit : GoodIn wsX5_clear (wsV RX5 99 RX5 yX5_requireRoomForCommit wsX5_requireRoomForCommit) := goodIn_app (goodIn_of _ (by decide +kernel)) ggX5_clear_X5_requireRoomForCommit
set_option maxRecDepth 20000 in
theorem ggX5_clear_X0_addChange : GoodIn wsX5_clear wsX0_addChange := goodIn_r _ [42, 43, 44, 45, 46, 47, 41, 48, 49, 50, 51, 52, 53, 54, 29, 9, 30, 55, 56, 57, 58, 59, 60, 175, 176, 177, 178, 179, 180, 181, 182, 183, 184] (by decide +kernel) (by decide +kernel)
set_option maxRecDepth 20000 in
theorem gX5_clear_X0_addChange : GoodIn wsX5_clear (wsV RX5 106 RX0 yX0_addChange wsX0_addChange) := goodIn_app (goodIn_of _ (by decide +kernel)) ggX5_clear_X0_addChange
set_option maxRecDepth 20000 in
theorem ggX5_clear_X5_moveHead : GoodIn wsX5_clear wsX5_moveHead := goodIn_r _ [64, 65, 3, 4, 66, 67, 68, 69, 70, 71, 72, 73, 74, 75, 76, 77, 78, 79, 80, 81, 22, 82, 24, 83, 84, 85, 86, 25, 26, 27, 28, 87, 88, 89, 90, 29, 9, 30, 55, 56, 91, 92, 93, 94, 95, 96, 97, 98, 99, 100, 41, 101, 53, 54, 102, 103, 104, 105, 106, 107, 108, 109, 110, 111, 112, 113, 114, 115, 116, 117, 118, 119, 120, 121, 122, 123, 124, 125, 126, 127, 128, 129, 130, 131, 132, 133, 134, 135, 136, 137, 138, 139, 140, 141, 142, 143, 144, 145, 146, 147, 148, 149, 150, 151, 152, 153, 154, 155, 156, 157, 158, 159, 160, 161, 162, 163, 164, 165, 166, 167, 168, 169, 170, 171, 185, 186, 175, 176, 177, 178, 179, 180, 181, 182, 183, 184, 172, 173, 174, 187, 188, 189, 190, 191, 192, 193] (by decide +kernel) (by decide +kernel)
set_option maxRecDepth 20000 in
theorem gX5_clear_X5_moveHead : GoodIn wsX5_clear (wsV RX5 110 RX5 yX5_moveHead wsX5_moveHead) := goodIn_app (goodIn_of _ (by decide +kernel)) ggX5_clear_X5_moveHead
set_option maxRecDepth 20000 in
theorem ggX5_settle_X5_requireBranch : GoodIn wsX5_settle wsX5_requireBranch := goodIn_ca (goodIn_r _ [10, 11, 12, 13, 178, 179, 180, 181, 182, 183, 184, 185, 186, 187, 188] (by decide +kernel) (by decide +kernel)) (goodIn_sub (fun _ h => List.mem_cons_of_mem _ (List.mem_append_left _ (List.mem_append_left _ (List.mem_append_right _ h)))) (by decide +kernel))
set_option maxRecDepth 20000 in
theorem gX5_settle_X5_requireBranch : GoodIn wsX5_settle (wsV RX5 94 RX5 yX5_requireBranch wsX5_requireBranch) := goodIn_app (goodIn_of _ (by decide +kernel)) ggX5_settle_X5_requireBranch
set_option maxRecDepth 20000 in
theorem ggX5_settle_X5_requireItem : GoodIn wsX5_settle wsX5_requireItem := goodIn_ca (goodIn_r _ [17, 11, 12, 18, 178, 179, 180, 181, 182, 183, 184, 185, 186, 187, 188] (by decide +kernel) (by decide +kernel)) (goodIn_sub (fun _ h => List.mem_cons_of_mem _ (List.mem_append_left _ (List.mem_append_left _ (List.mem_append_right _ h)))) (by decide +kernel))
set_option maxRecDepth 20000 in
theorem gX5_settle_X5_requireItem : GoodIn wsX5_settle (wsV RX5 85 RX5 yX5_requireItem wsX5_requireItem) := goodIn_app (goodIn_of _ (by decide +kernel)) ggX5_settle_X5_requireItem
set_option maxRecDepth 20000 in
theorem ggX5_settle_X4_holdsConflict : GoodIn wsX5_settle wsX4_holdsConflict := goodIn_r _ [23, 24, 25, 26, 22, 27, 28, 29, 30, 31, 32, 33, 34, 35, 36, 37, 38, 39, 189, 190, 191] (by decide +kernel) (by decide +kernel)
set_option maxRecDepth 20000 in
theorem gX5_settle_X4_holdsConflict : GoodIn wsX5_settle (wsV RX5 123 RX4 yX4_holdsConflict wsX4_holdsConflict) := goodIn_app (goodIn_of _ (by decide +kernel)) ggX5_settle_X4_holdsConflict
set_option maxRecDepth 20000 in
theorem ggX5_settle_X5_requireSide : GoodIn wsX5_settle wsX5_requireSide := goodIn_ca (goodIn_r _ [43, 44, 45, 46, 47, 48, 22, 49, 50, 51, 28, 29, 30, 31, 32, 52, 53, 54, 55, 56, 57, 58, 9, 59, 60, 61, 62, 63, 64, 65, 189, 190, 191, 192, 193, 194] (by decide +kernel) (by decide +kernel)) (goodIn_sub (fun _ h => List.mem_cons_of_mem _ (List.mem_append_left _ (List.mem_append_right _ h))) (by decide +kernel))
set_option maxRecDepth 20000 in
theorem gX5_settle_X5_requireSide : GoodIn wsX5_settle (wsV RX5 128 RX5 yX5_requireSide wsX5_requireSide) := goodIn_app (goodIn_of _ (by decide +kernel)) ggX5_settle_X5_requireSide
set_option maxRecDepth 20000 in
theorem ggX5_settle_X5_requireRoomForCommit : GoodIn wsX5_settle wsX5_requireRoomForCommit := goodIn_ca (goodIn_r _ [69, 70, 71, 5, 72, 178, 179, 180, 181, 182, 183, 184, 185, 186, 187, 188, 195, 196, 197, 198, 199, 200, 201, 202, 203, 204] (by decide +kernel) (by decide +kernel)) (goodIn_sub (fun _ h => List.mem_cons_of_mem _ (List.mem_append_right _ h)) (by decide +kernel))
set_option maxRecDepth 20000 in
theorem gX5_settle_X5_requireRoomForCommit : GoodIn wsX5_settle (wsV RX5 99 RX5 yX5_requireRoomForCommit wsX5_requireRoomForCommit) := goodIn_app (goodIn_of _ (by decide +kernel)) ggX5_settle_X5_requireRoomForCommit
set_option maxRecDepth 20000 in
theorem ggX5_settle_X0_addChange : GoodIn wsX5_settle wsX0_addChange := goodIn_r _ [77, 78, 79, 80, 81, 82, 76, 83, 84, 85, 86, 87, 88, 89, 61, 9, 62, 64, 65, 90, 91, 92, 93, 195, 196, 197, 198, 199, 200, 201, 202, 203, 204] (by decide +kernel) (by decide +kernel)
set_option maxRecDepth 20000 in
theorem gX5_settle_X0_addChange : GoodIn wsX5_settle (wsV RX5 106 RX0 yX0_addChange wsX0_addChange) := goodIn_app (goodIn_of _ (by decide +kernel)) ggX5_settle_X0_addChange
set_option maxRecDepth 20000 in
theorem ggX5_settle_X5_moveHead : GoodIn wsX5_settle wsX5_moveHead := goodIn_r _ [97, 98, 3, 4, 99, 100, 101, 102, 103, 104, 105, 106, 107, 108, 109, 110, 111, 112, 113, 114, 22, 115, 28, 116, 117, 118, 119, 29, 30, 31, 32, 120, 121, 122, 123, 61, 9, 62, 64, 65, 124, 125, 126, 127, 128, 129, 130, 131, 132, 133, 76, 134, 88, 89, 135, 136, 137, 138, 58, 59, 60, 63, 139, 140, 141, 142, 143, 144, 145, 146, 147, 148, 149, 150, 151, 152, 153, 154, 155, 156, 157, 158, 159, 160, 161, 162, 163, 25, 26, 27, 33, 34, 35, 36, 37, 38, 39, 164, 165, 166, 167, 50, 51, 168, 169, 170, 171, 172, 173, 174, 175, 176, 177, 178, 179, 180, 181, 182, 183, 184, 185, 186, 187, 188, 205, 206, 195, 196, 197, 198, 199, 200, 201, 202, 203, 204, 189, 190, 191, 207, 208, 209, 210, 192, 193, 194] (by decide +kernel) (by decide +kernel)
set_option maxRecDepth 20000 in
theorem gX5_settle_X5_moveHead : GoodIn wsX5_settle (wsV RX5 110 RX5 yX5_moveHead wsX5_moveHead) := goodIn_app (goodIn_of _ (by decide +kernel)) ggX5_settle_X5_moveHead
set_option maxRecDepth 20000 in
theorem ggX5_tag_X5_requireCommit : GoodIn wsX5_tag wsX5_requireCommit := goodIn_ca (goodIn_r _ [6, 7, 8, 9, 10, 17, 18, 19, 20, 21, 22, 23, 24, 25, 26, 27, 28, 29, 30, 31, 32, 33, 34, 35, 36, 37] (by decide +kernel) (by decide +kernel)) (goodIn_sub (fun _ h => List.mem_cons_of_mem _ (List.mem_append_left _ (List.mem_append_right _ h))) (by decide +kernel))
set_option maxRecDepth 20000 in
theorem gX5_tag_X5_requireCommit : GoodIn wsX5_tag (wsV RX5 89 RX5 yX5_requireCommit wsX5_requireCommit) := goodIn_app (goodIn_of _ (by decide +kernel)) ggX5_tag_X5_requireCommit
set_option maxRecDepth 20000 in
theorem ggX5_tag_X5_requireTag : GoodIn wsX5_tag wsX5_requireTag := goodIn_ca (goodIn_r _ [14, 15, 16] (by decide +kernel) (by decide +kernel)) (goodIn_sub (fun _ h => List.mem_cons_of_mem _ (List.mem_append_right _ h)) (by decide +kernel))
set_option maxRecDepth 20000 in
theorem gX5_tag_X5_requireTag : GoodIn wsX5_tag (wsV RX5 132 RX5 yX5_requireTag wsX5_requireTag) := goodIn_app (goodIn_of _ (by decide +kernel)) ggX5_tag_X5_requireTag
set_option maxRecDepth 20000 in
theorem ggX5_tagged_X5_requireTag : GoodIn wsX5_tagged wsX5_requireTag := goodIn_ca (goodIn_r _ [8, 9, 10] (by decide +kernel) (by decide +kernel)) (goodIn_sub (fun _ h => List.mem_cons_of_mem _ (List.mem_append_right _ h)) (by decide +kernel))
set_option maxRecDepth 20000 in
theorem gX5_tagged_X5_requireTag : GoodIn wsX5_tagged (wsV RX5 132 RX5 yX5_requireTag wsX5_requireTag) := goodIn_app (goodIn_of _ (by decide +kernel)) ggX5_tagged_X5_requireTag
set_option maxRecDepth 20000 in
theorem ggX5_parents_X5_requireCommit : GoodIn wsX5_parents wsX5_requireCommit := goodIn_ca (goodIn_r _ [6, 7, 8, 1, 9, 17, 18, 19, 20, 21, 22, 23, 24, 25, 26, 27, 28, 29, 30, 31, 32, 33, 34, 35, 36, 37] (by decide +kernel) (by decide +kernel)) (goodIn_sub (fun _ h => List.mem_cons_of_mem _ (List.mem_append_right _ h)) (by decide +kernel))
set_option maxRecDepth 20000 in
theorem gX5_parents_X5_requireCommit : GoodIn wsX5_parents (wsV RX5 89 RX5 yX5_requireCommit wsX5_requireCommit) := goodIn_app (goodIn_of _ (by decide +kernel)) ggX5_parents_X5_requireCommit
set_option maxRecDepth 20000 in
theorem ggX5_parents_X0_parentCount : GoodIn wsX5_parents wsX0_parentCount := goodIn_r _ [14, 15, 16, 28, 29, 30, 31, 32, 33, 34, 35, 36, 37] (by decide +kernel) (by decide +kernel)
set_option maxRecDepth 20000 in
theorem gX5_parents_X0_parentCount : GoodIn wsX5_parents (wsV RX5 143 RX0 yX0_parentCount wsX0_parentCount) := goodIn_app (goodIn_of _ (by decide +kernel)) ggX5_parents_X0_parentCount
set_option maxRecDepth 20000 in
theorem ggX5_parentAt_X5_requireCommit : GoodIn wsX5_parentAt wsX5_requireCommit := goodIn_ca (goodIn_r _ [10, 11, 12, 3, 13, 21, 22, 23, 24, 25, 26, 27, 28, 29, 30, 31, 32, 33, 34, 35, 36, 37, 38, 39, 40, 41] (by decide +kernel) (by decide +kernel)) (goodIn_sub (fun _ h => List.mem_cons_of_mem _ (List.mem_append_right _ h)) (by decide +kernel))
set_option maxRecDepth 20000 in
theorem gX5_parentAt_X5_requireCommit : GoodIn wsX5_parentAt (wsV RX5 89 RX5 yX5_requireCommit wsX5_requireCommit) := goodIn_app (goodIn_of _ (by decide +kernel)) ggX5_parentAt_X5_requireCommit
set_option maxRecDepth 20000 in
theorem ggX5_parentAt_X0_parentCount : GoodIn wsX5_parentAt wsX0_parentCount := goodIn_r _ [18, 19, 20, 32, 33, 34, 35, 36, 37, 38, 39, 40, 41] (by decide +kernel) (by decide +kernel)
set_option maxRecDepth 20000 in
theorem gX5_parentAt_X0_parentCount : GoodIn wsX5_parentAt (wsV RX5 143 RX0 yX0_parentCount wsX0_parentCount) := goodIn_app (goodIn_of _ (by decide +kernel)) ggX5_parentAt_X0_parentCount
set_option maxRecDepth 20000 in
theorem ggX5_isAncestor_X5_requireCommit : GoodIn wsX5_isAncestor wsX5_requireCommit := goodIn_ca (goodIn_r _ [6, 7, 8, 1, 9, 25, 26, 27, 28, 29, 30, 31, 32, 33, 34, 35, 36, 37, 38, 39, 40, 41, 42, 43, 44, 45] (by decide +kernel) (by decide +kernel)) (goodIn_sub (fun _ h => List.mem_cons_of_mem _ (List.mem_append_right _ h)) (by decide +kernel))
set_option maxRecDepth 20000 in
theorem gX5_isAncestor_X5_requireCommit : GoodIn wsX5_isAncestor (wsV RX5 89 RX5 yX5_requireCommit wsX5_requireCommit) := goodIn_app (goodIn_of _ (by decide +kernel)) ggX5_isAncestor_X5_requireCommit
set_option maxRecDepth 20000 in
theorem ggX5_isAncestor_X0_descends : GoodIn wsX5_isAncestor wsX0_descends := goodIn_r _ [14, 15, 16, 17, 5, 18, 19, 20, 21, 22, 23, 24, 36, 37, 38, 39, 40, 41, 42, 43, 44, 45] (by decide +kernel) (by decide +kernel)
set_option maxRecDepth 20000 in
theorem gX5_isAncestor_X0_descends : GoodIn wsX5_isAncestor (wsV RX5 154 RX0 yX0_descends wsX0_descends) := goodIn_app (goodIn_of _ (by decide +kernel)) ggX5_isAncestor_X0_descends
set_option maxRecDepth 20000 in
theorem ggX5_base_X5_requireCommit : GoodIn wsX5_base wsX5_requireCommit := goodIn_ca (goodIn_r _ [6, 7, 8, 1, 9, 29, 30, 31, 32, 33, 34, 35, 36, 37, 38, 39, 40, 41, 42, 43, 44, 45, 46, 47, 48, 49] (by decide +kernel) (by decide +kernel)) (goodIn_sub (fun _ h => List.mem_cons_of_mem _ (List.mem_append_right _ h)) (by decide +kernel))
set_option maxRecDepth 20000 in
theorem gX5_base_X5_requireCommit : GoodIn wsX5_base (wsV RX5 89 RX5 yX5_requireCommit wsX5_requireCommit) := goodIn_app (goodIn_of _ (by decide +kernel)) ggX5_base_X5_requireCommit
set_option maxRecDepth 20000 in
theorem ggX5_base_X0_greatestShared : GoodIn wsX5_base wsX0_greatestShared := goodIn_r _ [14, 15, 16, 17, 18, 19, 20, 21, 5, 22, 23, 24, 25, 26, 27, 28, 40, 41, 42, 43, 44, 45, 46, 47, 48, 49] (by decide +kernel) (by decide +kernel)
set_option maxRecDepth 20000 in
theorem gX5_base_X0_greatestShared : GoodIn wsX5_base (wsV RX5 157 RX0 yX0_greatestShared wsX0_greatestShared) := goodIn_app (goodIn_of _ (by decide +kernel)) ggX5_base_X0_greatestShared
set_option maxRecDepth 20000 in
theorem ggX5_sides_X5_requireCommit : GoodIn wsX5_sides wsX5_requireCommit := goodIn_ca (goodIn_r _ [6, 7, 8, 9, 10, 33, 34, 35, 36, 37, 38, 39, 40, 41, 42, 43, 44, 45, 46, 47, 48, 49, 50, 51, 52, 53] (by decide +kernel) (by decide +kernel)) (goodIn_sub (fun _ h => List.mem_cons_of_mem _ (List.mem_append_right _ h)) (by decide +kernel))
set_option maxRecDepth 20000 in
theorem gX5_sides_X5_requireCommit : GoodIn wsX5_sides (wsV RX5 89 RX5 yX5_requireCommit wsX5_requireCommit) := goodIn_app (goodIn_of _ (by decide +kernel)) ggX5_sides_X5_requireCommit
set_option maxRecDepth 20000 in
theorem ggX5_sides_X5_requireItem : GoodIn wsX5_sides wsX5_requireItem := goodIn_ca (goodIn_r _ [14, 7, 8, 15, 33, 34, 35, 36, 37, 38, 39, 40, 41, 42, 43] (by decide +kernel) (by decide +kernel)) (goodIn_sub (fun _ h => List.mem_cons_of_mem _ (List.mem_append_right _ h)) (by decide +kernel))
set_option maxRecDepth 20000 in
theorem gX5_sides_X5_requireItem : GoodIn wsX5_sides (wsV RX5 85 RX5 yX5_requireItem wsX5_requireItem) := goodIn_app (goodIn_of _ (by decide +kernel)) ggX5_sides_X5_requireItem
set_option maxRecDepth 20000 in
theorem ggX5_sides_X4_sideCount : GoodIn wsX5_sides wsX4_sideCount := goodIn_r _ [20, 21, 22, 23, 24, 19, 25, 26, 27, 28, 29, 30, 31, 32, 54, 55, 56] (by decide +kernel) (by decide +kernel)
set_option maxRecDepth 20000 in
theorem gX5_sides_X4_sideCount : GoodIn wsX5_sides (wsV RX5 160 RX4 yX4_sideCount wsX4_sideCount) := goodIn_app (goodIn_of _ (by decide +kernel)) ggX5_sides_X4_sideCount
set_option maxRecDepth 20000 in
theorem ggX5_sideAt_X5_requireCommit : GoodIn wsX5_sideAt wsX5_requireCommit := goodIn_ca (goodIn_r _ [8, 9, 10, 11, 12, 50, 51, 52, 53, 54, 55, 56, 57, 58, 59, 60, 64, 65, 66, 67, 68, 69, 70, 71, 72, 73] (by decide +kernel) (by decide +kernel)) (goodIn_sub (fun _ h => List.mem_cons_of_mem _ (List.mem_append_left _ (List.mem_append_right _ h))) (by decide +kernel))
set_option maxRecDepth 20000 in
theorem gX5_sideAt_X5_requireCommit : GoodIn wsX5_sideAt (wsV RX5 89 RX5 yX5_requireCommit wsX5_requireCommit) := goodIn_app (goodIn_of _ (by decide +kernel)) ggX5_sideAt_X5_requireCommit
set_option maxRecDepth 20000 in
theorem ggX5_sideAt_X5_requireItem : GoodIn wsX5_sideAt wsX5_requireItem := goodIn_ca (goodIn_r _ [16, 9, 10, 17, 50, 51, 52, 53, 54, 55, 56, 57, 58, 59, 60] (by decide +kernel) (by decide +kernel)) (goodIn_sub (fun _ h => List.mem_cons_of_mem _ (List.mem_append_left _ (List.mem_append_right _ h))) (by decide +kernel))
set_option maxRecDepth 20000 in
theorem gX5_sideAt_X5_requireItem : GoodIn wsX5_sideAt (wsV RX5 85 RX5 yX5_requireItem wsX5_requireItem) := goodIn_app (goodIn_of _ (by decide +kernel)) ggX5_sideAt_X5_requireItem
set_option maxRecDepth 20000 in
theorem ggX5_sideAt_X5_requireSide : GoodIn wsX5_sideAt wsX5_requireSide := goodIn_ca (goodIn_r _ [21, 22, 23, 24, 25, 26, 27, 28, 29, 30, 31, 32, 33, 34, 35, 36, 37, 38, 39, 40, 41, 42, 7, 43, 44, 45, 46, 47, 48, 49, 74, 75, 76, 61, 62, 63] (by decide +kernel) (by decide +kernel)) (goodIn_sub (fun _ h => List.mem_cons_of_mem _ (List.mem_append_right _ h)) (by decide +kernel))
set_option maxRecDepth 20000 in
theorem gX5_sideAt_X5_requireSide : GoodIn wsX5_sideAt (wsV RX5 128 RX5 yX5_requireSide wsX5_requireSide) := goodIn_app (goodIn_of _ (by decide +kernel)) ggX5_sideAt_X5_requireSide
set_option maxRecDepth 20000 in
theorem ggX5_sideByLog_X5_requireCommit : GoodIn wsX5_sideByLog wsX5_requireCommit := goodIn_ca (goodIn_r _ [9, 10, 11, 12, 13, 143, 144, 145, 146, 147, 148, 149, 150, 151, 152, 153, 157, 158, 159, 160, 161, 162, 163, 164, 165, 166] (by decide +kernel) (by decide +kernel)) (goodIn_sub (fun _ h => List.mem_cons_of_mem _ (List.mem_append_left _ (List.mem_append_right _ h))) (by decide +kernel))
set_option maxRecDepth 20000 in
theorem gX5_sideByLog_X5_requireCommit : GoodIn wsX5_sideByLog (wsV RX5 89 RX5 yX5_requireCommit wsX5_requireCommit) := goodIn_app (goodIn_of _ (by decide +kernel)) ggX5_sideByLog_X5_requireCommit
set_option maxRecDepth 20000 in
theorem ggX5_sideByLog_X5_requireItem : GoodIn wsX5_sideByLog wsX5_requireItem := goodIn_ca (goodIn_r _ [17, 10, 11, 18, 143, 144, 145, 146, 147, 148, 149, 150, 151, 152, 153] (by decide +kernel) (by decide +kernel)) (goodIn_sub (fun _ h => List.mem_cons_of_mem _ (List.mem_append_left _ (List.mem_append_right _ h))) (by decide +kernel))
set_option maxRecDepth 20000 in
theorem gX5_sideByLog_X5_requireItem : GoodIn wsX5_sideByLog (wsV RX5 85 RX5 yX5_requireItem wsX5_requireItem) := goodIn_app (goodIn_of _ (by decide +kernel)) ggX5_sideByLog_X5_requireItem
set_option maxRecDepth 20000 in
theorem ggX5_sideByLog_X3_write : GoodIn wsX5_sideByLog wsX3_write := goodIn_r _ [23, 24, 25, 26, 27, 28, 29, 30, 31, 32, 33, 34, 35, 36, 37, 38, 39, 40, 41, 42, 43, 44, 45, 46, 47, 48, 49, 50, 8, 51, 52, 53, 54, 55, 56, 22, 57, 58, 59, 60, 61, 62, 63, 64, 65, 66, 67, 68, 69, 70, 71, 72, 73, 74, 75, 76, 77, 78, 79, 80, 81, 82, 83, 84, 85, 86, 87, 88, 89, 90, 91, 92, 93, 94, 95, 96, 97, 98, 99, 100, 101, 102, 103, 104, 105, 106, 107, 108, 109, 110, 111, 112, 113, 114, 115, 116, 117, 118, 119, 120, 121, 122, 123, 124, 125, 126, 167, 168, 157, 158, 159, 160, 161, 162, 163, 164, 165, 166, 169, 170, 171, 172, 173, 174, 175, 154, 155, 156] (by decide +kernel) (by decide +kernel)
set_option maxRecDepth 20000 in
theorem gX5_sideByLog_X3_write : GoodIn wsX5_sideByLog (wsV RX5 66 RX3 yX3_write wsX3_write) := goodIn_app (goodIn_of _ (by decide +kernel)) ggX5_sideByLog_X3_write
set_option maxRecDepth 20000 in
theorem ggX5_sideByLog_X5_requireSide : GoodIn wsX5_sideByLog wsX5_requireSide := goodIn_ca (goodIn_r _ [130, 131, 132, 133, 134, 135, 35, 136, 115, 116, 37, 42, 43, 44, 45, 137, 138, 139, 140, 141, 142, 72, 8, 73, 74, 50, 51, 75, 52, 53, 169, 170, 171, 154, 155, 156] (by decide +kernel) (by decide +kernel)) (goodIn_sub (fun _ h => List.mem_cons_of_mem _ (List.mem_append_right _ h)) (by decide +kernel))
set_option maxRecDepth 20000 in
theorem gX5_sideByLog_X5_requireSide : GoodIn wsX5_sideByLog (wsV RX5 128 RX5 yX5_requireSide wsX5_requireSide) := goodIn_app (goodIn_of _ (by decide +kernel)) ggX5_sideByLog_X5_requireSide
set_option maxRecDepth 20000 in
theorem ggX5_conflicts_X5_requireCommit : GoodIn wsX5_conflicts wsX5_requireCommit := goodIn_ca (goodIn_r _ [6, 7, 8, 9, 10, 36, 37, 38, 39, 40, 41, 42, 43, 44, 45, 46, 47, 48, 49, 50, 51, 52, 53, 54, 55, 56] (by decide +kernel) (by decide +kernel)) (goodIn_sub (fun _ h => List.mem_cons_of_mem _ (List.mem_append_right _ h)) (by decide +kernel))
set_option maxRecDepth 20000 in
theorem gX5_conflicts_X5_requireCommit : GoodIn wsX5_conflicts (wsV RX5 89 RX5 yX5_requireCommit wsX5_requireCommit) := goodIn_app (goodIn_of _ (by decide +kernel)) ggX5_conflicts_X5_requireCommit
set_option maxRecDepth 20000 in
theorem ggX5_conflicts_X4_conflictCount : GoodIn wsX5_conflicts wsX4_conflictCount := goodIn_r _ [15, 16, 17, 18, 14, 19, 20, 21, 22, 23, 24, 25, 26, 27, 28, 29, 30, 31, 32, 33, 34, 35, 57, 58, 59] (by decide +kernel) (by decide +kernel)
set_option maxRecDepth 20000 in
theorem gX5_conflicts_X4_conflictCount : GoodIn wsX5_conflicts (wsV RX5 166 RX4 yX4_conflictCount wsX4_conflictCount) := goodIn_app (goodIn_of _ (by decide +kernel)) ggX5_conflicts_X4_conflictCount
set_option maxRecDepth 20000 in
theorem ggX5_firstConflict_X5_requireCommit : GoodIn wsX5_firstConflict wsX5_requireCommit := goodIn_ca (goodIn_r _ [9, 10, 11, 12, 13, 35, 36, 37, 38, 39, 40, 41, 42, 43, 44, 45, 46, 47, 48, 49, 50, 51, 52, 53, 54, 55] (by decide +kernel) (by decide +kernel)) (goodIn_sub (fun _ h => List.mem_cons_of_mem _ (List.mem_append_right _ h)) (by decide +kernel))
set_option maxRecDepth 20000 in
theorem gX5_firstConflict_X5_requireCommit : GoodIn wsX5_firstConflict (wsV RX5 89 RX5 yX5_requireCommit wsX5_requireCommit) := goodIn_app (goodIn_of _ (by decide +kernel)) ggX5_firstConflict_X5_requireCommit
set_option maxRecDepth 20000 in
theorem ggX5_firstConflict_X4_holdsConflict : GoodIn wsX5_firstConflict wsX4_holdsConflict := goodIn_r _ [18, 19, 20, 21, 17, 22, 23, 24, 25, 26, 27, 28, 29, 30, 31, 32, 33, 34, 56, 57, 58] (by decide +kernel) (by decide +kernel)
set_option maxRecDepth 20000 in
theorem gX5_firstConflict_X4_holdsConflict : GoodIn wsX5_firstConflict (wsV RX5 123 RX4 yX4_holdsConflict wsX4_holdsConflict) := goodIn_app (goodIn_of _ (by decide +kernel)) ggX5_firstConflict_X4_holdsConflict
set_option maxRecDepth 20000 in
theorem ggX5_differences_X5_requireCommit : GoodIn wsX5_differences wsX5_requireCommit := goodIn_ca (goodIn_r _ [6, 7, 8, 9, 10, 25, 26, 27, 28, 29, 30, 31, 32, 33, 34, 35, 36, 37, 38, 39, 40, 41, 42, 43, 44, 45] (by decide +kernel) (by decide +kernel)) (goodIn_sub (fun _ h => List.mem_cons_of_mem _ (List.mem_append_right _ h)) (by decide +kernel))
set_option maxRecDepth 20000 in
theorem gX5_differences_X5_requireCommit : GoodIn wsX5_differences (wsV RX5 89 RX5 yX5_requireCommit wsX5_requireCommit) := goodIn_app (goodIn_of _ (by decide +kernel)) ggX5_differences_X5_requireCommit
set_option maxRecDepth 20000 in
theorem ggX5_differences_X4_differenceCount : GoodIn wsX5_differences wsX4_differenceCount := goodIn_r _ [15, 16, 17, 18, 14, 19, 20, 21, 22, 23, 24, 46, 47, 48] (by decide +kernel) (by decide +kernel)
set_option maxRecDepth 20000 in
theorem gX5_differences_X4_differenceCount : GoodIn wsX5_differences (wsV RX5 171 RX4 yX4_differenceCount wsX4_differenceCount) := goodIn_app (goodIn_of _ (by decide +kernel)) ggX5_differences_X4_differenceCount
set_option maxRecDepth 20000 in
theorem ggX5_blame_X5_requireCommit : GoodIn wsX5_blame wsX5_requireCommit := goodIn_ca (goodIn_r _ [5, 6, 7, 8, 9, 36, 37, 38, 39, 40, 41, 42, 43, 44, 45, 46, 47, 48, 49, 50, 51, 52, 53, 54, 55, 56] (by decide +kernel) (by decide +kernel)) (goodIn_sub (fun _ h => List.mem_cons_of_mem _ (List.mem_append_right _ h)) (by decide +kernel))
set_option maxRecDepth 20000 in
theorem gX5_blame_X5_requireCommit : GoodIn wsX5_blame (wsV RX5 89 RX5 yX5_requireCommit wsX5_requireCommit) := goodIn_app (goodIn_of _ (by decide +kernel)) ggX5_blame_X5_requireCommit
set_option maxRecDepth 20000 in
theorem ggX5_blame_X5_requireItem : GoodIn wsX5_blame wsX5_requireItem := goodIn_ca (goodIn_r _ [13, 6, 7, 14, 36, 37, 38, 39, 40, 41, 42, 43, 44, 45, 46] (by decide +kernel) (by decide +kernel)) (goodIn_sub (fun _ h => List.mem_cons_of_mem _ (List.mem_append_right _ h)) (by decide +kernel))
set_option maxRecDepth 20000 in
theorem gX5_blame_X5_requireItem : GoodIn wsX5_blame (wsV RX5 85 RX5 yX5_requireItem wsX5_requireItem) := goodIn_app (goodIn_of _ (by decide +kernel)) ggX5_blame_X5_requireItem
set_option maxRecDepth 20000 in
theorem ggX5_blame_X5_findBlame : GoodIn wsX5_blame wsX5_findBlame := goodIn_r _ [18, 19, 20, 21, 4, 22, 8, 23, 24, 25, 26, 27, 28, 29, 30, 31, 32, 33, 34, 35, 36, 37, 38, 39, 40, 41, 42, 43, 44, 45, 46, 47, 48, 49, 50, 51, 52, 53, 54, 55, 56, 57, 58, 59] (by decide +kernel) (by decide +kernel)
set_option maxRecDepth 20000 in
theorem gX5_blame_X5_findBlame : GoodIn wsX5_blame (wsV RX5 174 RX5 yX5_findBlame wsX5_findBlame) := goodIn_app (goodIn_of _ (by decide +kernel)) ggX5_blame_X5_findBlame
set_option maxRecDepth 20000 in
theorem ggX5_blamed_X5_requireCommit : GoodIn wsX5_blamed wsX5_requireCommit := goodIn_ca (goodIn_r _ [6, 7, 8, 9, 10, 32, 33, 34, 35, 36, 37, 38, 39, 40, 41, 42, 43, 44, 45, 46, 47, 48, 49, 50, 51, 52] (by decide +kernel) (by decide +kernel)) (goodIn_sub (fun _ h => List.mem_cons_of_mem _ (List.mem_append_right _ h)) (by decide +kernel))
set_option maxRecDepth 20000 in
theorem gX5_blamed_X5_requireCommit : GoodIn wsX5_blamed (wsV RX5 89 RX5 yX5_requireCommit wsX5_requireCommit) := goodIn_app (goodIn_of _ (by decide +kernel)) ggX5_blamed_X5_requireCommit
set_option maxRecDepth 20000 in
theorem ggX5_blamed_X5_findBlame : GoodIn wsX5_blamed wsX5_findBlame := goodIn_r _ [14, 15, 16, 17, 5, 18, 9, 19, 20, 21, 22, 23, 24, 25, 26, 27, 28, 29, 30, 31, 32, 33, 34, 35, 36, 37, 38, 39, 40, 41, 42, 43, 44, 45, 46, 47, 48, 49, 50, 51, 52, 53, 54, 55] (by decide +kernel) (by decide +kernel)
set_option maxRecDepth 20000 in
theorem gX5_blamed_X5_findBlame : GoodIn wsX5_blamed (wsV RX5 174 RX5 yX5_findBlame wsX5_findBlame) := goodIn_app (goodIn_of _ (by decide +kernel)) ggX5_blamed_X5_findBlame
set_option maxRecDepth 20000 in
theorem ggX5_merge_X5_requireBranch : GoodIn wsX5_merge wsX5_requireBranch := goodIn_ca (goodIn_r _ [11, 12, 13, 14, 157, 158, 159, 160, 161, 162, 163, 164, 165, 166, 167] (by decide +kernel) (by decide +kernel)) (goodIn_sub (fun _ h => List.mem_cons_of_mem _ (List.mem_append_left _ (List.mem_append_right _ h))) (by decide +kernel))
set_option maxRecDepth 20000 in
theorem gX5_merge_X5_requireBranch : GoodIn wsX5_merge (wsV RX5 94 RX5 yX5_requireBranch wsX5_requireBranch) := goodIn_app (goodIn_of _ (by decide +kernel)) ggX5_merge_X5_requireBranch
set_option maxRecDepth 20000 in
theorem ggX5_merge_X0_descends : GoodIn wsX5_merge wsX0_descends := goodIn_r _ [19, 20, 21, 22, 10, 23, 24, 25, 26, 27, 28, 29, 172, 173, 174, 175, 176, 177, 178, 179, 180, 181] (by decide +kernel) (by decide +kernel)
set_option maxRecDepth 20000 in
theorem gX5_merge_X0_descends : GoodIn wsX5_merge (wsV RX5 154 RX0 yX0_descends wsX0_descends) := goodIn_app (goodIn_of _ (by decide +kernel)) ggX5_merge_X0_descends
set_option maxRecDepth 20000 in
theorem ggX5_merge_X5_requireRoomForCommit : GoodIn wsX5_merge wsX5_requireRoomForCommit := goodIn_ca (goodIn_r _ [33, 34, 35, 3, 36, 157, 158, 159, 160, 161, 162, 163, 164, 165, 166, 167, 172, 173, 174, 175, 176, 177, 178, 179, 180, 181] (by decide +kernel) (by decide +kernel)) (goodIn_sub (fun _ h => List.mem_cons_of_mem _ (List.mem_append_right _ h)) (by decide +kernel))
set_option maxRecDepth 20000 in
theorem gX5_merge_X5_requireRoomForCommit : GoodIn wsX5_merge (wsV RX5 99 RX5 yX5_requireRoomForCommit wsX5_requireRoomForCommit) := goodIn_app (goodIn_of _ (by decide +kernel)) ggX5_merge_X5_requireRoomForCommit
set_option maxRecDepth 20000 in
theorem ggX5_merge_X0_addMerge : GoodIn wsX5_merge wsX0_addMerge := goodIn_r _ [40, 41, 42, 43, 44, 18, 45, 46, 47, 48, 49, 20, 21, 25, 10, 26, 28, 29, 50, 51, 52, 53, 172, 173, 174, 175, 176, 177, 178, 179, 180, 181] (by decide +kernel) (by decide +kernel)
set_option maxRecDepth 20000 in
theorem gX5_merge_X0_addMerge : GoodIn wsX5_merge (wsV RX5 180 RX0 yX0_addMerge wsX0_addMerge) := goodIn_app (goodIn_of _ (by decide +kernel)) ggX5_merge_X0_addMerge
set_option maxRecDepth 20000 in
theorem ggX5_merge_X5_moveHead : GoodIn wsX5_merge wsX5_moveHead := goodIn_r _ [57, 58, 59, 4, 60, 61, 62, 63, 64, 65, 66, 67, 68, 69, 70, 71, 72, 73, 74, 75, 76, 77, 78, 79, 80, 81, 82, 83, 84, 85, 86, 87, 88, 89, 90, 25, 10, 26, 28, 29, 91, 92, 93, 94, 95, 96, 97, 98, 99, 100, 18, 101, 20, 21, 102, 103, 104, 105, 22, 23, 24, 27, 106, 107, 108, 109, 110, 111, 112, 113, 114, 115, 116, 117, 118, 119, 120, 121, 122, 123, 124, 125, 126, 127, 128, 129, 130, 131, 132, 133, 134, 135, 136, 137, 138, 139, 140, 141, 142, 143, 144, 145, 146, 147, 148, 149, 150, 151, 152, 153, 154, 155, 156, 157, 158, 159, 160, 161, 162, 163, 164, 165, 166, 167, 182, 183, 172, 173, 174, 175, 176, 177, 178, 179, 180, 181, 184, 185, 186, 168, 169, 170, 171, 187, 188, 189] (by decide +kernel) (by decide +kernel)
set_option maxRecDepth 20000 in
theorem gX5_merge_X5_moveHead : GoodIn wsX5_merge (wsV RX5 110 RX5 yX5_moveHead wsX5_moveHead) := goodIn_app (goodIn_of _ (by decide +kernel)) ggX5_merge_X5_moveHead
set_option maxRecDepth 20000 in
theorem ggX5_wouldConflict_X5_requireBranch : GoodIn wsX5_wouldConflict wsX5_requireBranch := goodIn_ca (goodIn_r _ [10, 11, 12, 13, 99, 100, 101, 102, 103, 104, 105, 106, 107, 108, 109] (by decide +kernel) (by decide +kernel)) (goodIn_sub (fun _ h => List.mem_cons_of_mem _ (List.mem_append_right _ h)) (by decide +kernel))
set_option maxRecDepth 20000 in
theorem gX5_wouldConflict_X5_requireBranch : GoodIn wsX5_wouldConflict (wsV RX5 94 RX5 yX5_requireBranch wsX5_requireBranch) := goodIn_app (goodIn_of _ (by decide +kernel)) ggX5_wouldConflict_X5_requireBranch
set_option maxRecDepth 20000 in
theorem ggX5_wouldConflict_X3_writeMerge : GoodIn wsX5_wouldConflict wsX3_writeMerge := goodIn_r _ [18, 19, 20, 21, 22, 23, 24, 25, 26, 27, 28, 29, 30, 31, 32, 33, 34, 9, 35, 36, 37, 38, 39, 40, 41, 42, 43, 44, 17, 45, 46, 47, 48, 49, 50, 51, 52, 53, 54, 55, 56, 57, 58, 59, 60, 61, 62, 63, 64, 65, 66, 67, 68, 69, 70, 71, 72, 73, 74, 75, 76, 77, 78, 79, 80, 81, 82, 83, 84, 85, 86, 87, 88, 89, 114, 115, 110, 111, 112, 113, 116, 117, 118, 119, 120, 121, 122, 123, 124, 125, 126, 127, 128, 129, 130, 131] (by decide +kernel) (by decide +kernel)
set_option maxRecDepth 20000 in
theorem gX5_wouldConflict_X3_writeMerge : GoodIn wsX5_wouldConflict (wsV RX5 183 RX3 yX3_writeMerge wsX3_writeMerge) := goodIn_app (goodIn_of _ (by decide +kernel)) ggX5_wouldConflict_X3_writeMerge
set_option maxRecDepth 20000 in
theorem ggX5_wouldConflict_X4_conflictCount : GoodIn wsX5_wouldConflict wsX4_conflictCount := goodIn_r _ [93, 94, 95, 96, 49, 97, 98, 73, 74, 75, 51, 52, 53, 54, 55, 76, 77, 78, 79, 80, 81, 82, 126, 127, 128] (by decide +kernel) (by decide +kernel)
set_option maxRecDepth 20000 in
theorem gX5_wouldConflict_X4_conflictCount : GoodIn wsX5_wouldConflict (wsV RX5 166 RX4 yX4_conflictCount wsX4_conflictCount) := goodIn_app (goodIn_of _ (by decide +kernel)) ggX5_wouldConflict_X4_conflictCount
set_option maxRecDepth 20000 in
theorem ggX5_isAlike_X5_requireBranch : GoodIn wsX5_isAlike wsX5_requireBranch := goodIn_ca (goodIn_r _ [10, 11, 12, 13, 95, 96, 97, 98, 99, 100, 101, 102, 103, 104, 105] (by decide +kernel) (by decide +kernel)) (goodIn_sub (fun _ h => List.mem_cons_of_mem _ (List.mem_append_right _ h)) (by decide +kernel))
set_option maxRecDepth 20000 in
theorem gX5_isAlike_X5_requireBranch : GoodIn wsX5_isAlike (wsV RX5 94 RX5 yX5_requireBranch wsX5_requireBranch) := goodIn_app (goodIn_of _ (by decide +kernel)) ggX5_isAlike_X5_requireBranch
set_option maxRecDepth 20000 in
theorem ggX5_isAlike_X3_writeMerge : GoodIn wsX5_isAlike wsX3_writeMerge := goodIn_r _ [18, 19, 20, 21, 22, 23, 24, 25, 26, 27, 28, 29, 30, 31, 32, 33, 34, 9, 35, 36, 37, 38, 39, 40, 41, 42, 43, 44, 17, 45, 46, 47, 48, 49, 50, 51, 52, 53, 54, 55, 56, 57, 58, 59, 60, 61, 62, 63, 64, 65, 66, 67, 68, 69, 70, 71, 72, 73, 74, 75, 76, 77, 78, 79, 80, 81, 82, 83, 84, 85, 86, 87, 88, 89, 110, 111, 106, 107, 108, 109, 112, 113, 114, 115, 116, 117, 118, 119, 120, 121, 122, 123, 124, 125, 126, 127] (by decide +kernel) (by decide +kernel)
set_option maxRecDepth 20000 in
theorem gX5_isAlike_X3_writeMerge : GoodIn wsX5_isAlike (wsV RX5 183 RX3 yX3_writeMerge wsX3_writeMerge) := goodIn_app (goodIn_of _ (by decide +kernel)) ggX5_isAlike_X3_writeMerge
set_option maxRecDepth 20000 in
theorem ggX5_isAlike_X4_differenceCount : GoodIn wsX5_isAlike wsX4_differenceCount := goodIn_r _ [93, 94, 47, 48, 49, 50, 51, 52, 53, 54, 55, 122, 123, 124] (by decide +kernel) (by decide +kernel)
set_option maxRecDepth 20000 in
theorem gX5_isAlike_X4_differenceCount : GoodIn wsX5_isAlike (wsV RX5 171 RX4 yX4_differenceCount wsX4_differenceCount) := goodIn_app (goodIn_of _ (by decide +kernel)) ggX5_isAlike_X4_differenceCount
set_option maxRecDepth 20000 in
theorem ggX5_pick_X5_requireBranch : GoodIn wsX5_pick wsX5_requireBranch := goodIn_ca (goodIn_r _ [9, 10, 11, 12, 159, 160, 161, 162, 163, 164, 165, 166, 167, 168, 169] (by decide +kernel) (by decide +kernel)) (goodIn_sub (fun _ h => List.mem_cons_of_mem _ (List.mem_append_left _ (List.mem_append_right _ h))) (by decide +kernel))
set_option maxRecDepth 20000 in
theorem gX5_pick_X5_requireBranch : GoodIn wsX5_pick (wsV RX5 94 RX5 yX5_requireBranch wsX5_requireBranch) := goodIn_app (goodIn_of _ (by decide +kernel)) ggX5_pick_X5_requireBranch
set_option maxRecDepth 20000 in
theorem ggX5_pick_X5_requireCommit : GoodIn wsX5_pick wsX5_requireCommit := goodIn_ca (goodIn_r _ [16, 10, 11, 3, 17, 159, 160, 161, 162, 163, 164, 165, 166, 167, 168, 169, 170, 171, 172, 173, 174, 175, 176, 177, 178, 179] (by decide +kernel) (by decide +kernel)) (goodIn_sub (fun _ h => List.mem_cons_of_mem _ (List.mem_append_left _ (List.mem_append_right _ h))) (by decide +kernel))
set_option maxRecDepth 20000 in
theorem gX5_pick_X5_requireCommit : GoodIn wsX5_pick (wsV RX5 89 RX5 yX5_requireCommit wsX5_requireCommit) := goodIn_app (goodIn_of _ (by decide +kernel)) ggX5_pick_X5_requireCommit
set_option maxRecDepth 20000 in
theorem ggX5_pick_X0_parentCount : GoodIn wsX5_pick wsX0_parentCount := goodIn_r _ [22, 23, 24, 170, 171, 172, 173, 174, 175, 176, 177, 178, 179] (by decide +kernel) (by decide +kernel)
set_option maxRecDepth 20000 in
theorem gX5_pick_X0_parentCount : GoodIn wsX5_pick (wsV RX5 143 RX0 yX0_parentCount wsX0_parentCount) := goodIn_app (goodIn_of _ (by decide +kernel)) ggX5_pick_X0_parentCount
set_option maxRecDepth 20000 in
theorem ggX5_pick_X5_requireRoomForCommit : GoodIn wsX5_pick wsX5_requireRoomForCommit := goodIn_ca (goodIn_r _ [28, 29, 30, 3, 17, 159, 160, 161, 162, 163, 164, 165, 166, 167, 168, 169, 170, 171, 172, 173, 174, 175, 176, 177, 178, 179] (by decide +kernel) (by decide +kernel)) (goodIn_sub (fun _ h => List.mem_cons_of_mem _ (List.mem_append_right _ h)) (by decide +kernel))
set_option maxRecDepth 20000 in
theorem gX5_pick_X5_requireRoomForCommit : GoodIn wsX5_pick (wsV RX5 99 RX5 yX5_requireRoomForCommit wsX5_requireRoomForCommit) := goodIn_app (goodIn_of _ (by decide +kernel)) ggX5_pick_X5_requireRoomForCommit
set_option maxRecDepth 20000 in
theorem ggX5_pick_X0_addPick : GoodIn wsX5_pick wsX0_addPick := goodIn_r _ [34, 35, 36, 37, 38, 21, 39, 40, 41, 23, 24, 42, 43, 44, 8, 45, 46, 47, 48, 49, 50, 51, 170, 171, 172, 173, 174, 175, 176, 177, 178, 179] (by decide +kernel) (by decide +kernel)
set_option maxRecDepth 20000 in
theorem gX5_pick_X0_addPick : GoodIn wsX5_pick (wsV RX5 189 RX0 yX0_addPick wsX0_addPick) := goodIn_app (goodIn_of _ (by decide +kernel)) ggX5_pick_X0_addPick
set_option maxRecDepth 20000 in
theorem ggX5_pick_X5_moveHead : GoodIn wsX5_pick wsX5_moveHead := goodIn_r _ [55, 56, 57, 4, 58, 59, 60, 61, 62, 63, 64, 65, 66, 67, 68, 69, 70, 71, 72, 73, 74, 75, 76, 77, 78, 79, 80, 81, 82, 83, 84, 85, 86, 87, 88, 44, 8, 45, 46, 47, 89, 90, 91, 92, 93, 94, 95, 96, 97, 98, 21, 99, 42, 43, 100, 101, 102, 103, 104, 105, 106, 107, 108, 109, 110, 111, 112, 113, 114, 115, 116, 117, 118, 119, 120, 121, 122, 123, 124, 125, 126, 127, 128, 129, 130, 131, 132, 133, 134, 135, 136, 137, 138, 139, 140, 141, 142, 143, 144, 145, 146, 147, 148, 149, 150, 151, 152, 153, 154, 155, 156, 157, 158, 159, 160, 161, 162, 163, 164, 165, 166, 167, 168, 169, 180, 181, 170, 171, 172, 173, 174, 175, 176, 177, 178, 179, 182, 183, 184, 185, 186, 187, 188, 189, 190, 191] (by decide +kernel) (by decide +kernel)
set_option maxRecDepth 20000 in
theorem gX5_pick_X5_moveHead : GoodIn wsX5_pick (wsV RX5 110 RX5 yX5_moveHead wsX5_moveHead) := goodIn_app (goodIn_of _ (by decide +kernel)) ggX5_pick_X5_moveHead
set_option maxRecDepth 20000 in
theorem ggX5_quote_X5_requireItem : GoodIn wsX5_quote wsX5_requireItem := goodIn_ca (goodIn_r _ [11, 12, 13, 14, 24, 25, 26, 27, 28, 29, 30, 31, 32, 33, 34] (by decide +kernel) (by decide +kernel)) (goodIn_sub (fun _ h => List.mem_cons_of_mem _ (List.mem_append_right _ h)) (by decide +kernel))
set_option maxRecDepth 20000 in
theorem gX5_quote_X5_requireItem : GoodIn wsX5_quote (wsV RX5 85 RX5 yX5_requireItem wsX5_requireItem) := goodIn_app (goodIn_of _ (by decide +kernel)) ggX5_quote_X5_requireItem
set_option maxRecDepth 20000 in
theorem ggX5_quote_X2_add : GoodIn wsX5_quote wsX2_add := goodIn_r _ [19, 20, 21, 22, 23, 35, 36, 37, 38] (by decide +kernel) (by decide +kernel)
set_option maxRecDepth 20000 in
theorem gX5_quote_X2_add : GoodIn wsX5_quote (wsV RX5 196 RX2 yX2_add wsX2_add) := goodIn_app (goodIn_of _ (by decide +kernel)) ggX5_quote_X2_add
set_option maxRecDepth 20000 in
theorem ggX5_isBroken_X5_requireCommit : GoodIn wsX5_isBroken wsX5_requireCommit := goodIn_ca (goodIn_r _ [10, 1, 2, 11, 12, 45, 46, 47, 48, 49, 50, 51, 52, 53, 54, 55, 60, 61, 62, 63, 64, 65, 66, 67, 68, 69] (by decide +kernel) (by decide +kernel)) (goodIn_sub (fun _ h => List.mem_cons_of_mem _ (List.mem_append_right _ h)) (by decide +kernel))
set_option maxRecDepth 20000 in
theorem gX5_isBroken_X5_requireCommit : GoodIn wsX5_isBroken (wsV RX5 89 RX5 yX5_requireCommit wsX5_requireCommit) := goodIn_app (goodIn_of _ (by decide +kernel)) ggX5_isBroken_X5_requireCommit
set_option maxRecDepth 20000 in
theorem ggX5_isBroken_X2_stateIn : GoodIn wsX5_isBroken wsX2_stateIn := goodIn_r _ [17, 18, 19, 20, 21, 22, 23, 24, 25, 26, 27, 28, 29, 30, 31, 32, 33, 34, 35, 36, 37, 38, 39, 40, 41, 42, 43, 44, 56, 57, 58, 59, 70, 71, 72, 73, 74, 75] (by decide +kernel) (by decide +kernel)
set_option maxRecDepth 20000 in
theorem gX5_isBroken_X2_stateIn : GoodIn wsX5_isBroken (wsV RX5 204 RX2 yX2_stateIn wsX2_stateIn) := goodIn_app (goodIn_of _ (by decide +kernel)) ggX5_isBroken_X2_stateIn
set_option maxRecDepth 20000 in
theorem ggX5_broken_X5_requireCommit : GoodIn wsX5_broken wsX5_requireCommit := goodIn_ca (goodIn_r _ [8, 9, 10, 11, 12, 45, 46, 47, 48, 49, 50, 51, 52, 53, 54, 55, 60, 61, 62, 63, 64, 65, 66, 67, 68, 69] (by decide +kernel) (by decide +kernel)) (goodIn_sub (fun _ h => List.mem_cons_of_mem _ (List.mem_append_right _ h)) (by decide +kernel))
set_option maxRecDepth 20000 in
theorem gX5_broken_X5_requireCommit : GoodIn wsX5_broken (wsV RX5 89 RX5 yX5_requireCommit wsX5_requireCommit) := goodIn_app (goodIn_of _ (by decide +kernel)) ggX5_broken_X5_requireCommit
set_option maxRecDepth 20000 in
theorem ggX5_broken_X2_stateIn : GoodIn wsX5_broken wsX2_stateIn := goodIn_r _ [17, 18, 19, 20, 21, 22, 23, 24, 25, 26, 27, 28, 29, 30, 31, 32, 33, 34, 35, 36, 37, 38, 39, 40, 41, 42, 43, 44, 56, 57, 58, 59, 70, 71, 72, 73, 74, 75] (by decide +kernel) (by decide +kernel)
set_option maxRecDepth 20000 in
theorem gX5_broken_X2_stateIn : GoodIn wsX5_broken (wsV RX5 204 RX2 yX2_stateIn wsX2_stateIn) := goodIn_app (goodIn_of _ (by decide +kernel)) ggX5_broken_X2_stateIn
set_option maxRecDepth 20000 in
theorem ggX5_sum_X5_requireCommit : GoodIn wsX5_sum wsX5_requireCommit := goodIn_ca (goodIn_r _ [7, 8, 9, 10, 11, 46, 47, 48, 49, 50, 51, 52, 53, 54, 55, 56, 57, 58, 59, 60, 61, 62, 63, 64, 65, 66] (by decide +kernel) (by decide +kernel)) (goodIn_sub (fun _ h => List.mem_cons_of_mem _ (List.mem_append_right _ h)) (by decide +kernel))
set_option maxRecDepth 20000 in
theorem gX5_sum_X5_requireCommit : GoodIn wsX5_sum (wsV RX5 89 RX5 yX5_requireCommit wsX5_requireCommit) := goodIn_app (goodIn_of _ (by decide +kernel)) ggX5_sum_X5_requireCommit
set_option maxRecDepth 20000 in
theorem ggX5_sum_X4_holdsConflict : GoodIn wsX5_sum wsX4_holdsConflict := goodIn_r _ [16, 17, 18, 19, 15, 20, 21, 22, 23, 24, 25, 26, 27, 28, 29, 30, 31, 32, 67, 68, 69] (by decide +kernel) (by decide +kernel)
set_option maxRecDepth 20000 in
theorem gX5_sum_X4_holdsConflict : GoodIn wsX5_sum (wsV RX5 123 RX4 yX4_holdsConflict wsX4_holdsConflict) := goodIn_app (goodIn_of _ (by decide +kernel)) ggX5_sum_X4_holdsConflict
set_option maxRecDepth 20000 in
theorem ggX5_sum_X4_holdsNothingElse : GoodIn wsX5_sum wsX4_holdsNothingElse := goodIn_r _ [36, 21, 22, 23, 24, 15, 25, 37, 6, 38, 67, 68, 69] (by decide +kernel) (by decide +kernel)
set_option maxRecDepth 20000 in
theorem gX5_sum_X4_holdsNothingElse : GoodIn wsX5_sum (wsV RX5 114 RX4 yX4_holdsNothingElse wsX4_holdsNothingElse) := goodIn_app (goodIn_of _ (by decide +kernel)) ggX5_sum_X4_holdsNothingElse
set_option maxRecDepth 20000 in
theorem ggX5_sum_X4_loneValue : GoodIn wsX5_sum wsX4_loneValue := goodIn_r _ [42, 21, 22, 43, 44, 45, 23, 24, 15, 25, 26, 27, 28, 29, 30, 31, 32, 67, 68, 69, 70, 71, 72] (by decide +kernel) (by decide +kernel)
set_option maxRecDepth 20000 in
theorem gX5_sum_X4_loneValue : GoodIn wsX5_sum (wsV RX5 208 RX4 yX4_loneValue wsX4_loneValue) := goodIn_app (goodIn_of _ (by decide +kernel)) ggX5_sum_X4_loneValue
set_option maxRecDepth 20000 in
theorem ggX5_conflictShare_X5_requireCommit : GoodIn wsX5_conflictShare wsX5_requireCommit := goodIn_ca (goodIn_r _ [9, 10, 11, 12, 13, 39, 40, 41, 42, 43, 44, 45, 46, 47, 48, 49, 50, 51, 52, 53, 54, 55, 56, 57, 58, 59] (by decide +kernel) (by decide +kernel)) (goodIn_sub (fun _ h => List.mem_cons_of_mem _ (List.mem_append_right _ h)) (by decide +kernel))
set_option maxRecDepth 20000 in
theorem gX5_conflictShare_X5_requireCommit : GoodIn wsX5_conflictShare (wsV RX5 89 RX5 yX5_requireCommit wsX5_requireCommit) := goodIn_app (goodIn_of _ (by decide +kernel)) ggX5_conflictShare_X5_requireCommit
set_option maxRecDepth 20000 in
theorem ggX5_conflictShare_X4_conflictCount : GoodIn wsX5_conflictShare wsX4_conflictCount := goodIn_r _ [18, 19, 20, 21, 17, 22, 23, 24, 25, 26, 27, 28, 29, 30, 31, 32, 33, 34, 35, 36, 37, 38, 60, 61, 62] (by decide +kernel) (by decide +kernel)
set_option maxRecDepth 20000 in
theorem gX5_conflictShare_X4_conflictCount : GoodIn wsX5_conflictShare (wsV RX5 166 RX4 yX4_conflictCount wsX4_conflictCount) := goodIn_app (goodIn_of _ (by decide +kernel)) ggX5_conflictShare_X4_conflictCount
set_option maxRecDepth 20000 in
theorem ggX5_requireSide_X4_sideAtIndex : GoodIn wsX5_requireSide wsX4_sideAtIndex := goodIn_r _ [7, 8, 9, 10, 11, 12, 13, 6, 14, 15, 16, 17, 18, 19, 20, 21, 22, 23, 24, 25, 26, 27, 28, 29, 30, 31, 32, 33, 34, 35] (by decide +kernel) (by decide +kernel)
set_option maxRecDepth 20000 in
theorem gX5_requireSide_X4_sideAtIndex : GoodIn wsX5_requireSide (wsV RX5 223 RX4 yX4_sideAtIndex wsX4_sideAtIndex) := goodIn_app (goodIn_of _ (by decide +kernel)) ggX5_requireSide_X4_sideAtIndex
set_option maxRecDepth 20000 in
theorem ggX5_moveHead_X3_write : GoodIn wsX5_moveHead wsX3_write := goodIn_r _ [8, 9, 10, 11, 12, 13, 14, 15, 16, 17, 18, 19, 20, 21, 22, 23, 24, 25, 26, 27, 28, 29, 30, 31, 32, 33, 34, 35, 36, 37, 38, 39, 40, 41, 42, 7, 43, 44, 45, 46, 47, 48, 49, 50, 51, 52, 53, 54, 55, 56, 57, 58, 59, 60, 61, 62, 63, 64, 65, 66, 67, 68, 69, 70, 71, 72, 73, 74, 75, 76, 77, 78, 79, 80, 81, 82, 83, 84, 85, 86, 87, 88, 89, 90, 91, 92, 93, 94, 95, 96, 97, 98, 99, 100, 101, 102, 103, 104, 105, 106, 107, 108, 109, 110, 111, 112, 124, 125, 126, 127, 128, 129, 130, 131, 132, 133, 134, 135, 136, 137, 138, 139, 140, 141, 142, 143, 144, 145] (by decide +kernel) (by decide +kernel)
set_option maxRecDepth 20000 in
theorem gX5_moveHead_X3_write : GoodIn wsX5_moveHead (wsV RX5 66 RX3 yX3_write wsX3_write) := goodIn_app (goodIn_of _ (by decide +kernel)) ggX5_moveHead_X3_write
set_option maxRecDepth 20000 in
theorem ggX5_findBlame_X5_findSameParent : GoodIn wsX5_findBlame wsX5_findSameParent := goodIn_r _ [5, 6, 7, 8, 9, 10, 11, 12, 13, 14, 15, 16, 17, 18, 19, 20, 21, 22, 23, 24, 25, 26, 27, 28, 29, 30, 31, 32, 33, 34, 35, 36, 37, 38, 39, 40, 41, 42, 43] (by decide +kernel) (by decide +kernel)
set_option maxRecDepth 20000 in
theorem gX5_findBlame_X5_findSameParent : GoodIn wsX5_findBlame (wsV RX5 228 RX5 yX5_findSameParent wsX5_findSameParent) := goodIn_app (goodIn_of _ (by decide +kernel)) ggX5_findBlame_X5_findSameParent
set_option maxRecDepth 20000 in
theorem ggX5_findSameParent_X4_holdsSame : GoodIn wsX5_findSameParent wsX4_holdsSame := goodIn_r _ [9, 10, 11, 12, 13, 8, 14, 36, 37, 38] (by decide +kernel) (by decide +kernel)
set_option maxRecDepth 20000 in
theorem gX5_findSameParent_X4_holdsSame : GoodIn wsX5_findSameParent (wsV RX5 231 RX4 yX4_holdsSame wsX4_holdsSame) := goodIn_app (goodIn_of _ (by decide +kernel)) ggX5_findSameParent_X4_holdsSame
set_option maxRecDepth 20000 in
theorem ggX5_hasNumber_X5_lowBit : GoodIn wsX5_hasNumber wsX5_lowBit := goodIn_r _ [4] (by decide +kernel) (by decide +kernel)
set_option maxRecDepth 20000 in
theorem gX5_hasNumber_X5_lowBit : GoodIn wsX5_hasNumber (va_wsS RX5 235 yX5_lowBit wsX5_lowBit) := goodIn_app (goodIn_of _ (by decide +kernel)) ggX5_hasNumber_X5_lowBit
set_option maxRecDepth 20000 in
theorem ggX5_hasNumber_X5_highBit : GoodIn wsX5_hasNumber wsX5_highBit := goodIn_r _ [7] (by decide +kernel) (by decide +kernel)
set_option maxRecDepth 20000 in
theorem gX5_hasNumber_X5_highBit : GoodIn wsX5_hasNumber (va_wsS RX5 239 yX5_highBit wsX5_highBit) := goodIn_app (goodIn_of _ (by decide +kernel)) ggX5_hasNumber_X5_highBit
set_option maxRecDepth 20000 in
theorem ggX6_isNoItem_X6_in : GoodIn wsX6_isNoItem wsX6_in := goodIn_r _ [5] (by decide +kernel) (by decide +kernel)
set_option maxRecDepth 20000 in
theorem gX6_isNoItem_X6_in : GoodIn wsX6_isNoItem (va_wsS RX6 79 yX6_in wsX6_in) := goodIn_app (goodIn_of _ (by decide +kernel)) ggX6_isNoItem_X6_in
set_option maxRecDepth 20000 in
theorem ggX6_isNoCommit_X6_in : GoodIn wsX6_isNoCommit wsX6_in := goodIn_r _ [5] (by decide +kernel) (by decide +kernel)
set_option maxRecDepth 20000 in
theorem gX6_isNoCommit_X6_in : GoodIn wsX6_isNoCommit (va_wsS RX6 79 yX6_in wsX6_in) := goodIn_app (goodIn_of _ (by decide +kernel)) ggX6_isNoCommit_X6_in
set_option maxRecDepth 20000 in
theorem ggX6_isNoBranch_X6_in : GoodIn wsX6_isNoBranch wsX6_in := goodIn_r _ [5] (by decide +kernel) (by decide +kernel)
set_option maxRecDepth 20000 in
theorem gX6_isNoBranch_X6_in : GoodIn wsX6_isNoBranch (va_wsS RX6 79 yX6_in wsX6_in) := goodIn_app (goodIn_of _ (by decide +kernel)) ggX6_isNoBranch_X6_in
set_option maxRecDepth 20000 in
theorem ggX6_isNone_X6_isNoCommit : GoodIn wsX6_isNone wsX6_isNoCommit := goodIn_r _ [5, 6, 7, 8, 4, 9, 15, 16, 17, 18, 19, 20, 21, 22, 23, 24, 25, 26, 27, 28, 29, 30, 31, 32, 33, 34, 35, 36, 37] (by decide +kernel) (by decide +kernel)
set_option maxRecDepth 20000 in
theorem gX6_isNone_X6_isNoCommit : GoodIn wsX6_isNone (wsV RX6 83 RX6 yX6_isNoCommit wsX6_isNoCommit) := goodIn_app (goodIn_of _ (by decide +kernel)) ggX6_isNone_X6_isNoCommit
set_option maxRecDepth 20000 in
theorem ggX6_isNone_X6_fails : GoodIn wsX6_isNone wsX6_fails := goodIn_r _ [13, 14, 15, 16, 17, 18, 19, 20, 21, 22, 23, 24, 25, 26, 27, 28, 29, 30, 31, 32, 33, 34, 35, 36, 37] (by decide +kernel) (by decide +kernel)
set_option maxRecDepth 20000 in
theorem gX6_isNone_X6_fails : GoodIn wsX6_isNone (wsV RX6 87 RX6 yX6_fails wsX6_fails) := goodIn_app (goodIn_of _ (by decide +kernel)) ggX6_isNone_X6_fails
set_option maxRecDepth 20000 in
theorem ggX6_count_X6_has : GoodIn wsX6_count wsX6_has := goodIn_r _ [5] (by decide +kernel) (by decide +kernel)
set_option maxRecDepth 20000 in
theorem gX6_count_X6_has : GoodIn wsX6_count (va_wsS RX6 90 yX6_has wsX6_has) := goodIn_app (goodIn_of _ (by decide +kernel)) ggX6_count_X6_has
set_option maxRecDepth 20000 in
theorem ggX6_sideOf_X6_has : GoodIn wsX6_sideOf wsX6_has := goodIn_r _ [6] (by decide +kernel) (by decide +kernel)
set_option maxRecDepth 20000 in
theorem gX6_sideOf_X6_has : GoodIn wsX6_sideOf (va_wsS RX6 90 yX6_has wsX6_has) := goodIn_app (goodIn_of _ (by decide +kernel)) ggX6_sideOf_X6_has
set_option maxRecDepth 20000 in
theorem ggX6_isSame_X6_at : GoodIn wsX6_isSame wsX6_at := goodIn_r _ [6] (by decide +kernel) (by decide +kernel)
set_option maxRecDepth 20000 in
theorem gX6_isSame_X6_at : GoodIn wsX6_isSame (va_wsS RX6 94 yX6_at wsX6_at) := goodIn_app (goodIn_of _ (by decide +kernel)) ggX6_isSame_X6_at
set_option maxRecDepth 20000 in
theorem ggX6_sidesIn_X6_at : GoodIn wsX6_sidesIn wsX6_at := goodIn_r _ [6] (by decide +kernel) (by decide +kernel)
set_option maxRecDepth 20000 in
theorem gX6_sidesIn_X6_at : GoodIn wsX6_sidesIn (va_wsS RX6 94 yX6_at wsX6_at) := goodIn_app (goodIn_of _ (by decide +kernel)) ggX6_sidesIn_X6_at
set_option maxRecDepth 20000 in
theorem ggX6_sidesIn_X6_count : GoodIn wsX6_sidesIn wsX6_count := goodIn_r _ [10, 11, 12, 13, 5, 14, 15, 16, 17, 18, 19, 20, 21, 22, 23, 24, 25, 26, 27, 28, 29, 30, 31, 32, 33, 34, 35, 36, 37] (by decide +kernel) (by decide +kernel)
set_option maxRecDepth 20000 in
theorem gX6_sidesIn_X6_count : GoodIn wsX6_sidesIn (wsV RX6 98 RX6 yX6_count wsX6_count) := goodIn_app (goodIn_of _ (by decide +kernel)) ggX6_sidesIn_X6_count
set_option maxRecDepth 20000 in
theorem ggX6_addItem_X6_fails : GoodIn wsX6_addItem wsX6_fails := goodIn_r _ [8, 9, 13, 14, 15, 16, 17, 18, 19, 20, 21, 22, 23, 24, 25, 26, 27, 28, 29, 30, 31, 32, 33, 34, 35] (by decide +kernel) (by decide +kernel)
set_option maxRecDepth 20000 in
theorem gX6_addItem_X6_fails : GoodIn wsX6_addItem (wsV RX6 87 RX6 yX6_fails wsX6_fails) := goodIn_app (goodIn_of _ (by decide +kernel)) ggX6_addItem_X6_fails
set_option maxRecDepth 20000 in
theorem ggX6_addItem_X6_at : GoodIn wsX6_addItem wsX6_at := goodIn_r _ [12] (by decide +kernel) (by decide +kernel)
set_option maxRecDepth 20000 in
theorem gX6_addItem_X6_at : GoodIn wsX6_addItem (va_wsS RX6 94 yX6_at wsX6_at) := goodIn_app (goodIn_of _ (by decide +kernel)) ggX6_addItem_X6_at
set_option maxRecDepth 20000 in
theorem ggX6_kindOf_X6_isNoItem : GoodIn wsX6_kindOf wsX6_isNoItem := goodIn_r _ [6, 7, 8, 9, 5, 10, 16, 17, 18, 19, 20, 21, 22, 23, 24, 25, 26, 27, 28, 29, 30, 31, 32, 33, 34, 35, 36, 37, 38] (by decide +kernel) (by decide +kernel)
set_option maxRecDepth 20000 in
theorem gX6_kindOf_X6_isNoItem : GoodIn wsX6_kindOf (wsV RX6 102 RX6 yX6_isNoItem wsX6_isNoItem) := goodIn_app (goodIn_of _ (by decide +kernel)) ggX6_kindOf_X6_isNoItem
set_option maxRecDepth 20000 in
theorem ggX6_kindOf_X6_fails : GoodIn wsX6_kindOf wsX6_fails := goodIn_r _ [14, 15, 16, 17, 18, 19, 20, 21, 22, 23, 24, 25, 26, 27, 28, 29, 30, 31, 32, 33, 34, 35, 36, 37, 38] (by decide +kernel) (by decide +kernel)
set_option maxRecDepth 20000 in
theorem gX6_kindOf_X6_fails : GoodIn wsX6_kindOf (wsV RX6 87 RX6 yX6_fails wsX6_fails) := goodIn_app (goodIn_of _ (by decide +kernel)) ggX6_kindOf_X6_fails
set_option maxRecDepth 20000 in
theorem ggX6_addBranch_X6_isNone : GoodIn wsX6_addBranch wsX6_isNone := goodIn_r _ [7, 8, 9, 10, 6, 11, 12, 13, 14, 15, 16, 17, 18, 19, 20, 21, 22, 23, 24, 25, 26, 27, 28, 29, 30, 31, 32, 33, 34, 35, 36, 37, 38, 39, 40, 41, 42, 43] (by decide +kernel) (by decide +kernel)
set_option maxRecDepth 20000 in
theorem gX6_addBranch_X6_isNone : GoodIn wsX6_addBranch (wsV RX6 105 RX6 yX6_isNone wsX6_isNone) := goodIn_app (goodIn_of _ (by decide +kernel)) ggX6_addBranch_X6_isNone
set_option maxRecDepth 20000 in
theorem ggX6_addBranch_X6_fails : GoodIn wsX6_addBranch wsX6_fails := goodIn_r _ [19, 20, 21, 22, 23, 24, 25, 26, 27, 28, 29, 30, 31, 32, 33, 34, 35, 36, 37, 38, 39, 40, 41, 42, 43] (by decide +kernel) (by decide +kernel)
set_option maxRecDepth 20000 in
theorem gX6_addBranch_X6_fails : GoodIn wsX6_addBranch (wsV RX6 87 RX6 yX6_fails wsX6_fails) := goodIn_app (goodIn_of _ (by decide +kernel)) ggX6_addBranch_X6_fails
set_option maxRecDepth 20000 in
theorem ggX6_head_X6_isNoBranch : GoodIn wsX6_head wsX6_isNoBranch := goodIn_r _ [6, 7, 8, 9, 5, 10, 16, 17, 18, 19, 20, 21, 22, 23, 24, 25, 26, 27, 28, 29, 30, 31, 32, 33, 34, 35, 36, 37, 38] (by decide +kernel) (by decide +kernel)
set_option maxRecDepth 20000 in
theorem gX6_head_X6_isNoBranch : GoodIn wsX6_head (wsV RX6 108 RX6 yX6_isNoBranch wsX6_isNoBranch) := goodIn_app (goodIn_of _ (by decide +kernel)) ggX6_head_X6_isNoBranch
set_option maxRecDepth 20000 in
theorem ggX6_head_X6_fails : GoodIn wsX6_head wsX6_fails := goodIn_r _ [14, 15, 16, 17, 18, 19, 20, 21, 22, 23, 24, 25, 26, 27, 28, 29, 30, 31, 32, 33, 34, 35, 36, 37, 38] (by decide +kernel) (by decide +kernel)
set_option maxRecDepth 20000 in
theorem gX6_head_X6_fails : GoodIn wsX6_head (wsV RX6 87 RX6 yX6_fails wsX6_fails) := goodIn_app (goodIn_of _ (by decide +kernel)) ggX6_head_X6_fails
set_option maxRecDepth 20000 in
theorem ggX6_makes_X6_at : GoodIn wsX6_makes wsX6_at := goodIn_r _ [13] (by decide +kernel) (by decide +kernel)
set_option maxRecDepth 20000 in
theorem gX6_makes_X6_at : GoodIn wsX6_makes (va_wsS RX6 94 yX6_at wsX6_at) := goodIn_app (goodIn_of _ (by decide +kernel)) ggX6_makes_X6_at
set_option maxRecDepth 20000 in
theorem ggX6_changes_X6_makes : GoodIn wsX6_changes wsX6_makes := goodIn_r _ [7, 8, 9, 1, 10, 2, 11, 12, 13, 14, 15, 16, 6, 17, 18, 19, 20, 21, 22, 23, 24, 25, 26, 27, 28, 29, 30, 31, 32, 33, 34, 35, 36, 37, 38, 39, 40] (by decide +kernel) (by decide +kernel)
set_option maxRecDepth 20000 in
theorem gX6_changes_X6_makes : GoodIn wsX6_changes (wsV RX6 111 RX6 yX6_makes wsX6_makes) := goodIn_app (goodIn_of _ (by decide +kernel)) ggX6_changes_X6_makes
set_option maxRecDepth 20000 in
theorem ggX6_changes_X6_at : GoodIn wsX6_changes wsX6_at := goodIn_r _ [17] (by decide +kernel) (by decide +kernel)
set_option maxRecDepth 20000 in
theorem gX6_changes_X6_at : GoodIn wsX6_changes (va_wsS RX6 94 yX6_at wsX6_at) := goodIn_app (goodIn_of _ (by decide +kernel)) ggX6_changes_X6_at
set_option maxRecDepth 20000 in
theorem ggX6_isNowhere_X6_isNoBranch : GoodIn wsX6_isNowhere wsX6_isNoBranch := goodIn_r _ [5, 6, 7, 8, 4, 9, 20, 21, 22, 23, 24, 25, 26, 27, 28, 29, 30, 31, 32, 33, 34, 35, 36, 37, 38, 39, 40, 41, 42] (by decide +kernel) (by decide +kernel)
set_option maxRecDepth 20000 in
theorem gX6_isNowhere_X6_isNoBranch : GoodIn wsX6_isNowhere (wsV RX6 108 RX6 yX6_isNoBranch wsX6_isNoBranch) := goodIn_app (goodIn_of _ (by decide +kernel)) ggX6_isNowhere_X6_isNoBranch
set_option maxRecDepth 20000 in
theorem ggX6_isNowhere_X6_isNoItem : GoodIn wsX6_isNowhere wsX6_isNoItem := goodIn_r _ [13, 14, 7, 8, 4, 9, 20, 21, 22, 23, 24, 25, 26, 27, 28, 29, 30, 31, 32, 33, 34, 35, 36, 37, 38, 39, 40, 41, 42] (by decide +kernel) (by decide +kernel)
set_option maxRecDepth 20000 in
theorem gX6_isNowhere_X6_isNoItem : GoodIn wsX6_isNowhere (wsV RX6 102 RX6 yX6_isNoItem wsX6_isNoItem) := goodIn_app (goodIn_of _ (by decide +kernel)) ggX6_isNowhere_X6_isNoItem
set_option maxRecDepth 20000 in
theorem ggX6_isNowhere_X6_fails : GoodIn wsX6_isNowhere wsX6_fails := goodIn_r _ [18, 19, 20, 21, 22, 23, 24, 25, 26, 27, 28, 29, 30, 31, 32, 33, 34, 35, 36, 37, 38, 39, 40, 41, 42] (by decide +kernel) (by decide +kernel)
set_option maxRecDepth 20000 in
theorem gX6_isNowhere_X6_fails : GoodIn wsX6_isNowhere (wsV RX6 87 RX6 yX6_fails wsX6_fails) := goodIn_app (goodIn_of _ (by decide +kernel)) ggX6_isNowhere_X6_fails
set_option maxRecDepth 20000 in
theorem ggX6_set_X6_isNowhere : GoodIn wsX6_set wsX6_isNowhere := goodIn_r _ [5, 6, 7, 8, 4, 9, 10, 11, 12, 13, 14, 15, 16, 17, 18, 19, 20, 21, 22, 23, 53, 54, 55, 56, 57, 58, 59, 60, 61, 62, 63, 64, 65, 66, 67, 68, 69, 70, 71, 72, 73, 74, 75] (by decide +kernel) (by decide +kernel)
set_option maxRecDepth 20000 in
theorem gX6_set_X6_isNowhere : GoodIn wsX6_set (wsV RX6 114 RX6 yX6_isNowhere wsX6_isNowhere) := goodIn_app (goodIn_of _ (by decide +kernel)) ggX6_set_X6_isNowhere
set_option maxRecDepth 20000 in
theorem ggX6_set_X6_in : GoodIn wsX6_set wsX6_in := goodIn_r _ [13] (by decide +kernel) (by decide +kernel)
set_option maxRecDepth 20000 in
theorem gX6_set_X6_in : GoodIn wsX6_set (va_wsS RX6 79 yX6_in wsX6_in) := goodIn_app (goodIn_of _ (by decide +kernel)) ggX6_set_X6_in
set_option maxRecDepth 20000 in
theorem ggX6_set_X6_full : GoodIn wsX6_set wsX6_full := goodIn_r _ [27, 28, 53, 54, 55, 56, 57, 58, 59, 60, 61, 62, 63, 64, 65, 66, 67, 68, 69, 70, 71, 72, 73, 74, 75] (by decide +kernel) (by decide +kernel)
set_option maxRecDepth 20000 in
theorem gX6_set_X6_full : GoodIn wsX6_set (wsV RX6 118 RX6 yX6_full wsX6_full) := goodIn_app (goodIn_of _ (by decide +kernel)) ggX6_set_X6_full
set_option maxRecDepth 20000 in
theorem ggX6_set_X6_fails : GoodIn wsX6_set wsX6_fails := goodIn_r _ [22, 23, 53, 54, 55, 56, 57, 58, 59, 60, 61, 62, 63, 64, 65, 66, 67, 68, 69, 70, 71, 72, 73, 74, 75] (by decide +kernel) (by decide +kernel)
set_option maxRecDepth 20000 in
theorem gX6_set_X6_fails : GoodIn wsX6_set (wsV RX6 87 RX6 yX6_fails wsX6_fails) := goodIn_app (goodIn_of _ (by decide +kernel)) ggX6_set_X6_fails
set_option maxRecDepth 20000 in
theorem ggX6_set_X6_numberOf : GoodIn wsX6_set wsX6_numberOf := goodIn_r _ [32, 33, 34, 53, 54, 55, 56, 57, 58, 59, 60, 61, 62, 63, 64, 65, 66, 67, 68, 69, 70, 71, 72, 73, 74, 75] (by decide +kernel) (by decide +kernel)
set_option maxRecDepth 20000 in
theorem gX6_set_X6_numberOf : GoodIn wsX6_set (wsV RX6 122 RX6 yX6_numberOf wsX6_numberOf) := goodIn_app (goodIn_of _ (by decide +kernel)) ggX6_set_X6_numberOf
set_option maxRecDepth 20000 in
theorem ggX6_set_X6_changes : GoodIn wsX6_set wsX6_changes := goodIn_r _ [38, 39, 40, 41, 42, 43, 4, 44, 45, 18, 28, 46, 47, 48, 49, 50, 51, 52, 53, 54, 55, 56, 57, 58, 59, 60, 61, 62, 63, 64, 65, 66, 67, 68, 69, 70, 71, 72, 73, 74, 75] (by decide +kernel) (by decide +kernel)
set_option maxRecDepth 20000 in
theorem gX6_set_X6_changes : GoodIn wsX6_set (wsV RX6 126 RX6 yX6_changes wsX6_changes) := goodIn_app (goodIn_of _ (by decide +kernel)) ggX6_set_X6_changes
set_option maxRecDepth 20000 in
theorem ggX6_clear_X6_isNowhere : GoodIn wsX6_clear wsX6_isNowhere := goodIn_r _ [8, 9, 10, 11, 7, 12, 13, 14, 15, 16, 17, 18, 19, 20, 21, 22, 23, 24, 25, 26, 47, 48, 49, 50, 51, 52, 53, 54, 55, 56, 57, 58, 59, 60, 61, 62, 63, 64, 65, 66, 67, 68, 69] (by decide +kernel) (by decide +kernel)
set_option maxRecDepth 20000 in
theorem gX6_clear_X6_isNowhere : GoodIn wsX6_clear (wsV RX6 114 RX6 yX6_isNowhere wsX6_isNowhere) := goodIn_app (goodIn_of _ (by decide +kernel)) ggX6_clear_X6_isNowhere
set_option maxRecDepth 20000 in
theorem ggX6_clear_X6_at : GoodIn wsX6_clear wsX6_at := goodIn_r _ [29] (by decide +kernel) (by decide +kernel)
set_option maxRecDepth 20000 in
theorem gX6_clear_X6_at : GoodIn wsX6_clear (va_wsS RX6 94 yX6_at wsX6_at) := goodIn_app (goodIn_of _ (by decide +kernel)) ggX6_clear_X6_at
set_option maxRecDepth 20000 in
theorem ggX6_clear_X6_full : GoodIn wsX6_clear wsX6_full := goodIn_r _ [33, 34, 47, 48, 49, 50, 51, 52, 53, 54, 55, 56, 57, 58, 59, 60, 61, 62, 63, 64, 65, 66, 67, 68, 69] (by decide +kernel) (by decide +kernel)
set_option maxRecDepth 20000 in
theorem gX6_clear_X6_full : GoodIn wsX6_clear (wsV RX6 118 RX6 yX6_full wsX6_full) := goodIn_app (goodIn_of _ (by decide +kernel)) ggX6_clear_X6_full
set_option maxRecDepth 20000 in
theorem ggX6_clear_X6_fails : GoodIn wsX6_clear wsX6_fails := goodIn_r _ [25, 26, 47, 48, 49, 50, 51, 52, 53, 54, 55, 56, 57, 58, 59, 60, 61, 62, 63, 64, 65, 66, 67, 68, 69] (by decide +kernel) (by decide +kernel)
set_option maxRecDepth 20000 in
theorem gX6_clear_X6_fails : GoodIn wsX6_clear (wsV RX6 87 RX6 yX6_fails wsX6_fails) := goodIn_app (goodIn_of _ (by decide +kernel)) ggX6_clear_X6_fails
set_option maxRecDepth 20000 in
theorem ggX6_clear_X6_changes : GoodIn wsX6_clear wsX6_changes := goodIn_r _ [38, 2, 3, 39, 40, 41, 7, 42, 1, 21, 34, 43, 44, 45, 46, 27, 28, 29, 47, 48, 49, 50, 51, 52, 53, 54, 55, 56, 57, 58, 59, 60, 61, 62, 63, 64, 65, 66, 67, 68, 69] (by decide +kernel) (by decide +kernel)
set_option maxRecDepth 20000 in
theorem gX6_clear_X6_changes : GoodIn wsX6_clear (wsV RX6 126 RX6 yX6_changes wsX6_changes) := goodIn_app (goodIn_of _ (by decide +kernel)) ggX6_clear_X6_changes
set_option maxRecDepth 20000 in
theorem ggX6_settle_X6_isNowhere : GoodIn wsX6_settle wsX6_isNowhere := goodIn_r _ [8, 9, 10, 11, 7, 12, 13, 14, 15, 16, 17, 18, 19, 20, 21, 22, 23, 24, 25, 26, 64, 65, 66, 67, 68, 69, 70, 71, 72, 73, 74, 75, 76, 77, 78, 79, 80, 81, 82, 83, 84, 85, 86] (by decide +kernel) (by decide +kernel)
set_option maxRecDepth 20000 in
theorem gX6_settle_X6_isNowhere : GoodIn wsX6_settle (wsV RX6 114 RX6 yX6_isNowhere wsX6_isNowhere) := goodIn_app (goodIn_of _ (by decide +kernel)) ggX6_settle_X6_isNowhere
set_option maxRecDepth 20000 in
theorem ggX6_settle_X6_sidesIn : GoodIn wsX6_settle wsX6_sidesIn := goodIn_r _ [30, 2, 3, 31, 32, 7, 33, 34, 35, 36, 37, 38, 39, 40, 41, 64, 65, 66, 67, 68, 69, 70, 71, 72, 73, 74, 75, 76, 77, 78, 79, 80, 81, 82, 83, 84, 85, 86] (by decide +kernel) (by decide +kernel)
set_option maxRecDepth 20000 in
theorem gX6_settle_X6_sidesIn : GoodIn wsX6_settle (wsV RX6 130 RX6 yX6_sidesIn wsX6_sidesIn) := goodIn_app (goodIn_of _ (by decide +kernel)) ggX6_settle_X6_sidesIn
set_option maxRecDepth 20000 in
theorem ggX6_settle_X6_in : GoodIn wsX6_settle wsX6_in := goodIn_r _ [16] (by decide +kernel) (by decide +kernel)
set_option maxRecDepth 20000 in
theorem gX6_settle_X6_in : GoodIn wsX6_settle (va_wsS RX6 79 yX6_in wsX6_in) := goodIn_app (goodIn_of _ (by decide +kernel)) ggX6_settle_X6_in
set_option maxRecDepth 20000 in
theorem ggX6_settle_X6_full : GoodIn wsX6_settle wsX6_full := goodIn_r _ [45, 46, 64, 65, 66, 67, 68, 69, 70, 71, 72, 73, 74, 75, 76, 77, 78, 79, 80, 81, 82, 83, 84, 85, 86] (by decide +kernel) (by decide +kernel)
set_option maxRecDepth 20000 in
theorem gX6_settle_X6_full : GoodIn wsX6_settle (wsV RX6 118 RX6 yX6_full wsX6_full) := goodIn_app (goodIn_of _ (by decide +kernel)) ggX6_settle_X6_full
set_option maxRecDepth 20000 in
theorem ggX6_settle_X6_fails : GoodIn wsX6_settle wsX6_fails := goodIn_r _ [25, 26, 64, 65, 66, 67, 68, 69, 70, 71, 72, 73, 74, 75, 76, 77, 78, 79, 80, 81, 82, 83, 84, 85, 86] (by decide +kernel) (by decide +kernel)
set_option maxRecDepth 20000 in
theorem gX6_settle_X6_fails : GoodIn wsX6_settle (wsV RX6 87 RX6 yX6_fails wsX6_fails) := goodIn_app (goodIn_of _ (by decide +kernel)) ggX6_settle_X6_fails
set_option maxRecDepth 20000 in
theorem ggX6_settle_X6_at : GoodIn wsX6_settle wsX6_at := goodIn_r _ [33] (by decide +kernel) (by decide +kernel)
set_option maxRecDepth 20000 in
theorem gX6_settle_X6_at : GoodIn wsX6_settle (va_wsS RX6 94 yX6_at wsX6_at) := goodIn_app (goodIn_of _ (by decide +kernel)) ggX6_settle_X6_at
set_option maxRecDepth 20000 in
theorem ggX6_settle_X6_sideOf : GoodIn wsX6_settle wsX6_sideOf := goodIn_r _ [50, 38, 51, 39, 40, 7, 41, 64, 65, 66, 67, 68, 69, 70, 71, 72, 73, 74, 75, 76, 77, 78, 79, 80, 81, 82, 83, 84, 85, 86] (by decide +kernel) (by decide +kernel)
set_option maxRecDepth 20000 in
theorem gX6_settle_X6_sideOf : GoodIn wsX6_settle (wsV RX6 133 RX6 yX6_sideOf wsX6_sideOf) := goodIn_app (goodIn_of _ (by decide +kernel)) ggX6_settle_X6_sideOf
set_option maxRecDepth 20000 in
theorem ggX6_settle_X6_changes : GoodIn wsX6_settle wsX6_changes := goodIn_r _ [55, 2, 3, 56, 57, 58, 7, 59, 1, 21, 46, 60, 61, 62, 63, 31, 32, 33, 64, 65, 66, 67, 68, 69, 70, 71, 72, 73, 74, 75, 76, 77, 78, 79, 80, 81, 82, 83, 84, 85, 86] (by decide +kernel) (by decide +kernel)
set_option maxRecDepth 20000 in
theorem gX6_settle_X6_changes : GoodIn wsX6_settle (wsV RX6 126 RX6 yX6_changes wsX6_changes) := goodIn_app (goodIn_of _ (by decide +kernel)) ggX6_settle_X6_changes
set_option maxRecDepth 20000 in
theorem ggX6_tag_X6_isNone : GoodIn wsX6_tag wsX6_isNone := goodIn_r _ [6, 7, 8, 9, 5, 10, 11, 12, 13, 14, 15, 16, 17, 18, 19, 20, 21, 22, 23, 24, 25, 26, 27, 28, 29, 30, 31, 32, 33, 34, 35, 36, 37, 38, 39, 40, 41, 42] (by decide +kernel) (by decide +kernel)
set_option maxRecDepth 20000 in
theorem gX6_tag_X6_isNone : GoodIn wsX6_tag (wsV RX6 105 RX6 yX6_isNone wsX6_isNone) := goodIn_app (goodIn_of _ (by decide +kernel)) ggX6_tag_X6_isNone
set_option maxRecDepth 20000 in
theorem ggX6_tag_X6_in : GoodIn wsX6_tag wsX6_in := goodIn_r _ [14] (by decide +kernel) (by decide +kernel)
set_option maxRecDepth 20000 in
theorem gX6_tag_X6_in : GoodIn wsX6_tag (va_wsS RX6 79 yX6_in wsX6_in) := goodIn_app (goodIn_of _ (by decide +kernel)) ggX6_tag_X6_in
set_option maxRecDepth 20000 in
theorem ggX6_tag_X6_fails : GoodIn wsX6_tag wsX6_fails := goodIn_r _ [18, 19, 20, 21, 22, 23, 24, 25, 26, 27, 28, 29, 30, 31, 32, 33, 34, 35, 36, 37, 38, 39, 40, 41, 42] (by decide +kernel) (by decide +kernel)
set_option maxRecDepth 20000 in
theorem gX6_tag_X6_fails : GoodIn wsX6_tag (wsV RX6 87 RX6 yX6_fails wsX6_fails) := goodIn_app (goodIn_of _ (by decide +kernel)) ggX6_tag_X6_fails
set_option maxRecDepth 20000 in
theorem ggX6_tagged_X6_in : GoodIn wsX6_tagged wsX6_in := goodIn_r _ [5] (by decide +kernel) (by decide +kernel)
set_option maxRecDepth 20000 in
theorem gX6_tagged_X6_in : GoodIn wsX6_tagged (va_wsS RX6 79 yX6_in wsX6_in) := goodIn_app (goodIn_of _ (by decide +kernel)) ggX6_tagged_X6_in
