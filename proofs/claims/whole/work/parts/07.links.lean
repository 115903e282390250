/-! printed by wip/whole/gen/mk07.py: each method's Y; what calls and field instructions link -/
theorem iX0 : ∀ w ∈ u_ws RX0 TX0 9, w ∈ lw_tbl ∧ goodWord w = true := by decide +kernel
theorem iX1 : ∀ w ∈ u_ws RX1 TX1 9, w ∈ lw_tbl ∧ goodWord w = true := by decide +kernel
theorem iX2 : ∀ w ∈ u_ws RX2 TX2 8, w ∈ lw_tbl ∧ goodWord w = true := by decide +kernel
theorem iX3 : ∀ w ∈ u_ws RX3 TX3 8, w ∈ lw_tbl ∧ goodWord w = true := by decide +kernel
theorem iX4 : ∀ w ∈ u_ws RX4 TX4 7, w ∈ lw_tbl ∧ goodWord w = true := by decide +kernel
theorem iX5 : ∀ w ∈ u_ws RX5 TX5 21, w ∈ lw_tbl ∧ goodWord w = true := by decide +kernel
abbrev Y_X0_init : QY := (yX0_init, cX0_init, 1, none, ({ frames := 1, cells := 3, slots := 90, locals := 20 } : Room))
abbrev Y_X0_isCode : QY := (yX0_isCode, cX0_isCode, 1, (some .boolean), ({ frames := 0, cells := 0, slots := 0, locals := 0 } : Room))
abbrev Y_X0_isFull : QY := (yX0_isFull, cX0_isFull, 1, (some .boolean), ({ frames := 0, cells := 0, slots := 0, locals := 0 } : Room))
abbrev Y_X0_add : QY := (yX0_add, cX0_add, 2, none, ({ frames := 0, cells := 0, slots := 0, locals := 0 } : Room))
abbrev Y_X0_empty : QY := (yX0_empty, cX0_empty, 1, none, ({ frames := 0, cells := 0, slots := 0, locals := 0 } : Room))
abbrev Y_X0_codeAt : QY := (yX0_codeAt, cX0_codeAt, 2, (some .int), ({ frames := 0, cells := 0, slots := 0, locals := 0 } : Room))
abbrev Y_X0_cellOf : QY := (yX0_cellOf, cX0_cellOf, 2, (some .int), ({ frames := 0, cells := 0, slots := 0, locals := 0 } : Room))
abbrev Y_X0_asksToHeal : QY := (yX0_asksToHeal, cX0_asksToHeal, 2, (some .boolean), ({ frames := 0, cells := 0, slots := 0, locals := 0 } : Room))
abbrev Y_X0_beginSpot : QY := (yX0_beginSpot, cX0_beginSpot, 1, none, ({ frames := 0, cells := 0, slots := 0, locals := 0 } : Room))
abbrev Y_X0_takeMinus : QY := (yX0_takeMinus, cX0_takeMinus, 1, (some .boolean), ({ frames := 0, cells := 0, slots := 0, locals := 0 } : Room))
abbrev Y_X0_takeComma : QY := (yX0_takeComma, cX0_takeComma, 1, (some .boolean), ({ frames := 0, cells := 0, slots := 0, locals := 0 } : Room))
abbrev Y_X4_cellNumber : QY := (yX4_cellNumber, cX4_cellNumber, 2, (some .int), ({ frames := 0, cells := 0, slots := 0, locals := 0 } : Room))
abbrev Y_X0_endSpot : QY := (yX0_endSpot, cX0_endSpot, 1, (some .boolean), ({ frames := 1, cells := 0, slots := 0, locals := 21 } : Room))
abbrev Y_X0_takeDigit : QY := (yX0_takeDigit, cX0_takeDigit, 2, (some .boolean), ({ frames := 0, cells := 0, slots := 0, locals := 0 } : Room))
abbrev Y_X0_take : QY := (yX0_take, cX0_take, 2, (some .boolean), ({ frames := 2, cells := 0, slots := 0, locals := 41 } : Room))
abbrev Y_X0_scan : QY := (yX0_scan, cX0_scan, 2, (some .int), ({ frames := 3, cells := 0, slots := 0, locals := 62 } : Room))
abbrev Y_X0_tellsSpots : QY := (yX0_tellsSpots, cX0_tellsSpots, 1, (some .boolean), ({ frames := 4, cells := 0, slots := 0, locals := 83 } : Room))
abbrev Y_X1_init : QY := (yX1_init, cX1_init, 1, none, ({ frames := 1, cells := 0, slots := 0, locals := 20 } : Room))
abbrev Y_X1_commonDivisor : QY := (yX1_commonDivisor, cX1_commonDivisor, 4, (some .int), ({ frames := 0, cells := 0, slots := 0, locals := 0 } : Room))
abbrev Y_X1_aim : QY := (yX1_aim, cX1_aim, 10, none, ({ frames := 1, cells := 0, slots := 0, locals := 23 } : Room))
abbrev Y_X1_stepsTo : QY := (yX1_stepsTo, cX1_stepsTo, 3, (some .int), ({ frames := 0, cells := 0, slots := 0, locals := 0 } : Room))
abbrev Y_X1_join : QY := (yX1_join, cX1_join, 5, none, ({ frames := 1, cells := 0, slots := 0, locals := 22 } : Room))
abbrev Y_X1_widestGap : QY := (yX1_widestGap, cX1_widestGap, 4, (some .int), ({ frames := 1, cells := 0, slots := 0, locals := 21 } : Room))
abbrev Y_X1_trackAt : QY := (yX1_trackAt, cX1_trackAt, 2, (some .int), ({ frames := 0, cells := 0, slots := 0, locals := 0 } : Room))
abbrev Y_X1_sectorAt : QY := (yX1_sectorAt, cX1_sectorAt, 2, (some .int), ({ frames := 0, cells := 0, slots := 0, locals := 0 } : Room))
abbrev Y_X4_inDrive : QY := (yX4_inDrive, cX4_inDrive, 2, (some .boolean), ({ frames := 0, cells := 0, slots := 0, locals := 0 } : Room))
abbrev Y_X1_spread : QY := (yX1_spread, cX1_spread, 3, none, ({ frames := 1, cells := 0, slots := 0, locals := 21 } : Room))
abbrev Y_X1_cellAt : QY := (yX1_cellAt, cX1_cellAt, 2, (some .int), ({ frames := 1, cells := 0, slots := 0, locals := 21 } : Room))
abbrev Y_X2_init : QY := (yX2_init, cX2_init, 2, none, ({ frames := 2, cells := 27, slots := 1396, locals := 40 } : Room))
abbrev Y_X2_clear : QY := (yX2_clear, cX2_clear, 2, none, ({ frames := 0, cells := 0, slots := 0, locals := 0 } : Room))
abbrev Y_X3_cellOfSpot : QY := (yX3_cellOfSpot, cX3_cellOfSpot, 2, (some .int), ({ frames := 0, cells := 0, slots := 0, locals := 0 } : Room))
abbrev Y_X4_isCell : QY := (yX4_isCell, cX4_isCell, 1, (some .boolean), ({ frames := 0, cells := 0, slots := 0, locals := 0 } : Room))
abbrev Y_X2_takeSpots : QY := (yX2_takeSpots, cX2_takeSpots, 4, none, ({ frames := 1, cells := 0, slots := 0, locals := 21 } : Room))
abbrev Y_X2_trackOf : QY := (yX2_trackOf, cX2_trackOf, 2, (some .int), ({ frames := 0, cells := 0, slots := 0, locals := 0 } : Room))
abbrev Y_X2_sectorOf : QY := (yX2_sectorOf, cX2_sectorOf, 2, (some .int), ({ frames := 0, cells := 0, slots := 0, locals := 0 } : Room))
abbrev Y_X2_spotsInLineWith : QY := (yX2_spotsInLineWith, cX2_spotsInLineWith, 9, (some .int), ({ frames := 1, cells := 0, slots := 0, locals := 21 } : Room))
abbrev Y_J6_bitCount_0f7a4 : QY := (yJ6_bitCount_0f7a4, cJ6_bitCount_0f7a4, 1, (some .int), ({ frames := 0, cells := 0, slots := 0, locals := 0 } : Room))
abbrev Y_X4_isSetting : QY := (yX4_isSetting, cX4_isSetting, 1, (some .boolean), ({ frames := 0, cells := 0, slots := 0, locals := 0 } : Room))
abbrev Y_X3_settingOf : QY := (yX3_settingOf, cX3_settingOf, 2, (some .int), ({ frames := 1, cells := 0, slots := 0, locals := 20 } : Room))
abbrev Y_X2_addLine : QY := (yX2_addLine, cX2_addLine, 8, (some .boolean), ({ frames := 2, cells := 0, slots := 0, locals := 52 } : Room))
abbrev Y_X2_lineAt : QY := (yX2_lineAt, cX2_lineAt, 2, (Option.some (Jvm.ClassFile.FieldType.object "ScratchMap$Line")), ({ frames := 0, cells := 0, slots := 0, locals := 0 } : Room))
abbrev Y_X2_hitCells : QY := (yX2_hitCells, cX2_hitCells, 4, none, ({ frames := 2, cells := 0, slots := 0, locals := 42 } : Room))
abbrev Y_X2_isAvoided : QY := (yX2_isAvoided, cX2_isAvoided, 2, (some .boolean), ({ frames := 1, cells := 0, slots := 0, locals := 20 } : Room))
abbrev Y_X2_build : QY := (yX2_build, cX2_build, 4, none, ({ frames := 3, cells := 0, slots := 0, locals := 79 } : Room))
abbrev Y_X2_isSpot : QY := (yX2_isSpot, cX2_isSpot, 2, (some .boolean), ({ frames := 1, cells := 0, slots := 0, locals := 20 } : Room))
abbrev Y_X2_isGood : QY := (yX2_isGood, cX2_isGood, 2, (some .boolean), ({ frames := 1, cells := 0, slots := 0, locals := 20 } : Room))
abbrev Y_X2_hitsOf : QY := (yX2_hitsOf, cX2_hitsOf, 2, (some .int), ({ frames := 1, cells := 0, slots := 0, locals := 20 } : Room))
abbrev Y_X3_init : QY := (yX3_init, cX3_init, 2, none, ({ frames := 1, cells := 5, slots := 1551, locals := 20 } : Room))
abbrev Y_X3_copyFrom : QY := (yX3_copyFrom, cX3_copyFrom, 2, none, ({ frames := 1, cells := 0, slots := 0, locals := 26 } : Room))
abbrev Y_X4_isBlock : QY := (yX4_isBlock, cX4_isBlock, 1, (some .boolean), ({ frames := 0, cells := 0, slots := 0, locals := 0 } : Room))
abbrev Y_X3_valueOf : QY := (yX3_valueOf, cX3_valueOf, 2, (some .int), ({ frames := 1, cells := 0, slots := 0, locals := 20 } : Room))
abbrev Y_X3_placeOf : QY := (yX3_placeOf, cX3_placeOf, 2, (some .int), ({ frames := 1, cells := 0, slots := 0, locals := 20 } : Room))
abbrev Y_X3_holderOf : QY := (yX3_holderOf, cX3_holderOf, 2, (some .int), ({ frames := 1, cells := 0, slots := 0, locals := 20 } : Room))
abbrev Y_X3_changeSetting : QY := (yX3_changeSetting, cX3_changeSetting, 3, none, ({ frames := 1, cells := 0, slots := 0, locals := 20 } : Room))
abbrev Y_X3_place : QY := (yX3_place, cX3_place, 5, none, ({ frames := 1, cells := 0, slots := 0, locals := 20 } : Room))
abbrev Y_X3_forget : QY := (yX3_forget, cX3_forget, 3, none, ({ frames := 2, cells := 0, slots := 0, locals := 41 } : Room))
abbrev Y_X3_spotAt : QY := (yX3_spotAt, cX3_spotAt, 3, (some .int), ({ frames := 1, cells := 0, slots := 0, locals := 21 } : Room))
abbrev Y_X3_canAddSpot : QY := (yX3_canAddSpot, cX3_canAddSpot, 2, (some .boolean), ({ frames := 2, cells := 0, slots := 0, locals := 43 } : Room))
abbrev Y_X3_addSpot : QY := (yX3_addSpot, cX3_addSpot, 3, none, ({ frames := 3, cells := 0, slots := 0, locals := 64 } : Room))
abbrev Y_X3_removeSpot : QY := (yX3_removeSpot, cX3_removeSpot, 4, none, ({ frames := 2, cells := 0, slots := 0, locals := 43 } : Room))
abbrev Y_X4_init : QY := (yX4_init, cX4_init, 2, none, ({ frames := 3, cells := 109, slots := 15385, locals := 61 } : Room))
abbrev Y_X4_isValue : QY := (yX4_isValue, cX4_isValue, 1, (some .boolean), ({ frames := 0, cells := 0, slots := 0, locals := 0 } : Room))
abbrev Y_X4_lowestFreeSpare : QY := (yX4_lowestFreeSpare, cX4_lowestFreeSpare, 3, (some .int), ({ frames := 2, cells := 0, slots := 0, locals := 41 } : Room))
abbrev Y_X4_cellForWriting : QY := (yX4_cellForWriting, cX4_cellForWriting, 4, (some .int), ({ frames := 3, cells := 0, slots := 0, locals := 63 } : Room))
abbrev Y_X4_moveOldestToEnd : QY := (yX4_moveOldestToEnd, cX4_moveOldestToEnd, 3, none, ({ frames := 0, cells := 0, slots := 0, locals := 0 } : Room))
abbrev Y_X4_saveState : QY := (yX4_saveState, cX4_saveState, 1, none, ({ frames := 2, cells := 0, slots := 0, locals := 47 } : Room))
abbrev Y_X4_write : QY := (yX4_write, cX4_write, 4, (some .int), ({ frames := 7, cells := 1, slots := 6, locals := 110 } : Room))
abbrev Y_X4_fill : QY := (yX4_fill, cX4_fill, 6, (some .int), ({ frames := 7, cells := 1, slots := 6, locals := 110 } : Room))
abbrev Y_X4_drop : QY := (yX4_drop, cX4_drop, 3, (some .int), ({ frames := 7, cells := 1, slots := 6, locals := 110 } : Room))
abbrev Y_X4_fail : QY := (yX4_fail, cX4_fail, 4, (some .int), ({ frames := 7, cells := 1, slots := 6, locals := 110 } : Room))
abbrev Y_X4_heal : QY := (yX4_heal, cX4_heal, 4, (some .int), ({ frames := 7, cells := 1, slots := 6, locals := 110 } : Room))
abbrev Y_X4_cellForTidying : QY := (yX4_cellForTidying, cX4_cellForTidying, 4, (some .int), ({ frames := 3, cells := 0, slots := 0, locals := 63 } : Room))
abbrev Y_X4_tidyUp : QY := (yX4_tidyUp, cX4_tidyUp, 6, (some .int), ({ frames := 4, cells := 0, slots := 0, locals := 86 } : Room))
abbrev Y_X4_tidy : QY := (yX4_tidy, cX4_tidy, 2, (some .int), ({ frames := 7, cells := 1, slots := 6, locals := 111 } : Room))
abbrev Y_X4_fitsSetting : QY := (yX4_fitsSetting, cX4_fitsSetting, 2, (some .boolean), ({ frames := 1, cells := 0, slots := 0, locals := 20 } : Room))
abbrev Y_X4_set : QY := (yX4_set, cX4_set, 4, (some .int), ({ frames := 7, cells := 1, slots := 6, locals := 110 } : Room))
abbrev Y_X4_append : QY := (yX4_append, cX4_append, 2, (some .int), ({ frames := 7, cells := 1, slots := 6, locals := 110 } : Room))
abbrev Y_X4_clearBuffer : QY := (yX4_clearBuffer, cX4_clearBuffer, 2, (some .int), ({ frames := 1, cells := 0, slots := 0, locals := 20 } : Room))
abbrev Y_X4_firstError : QY := (yX4_firstError, cX4_firstError, 1, (some .int), ({ frames := 4, cells := 0, slots := 0, locals := 83 } : Room))
abbrev Y_X4_follow : QY := (yX4_follow, cX4_follow, 3, (some .boolean), ({ frames := 4, cells := 0, slots := 0, locals := 86 } : Room))
abbrev Y_X4_read : QY := (yX4_read, cX4_read, 2, (some .int), ({ frames := 7, cells := 1, slots := 6, locals := 110 } : Room))
abbrev Y_X4_undo : QY := (yX4_undo, cX4_undo, 2, (some .int), ({ frames := 7, cells := 1, slots := 6, locals := 110 } : Room))
abbrev Y_X4_cell : QY := (yX4_cell, cX4_cell, 5, (some .int), ({ frames := 7, cells := 1, slots := 6, locals := 110 } : Room))
abbrev Y_X4_isSpare : QY := (yX4_isSpare, cX4_isSpare, 1, (some .boolean), ({ frames := 0, cells := 0, slots := 0, locals := 0 } : Room))
abbrev Y_X4_block : QY := (yX4_block, cX4_block, 3, (some .int), ({ frames := 7, cells := 1, slots := 6, locals := 110 } : Room))
abbrev Y_X4_takenCellsToAvoid : QY := (yX4_takenCellsToAvoid, cX4_takenCellsToAvoid, 5, (some .int), ({ frames := 2, cells := 0, slots := 0, locals := 42 } : Room))
abbrev Y_X4_lineProperty : QY := (yX4_lineProperty, cX4_lineProperty, 3, (some .int), ({ frames := 3, cells := 0, slots := 0, locals := 66 } : Room))
abbrev Y_X4_line : QY := (yX4_line, cX4_line, 4, (some .int), ({ frames := 7, cells := 1, slots := 6, locals := 110 } : Room))
abbrev Y_X4_blocksWithValues : QY := (yX4_blocksWithValues, cX4_blocksWithValues, 3, (some .int), ({ frames := 2, cells := 0, slots := 0, locals := 41 } : Room))
abbrev Y_X4_blocksInSpares : QY := (yX4_blocksInSpares, cX4_blocksInSpares, 3, (some .int), ({ frames := 2, cells := 0, slots := 0, locals := 41 } : Room))
abbrev Y_X4_blocksInBadCells : QY := (yX4_blocksInBadCells, cX4_blocksInBadCells, 4, (some .int), ({ frames := 2, cells := 0, slots := 0, locals := 41 } : Room))
abbrev Y_X4_freeSpares : QY := (yX4_freeSpares, cX4_freeSpares, 3, (some .int), ({ frames := 2, cells := 0, slots := 0, locals := 41 } : Room))
abbrev Y_X4_numberOf : QY := (yX4_numberOf, cX4_numberOf, 2, (some .int), ({ frames := 3, cells := 0, slots := 0, locals := 64 } : Room))
abbrev Y_X4_count : QY := (yX4_count, cX4_count, 2, (some .int), ({ frames := 7, cells := 1, slots := 6, locals := 110 } : Room))
abbrev Y_X4_setting : QY := (yX4_setting, cX4_setting, 2, (some .int), ({ frames := 7, cells := 1, slots := 6, locals := 110 } : Room))
abbrev Y_X4_tryFailing : QY := (yX4_tryFailing, cX4_tryFailing, 2, (some .boolean), ({ frames := 4, cells := 0, slots := 0, locals := 102 } : Room))
abbrev Y_X4_forecast : QY := (yX4_forecast, cX4_forecast, 2, (some .int), ({ frames := 3, cells := 0, slots := 0, locals := 64 } : Room))
abbrev Y_X4_ifFailed : QY := (yX4_ifFailed, cX4_ifFailed, 5, (some .int), ({ frames := 7, cells := 1, slots := 6, locals := 123 } : Room))
abbrev Y_X4_worst : QY := (yX4_worst, cX4_worst, 3, (some .int), ({ frames := 2, cells := 0, slots := 0, locals := 41 } : Room))
abbrev Y_X4_untidy : QY := (yX4_untidy, cX4_untidy, 1, (some .int), ({ frames := 5, cells := 0, slots := 0, locals := 111 } : Room))
abbrev Y_X4_find : QY := (yX4_find, cX4_find, 3, (some .int), ({ frames := 7, cells := 1, slots := 6, locals := 110 } : Room))
abbrev Y_X4_goodShare : QY := (yX4_goodShare, cX4_goodShare, 1, (some .double), ({ frames := 0, cells := 0, slots := 0, locals := 0 } : Room))
abbrev Y_X4_mix : QY := (yX4_mix, cX4_mix, 4, (some .long), ({ frames := 0, cells := 0, slots := 0, locals := 0 } : Room))
abbrev Y_X4_hashSpotsAndLines : QY := (yX4_hashSpotsAndLines, cX4_hashSpotsAndLines, 8, (some .long), ({ frames := 4, cells := 0, slots := 0, locals := 88 } : Room))
abbrev Y_X4_hashAvoidedCells : QY := (yX4_hashAvoidedCells, cX4_hashAvoidedCells, 6, (some .long), ({ frames := 2, cells := 0, slots := 0, locals := 41 } : Room))
abbrev Y_X4_hashBlocks : QY := (yX4_hashBlocks, cX4_hashBlocks, 6, (some .long), ({ frames := 2, cells := 0, slots := 0, locals := 41 } : Room))
abbrev Y_X4_hashForecasts : QY := (yX4_hashForecasts, cX4_hashForecasts, 8, (some .long), ({ frames := 5, cells := 0, slots := 0, locals := 123 } : Room))
abbrev Y_X4_bitsOfShare : QY := (yX4_bitsOfShare, cX4_bitsOfShare, 8, (some .long), ({ frames := 0, cells := 0, slots := 0, locals := 0 } : Room))
abbrev Y_X4_hashText : QY := (yX4_hashText, cX4_hashText, 6, (some .long), ({ frames := 1, cells := 0, slots := 0, locals := 23 } : Room))
abbrev Y_X4_digest : QY := (yX4_digest, cX4_digest, 4, (some .long), ({ frames := 6, cells := 0, slots := 0, locals := 150 } : Room))
abbrev Y_X5_init : QY := (yX5_init, cX5_init, 2, none, ({ frames := 1, cells := 14, slots := 14100, locals := 20 } : Room))
abbrev Y_X5_thrown : QY := (yX5_thrown, cX5_thrown, 1, (some .int), ({ frames := 0, cells := 0, slots := 0, locals := 0 } : Room))
abbrev Y_X5_in : QY := (yX5_in, cX5_in, 3, (some .boolean), ({ frames := 0, cells := 0, slots := 0, locals := 0 } : Room))
abbrev Y_X5_isPlace : QY := (yX5_isPlace, cX5_isPlace, 2, (some .boolean), ({ frames := 1, cells := 0, slots := 0, locals := 22 } : Room))
abbrev Y_X5_isBlock : QY := (yX5_isBlock, cX5_isBlock, 1, (some .boolean), ({ frames := 1, cells := 0, slots := 0, locals := 22 } : Room))
abbrev Y_X5_isValue : QY := (yX5_isValue, cX5_isValue, 1, (some .boolean), ({ frames := 1, cells := 0, slots := 0, locals := 22 } : Room))
abbrev Y_X5_spot : QY := (yX5_spot, cX5_spot, 2, (some .int), ({ frames := 0, cells := 0, slots := 0, locals := 0 } : Room))
abbrev Y_X5_where : QY := (yX5_where, cX5_where, 2, (some .int), ({ frames := 0, cells := 0, slots := 0, locals := 0 } : Room))
abbrev Y_X5_taken : QY := (yX5_taken, cX5_taken, 2, (some .int), ({ frames := 0, cells := 0, slots := 0, locals := 0 } : Room))
abbrev Y_X5_spotAt : QY := (yX5_spotAt, cX5_spotAt, 4, (some .int), ({ frames := 1, cells := 0, slots := 0, locals := 21 } : Room))
abbrev Y_X5_save : QY := (yX5_save, cX5_save, 2, none, ({ frames := 0, cells := 0, slots := 0, locals := 0 } : Room))
abbrev Y_X5_undo : QY := (yX5_undo, cX5_undo, 2, (some .int), ({ frames := 0, cells := 0, slots := 0, locals := 0 } : Room))
abbrev Y_X5_putAside : QY := (yX5_putAside, cX5_putAside, 2, none, ({ frames := 0, cells := 0, slots := 0, locals := 0 } : Room))
abbrev Y_X5_bringBack : QY := (yX5_bringBack, cX5_bringBack, 2, none, ({ frames := 0, cells := 0, slots := 0, locals := 0 } : Room))
abbrev Y_X5_sizeOf : QY := (yX5_sizeOf, cX5_sizeOf, 1, (some .int), ({ frames := 0, cells := 0, slots := 0, locals := 0 } : Room))
abbrev Y_X5_common : QY := (yX5_common, cX5_common, 5, (some .int), ({ frames := 0, cells := 0, slots := 0, locals := 0 } : Room))
abbrev Y_X5_tracksApart : QY := (yX5_tracksApart, cX5_tracksApart, 3, (some .int), ({ frames := 1, cells := 0, slots := 0, locals := 21 } : Room))
abbrev Y_X5_sectorsApart : QY := (yX5_sectorsApart, cX5_sectorsApart, 3, (some .int), ({ frames := 1, cells := 0, slots := 0, locals := 21 } : Room))
abbrev Y_X5_isStraight : QY := (yX5_isStraight, cX5_isStraight, 4, (some .boolean), ({ frames := 2, cells := 0, slots := 0, locals := 43 } : Room))
abbrev Y_X5_bits : QY := (yX5_bits, cX5_bits, 3, (some .int), ({ frames := 0, cells := 0, slots := 0, locals := 0 } : Room))
abbrev Y_X5_stepsTo : QY := (yX5_stepsTo, cX5_stepsTo, 4, (some .int), ({ frames := 2, cells := 0, slots := 0, locals := 43 } : Room))
abbrev Y_X5_areNear : QY := (yX5_areNear, cX5_areNear, 8, (some .boolean), ({ frames := 3, cells := 0, slots := 0, locals := 66 } : Room))
abbrev Y_X5_layLine : QY := (yX5_layLine, cX5_layLine, 12, none, ({ frames := 4, cells := 0, slots := 0, locals := 93 } : Room))
abbrev Y_X5_cellOf : QY := (yX5_cellOf, cX5_cellOf, 5, (some .int), ({ frames := 2, cells := 0, slots := 0, locals := 43 } : Room))
abbrev Y_X5_lay : QY := (yX5_lay, cX5_lay, 4, none, ({ frames := 5, cells := 0, slots := 0, locals := 124 } : Room))
abbrev Y_X5_isAvoided : QY := (yX5_isAvoided, cX5_isAvoided, 2, (some .boolean), ({ frames := 0, cells := 0, slots := 0, locals := 0 } : Room))
abbrev Y_X5_isGood : QY := (yX5_isGood, cX5_isGood, 2, (some .boolean), ({ frames := 0, cells := 0, slots := 0, locals := 0 } : Room))
abbrev Y_X5_freeSpare : QY := (yX5_freeSpare, cX5_freeSpare, 2, (some .int), ({ frames := 1, cells := 0, slots := 0, locals := 21 } : Room))
abbrev Y_X5_goalOf : QY := (yX5_goalOf, cX5_goalOf, 2, (some .int), ({ frames := 2, cells := 0, slots := 0, locals := 42 } : Room))
abbrev Y_X5_bringTo : QY := (yX5_bringTo, cX5_bringTo, 3, none, ({ frames := 1, cells := 0, slots := 0, locals := 21 } : Room))
abbrev Y_X5_lose : QY := (yX5_lose, cX5_lose, 2, none, ({ frames := 1, cells := 0, slots := 0, locals := 21 } : Room))
abbrev Y_X5_writeIt : QY := (yX5_writeIt, cX5_writeIt, 3, (some .int), ({ frames := 3, cells := 0, slots := 0, locals := 63 } : Room))
abbrev Y_X5_write : QY := (yX5_write, cX5_write, 3, (some .int), ({ frames := 6, cells := 0, slots := 0, locals := 147 } : Room))
abbrev Y_X5_fill : QY := (yX5_fill, cX5_fill, 5, (some .int), ({ frames := 6, cells := 0, slots := 0, locals := 147 } : Room))
abbrev Y_X5_drop : QY := (yX5_drop, cX5_drop, 3, (some .int), ({ frames := 2, cells := 0, slots := 0, locals := 42 } : Room))
abbrev Y_X5_canFail : QY := (yX5_canFail, cX5_canFail, 2, (some .boolean), ({ frames := 2, cells := 0, slots := 0, locals := 44 } : Room))
abbrev Y_X5_failIt : QY := (yX5_failIt, cX5_failIt, 2, none, ({ frames := 2, cells := 0, slots := 0, locals := 42 } : Room))
abbrev Y_X5_healIt : QY := (yX5_healIt, cX5_healIt, 4, none, ({ frames := 2, cells := 0, slots := 0, locals := 44 } : Room))
abbrev Y_X5_linesNow : QY := (yX5_linesNow, cX5_linesNow, 1, (some .int), ({ frames := 6, cells := 0, slots := 0, locals := 147 } : Room))
abbrev Y_X5_fail : QY := (yX5_fail, cX5_fail, 3, (some .int), ({ frames := 7, cells := 0, slots := 0, locals := 167 } : Room))
abbrev Y_X5_heal : QY := (yX5_heal, cX5_heal, 3, (some .int), ({ frames := 7, cells := 0, slots := 0, locals := 167 } : Room))
abbrev Y_X5_tidyGoal : QY := (yX5_tidyGoal, cX5_tidyGoal, 4, (some .int), ({ frames := 2, cells := 0, slots := 0, locals := 42 } : Room))
abbrev Y_X5_tidyUp : QY := (yX5_tidyUp, cX5_tidyUp, 5, (some .int), ({ frames := 6, cells := 0, slots := 0, locals := 147 } : Room))
abbrev Y_X5_tidy : QY := (yX5_tidy, cX5_tidy, 2, (some .int), ({ frames := 7, cells := 0, slots := 0, locals := 171 } : Room))
abbrev Y_X5_leastOf : QY := (yX5_leastOf, cX5_leastOf, 1, (some .int), ({ frames := 0, cells := 0, slots := 0, locals := 0 } : Room))
abbrev Y_X5_mostOf : QY := (yX5_mostOf, cX5_mostOf, 1, (some .int), ({ frames := 0, cells := 0, slots := 0, locals := 0 } : Room))
abbrev Y_X5_set : QY := (yX5_set, cX5_set, 4, (some .int), ({ frames := 1, cells := 0, slots := 0, locals := 22 } : Room))
abbrev Y_X5_append : QY := (yX5_append, cX5_append, 2, (some .int), ({ frames := 1, cells := 0, slots := 0, locals := 22 } : Room))
abbrev Y_X5_clearBuffer : QY := (yX5_clearBuffer, cX5_clearBuffer, 2, (some .int), ({ frames := 0, cells := 0, slots := 0, locals := 0 } : Room))
abbrev Y_X5_letter : QY := (yX5_letter, cX5_letter, 1, (some .int), ({ frames := 0, cells := 0, slots := 0, locals := 0 } : Room))
abbrev Y_X5_wants : QY := (yX5_wants, cX5_wants, 2, none, ({ frames := 0, cells := 0, slots := 0, locals := 0 } : Room))
abbrev Y_X5_number : QY := (yX5_number, cX5_number, 3, (some .int), ({ frames := 1, cells := 0, slots := 0, locals := 22 } : Room))
abbrev Y_X5_readOrder : QY := (yX5_readOrder, cX5_readOrder, 2, none, ({ frames := 2, cells := 0, slots := 0, locals := 44 } : Room))
abbrev Y_X5_readBuffer : QY := (yX5_readBuffer, cX5_readBuffer, 2, (some .int), ({ frames := 3, cells := 0, slots := 0, locals := 65 } : Room))
abbrev Y_X5_firstError : QY := (yX5_firstError, cX5_firstError, 2, (some .int), ({ frames := 4, cells := 0, slots := 0, locals := 86 } : Room))
abbrev Y_X5_does : QY := (yX5_does, cX5_does, 5, (some .boolean), ({ frames := 3, cells := 0, slots := 0, locals := 67 } : Room))
abbrev Y_X5_read : QY := (yX5_read, cX5_read, 2, (some .int), ({ frames := 4, cells := 0, slots := 0, locals := 91 } : Room))
abbrev Y_X5_toldCell : QY := (yX5_toldCell, cX5_toldCell, 3, (some .int), ({ frames := 6, cells := 0, slots := 0, locals := 147 } : Room))
abbrev Y_X5_cell : QY := (yX5_cell, cX5_cell, 4, (some .int), ({ frames := 7, cells := 0, slots := 0, locals := 169 } : Room))
abbrev Y_X5_toldBlock : QY := (yX5_toldBlock, cX5_toldBlock, 3, (some .int), ({ frames := 6, cells := 0, slots := 0, locals := 147 } : Room))
abbrev Y_X5_block : QY := (yX5_block, cX5_block, 3, (some .int), ({ frames := 7, cells := 0, slots := 0, locals := 169 } : Room))
abbrev Y_X5_cellsOf : QY := (yX5_cellsOf, cX5_cellsOf, 6, (some .int), ({ frames := 3, cells := 0, slots := 0, locals := 67 } : Room))
abbrev Y_X5_toldLine : QY := (yX5_toldLine, cX5_toldLine, 3, (some .int), ({ frames := 4, cells := 0, slots := 0, locals := 92 } : Room))
abbrev Y_X5_line : QY := (yX5_line, cX5_line, 3, (some .int), ({ frames := 6, cells := 0, slots := 0, locals := 147 } : Room))
abbrev Y_X5_avoidedMany : QY := (yX5_avoidedMany, cX5_avoidedMany, 3, (some .int), ({ frames := 1, cells := 0, slots := 0, locals := 21 } : Room))
abbrev Y_X5_blocks : QY := (yX5_blocks, cX5_blocks, 5, (some .int), ({ frames := 1, cells := 0, slots := 0, locals := 21 } : Room))
abbrev Y_X5_freeSpares : QY := (yX5_freeSpares, cX5_freeSpares, 3, (some .int), ({ frames := 1, cells := 0, slots := 0, locals := 21 } : Room))
abbrev Y_X5_counted : QY := (yX5_counted, cX5_counted, 2, (some .int), ({ frames := 6, cells := 0, slots := 0, locals := 147 } : Room))
abbrev Y_X5_count : QY := (yX5_count, cX5_count, 2, (some .int), ({ frames := 7, cells := 0, slots := 0, locals := 168 } : Room))
abbrev Y_X5_setting : QY := (yX5_setting, cX5_setting, 2, (some .int), ({ frames := 1, cells := 0, slots := 0, locals := 22 } : Room))
abbrev Y_X5_wouldFail : QY := (yX5_wouldFail, cX5_wouldFail, 5, (some .int), ({ frames := 6, cells := 0, slots := 0, locals := 147 } : Room))
abbrev Y_X5_ifFailed : QY := (yX5_ifFailed, cX5_ifFailed, 4, (some .int), ({ frames := 7, cells := 0, slots := 0, locals := 171 } : Room))
abbrev Y_X5_worstCell : QY := (yX5_worstCell, cX5_worstCell, 3, (some .int), ({ frames := 6, cells := 0, slots := 0, locals := 147 } : Room))
abbrev Y_X5_worst : QY := (yX5_worst, cX5_worst, 1, (some .int), ({ frames := 7, cells := 0, slots := 0, locals := 169 } : Room))
abbrev Y_X5_wouldMove : QY := (yX5_wouldMove, cX5_wouldMove, 2, (some .int), ({ frames := 7, cells := 0, slots := 0, locals := 171 } : Room))
abbrev Y_X5_untidy : QY := (yX5_untidy, cX5_untidy, 1, (some .int), ({ frames := 8, cells := 0, slots := 0, locals := 192 } : Room))
abbrev Y_X5_blockWith : QY := (yX5_blockWith, cX5_blockWith, 3, (some .int), ({ frames := 0, cells := 0, slots := 0, locals := 0 } : Room))
abbrev Y_X5_find : QY := (yX5_find, cX5_find, 2, (some .int), ({ frames := 2, cells := 0, slots := 0, locals := 42 } : Room))
abbrev Y_X5_share : QY := (yX5_share, cX5_share, 2, (some .double), ({ frames := 6, cells := 0, slots := 0, locals := 147 } : Room))
abbrev Y_X5_goodShare : QY := (yX5_goodShare, cX5_goodShare, 1, (some .double), ({ frames := 7, cells := 0, slots := 0, locals := 168 } : Room))
abbrev Y_X5_bitsOf : QY := (yX5_bitsOf, cX5_bitsOf, 6, (some .long), ({ frames := 0, cells := 0, slots := 0, locals := 0 } : Room))
abbrev Y_X5_mix : QY := (yX5_mix, cX5_mix, 3, none, ({ frames := 0, cells := 0, slots := 0, locals := 0 } : Room))
abbrev Y_X5_mixFailed : QY := (yX5_mixFailed, cX5_mixFailed, 3, none, ({ frames := 7, cells := 0, slots := 0, locals := 171 } : Room))
abbrev Y_X5_mixMap : QY := (yX5_mixMap, cX5_mixMap, 3, none, ({ frames := 6, cells := 0, slots := 0, locals := 147 } : Room))
abbrev Y_X5_digest : QY := (yX5_digest, cX5_digest, 2, (some .long), ({ frames := 8, cells := 0, slots := 0, locals := 193 } : Room))
abbrev Y_J9_abs_0f7a4 : QY := (yJ9_abs_0f7a4, cJ9_abs_0f7a4, 1, (some .int), ({ frames := 0, cells := 0, slots := 0, locals := 0 } : Room))
abbrev Y_J9_max_7cf53 : QY := (yJ9_max_7cf53, cJ9_max_7cf53, 2, (some .int), ({ frames := 0, cells := 0, slots := 0, locals := 0 } : Room))
abbrev Y_J9_min_7cf53 : QY := (yJ9_min_7cf53, cJ9_min_7cf53, 2, (some .int), ({ frames := 0, cells := 0, slots := 0, locals := 0 } : Room))
abbrev Y_L_write : QY := (yL_write, cL_write, 5, (some .int), ({ frames := 8, cells := 0, slots := 0, locals := 133 } : Room))
abbrev Y_L_fill : QY := (yL_fill, cL_fill, 6, (some .int), ({ frames := 8, cells := 0, slots := 0, locals := 135 } : Room))
abbrev Y_L_drop : QY := (yL_drop, cL_drop, 4, (some .int), ({ frames := 8, cells := 0, slots := 0, locals := 132 } : Room))
abbrev Y_L_fail : QY := (yL_fail, cL_fail, 5, (some .int), ({ frames := 8, cells := 0, slots := 0, locals := 133 } : Room))
abbrev Y_L_heal : QY := (yL_heal, cL_heal, 5, (some .int), ({ frames := 8, cells := 0, slots := 0, locals := 133 } : Room))
abbrev Y_L_tidy : QY := (yL_tidy, cL_tidy, 4, (some .int), ({ frames := 8, cells := 0, slots := 0, locals := 132 } : Room))
abbrev Y_L_set : QY := (yL_set, cL_set, 5, (some .int), ({ frames := 8, cells := 0, slots := 0, locals := 133 } : Room))
abbrev Y_L_append : QY := (yL_append, cL_append, 4, (some .int), ({ frames := 8, cells := 0, slots := 0, locals := 131 } : Room))
abbrev Y_L_read : QY := (yL_read, cL_read, 3, (some .int), ({ frames := 8, cells := 0, slots := 0, locals := 131 } : Room))
abbrev Y_L_undo : QY := (yL_undo, cL_undo, 3, (some .int), ({ frames := 8, cells := 0, slots := 0, locals := 131 } : Room))
abbrev Y_L_cell : QY := (yL_cell, cL_cell, 6, (some .int), ({ frames := 8, cells := 0, slots := 0, locals := 134 } : Room))
abbrev Y_L_block : QY := (yL_block, cL_block, 5, (some .int), ({ frames := 8, cells := 0, slots := 0, locals := 132 } : Room))
abbrev Y_L_line : QY := (yL_line, cL_line, 5, (some .int), ({ frames := 8, cells := 0, slots := 0, locals := 133 } : Room))
abbrev Y_L_count : QY := (yL_count, cL_count, 4, (some .int), ({ frames := 8, cells := 0, slots := 0, locals := 131 } : Room))
abbrev Y_L_setting : QY := (yL_setting, cL_setting, 4, (some .int), ({ frames := 8, cells := 0, slots := 0, locals := 131 } : Room))
abbrev Y_L_ifFailed : QY := (yL_ifFailed, cL_ifFailed, 6, (some .int), ({ frames := 8, cells := 0, slots := 0, locals := 147 } : Room))
abbrev Y_L_find : QY := (yL_find, cL_find, 4, (some .int), ({ frames := 8, cells := 0, slots := 0, locals := 132 } : Room))
theorem fl_X4_10 : q_fl RX4 10 4 0 := ⟨RX4, TX4, 7, _, by decide, rfl, rfl, fun w hw => q_T_in (iX4 w hw).1 (iX4 w hw).2, by decide, (q_w 173 (by decide +kernel) rfl), rfl⟩
theorem fp_X4_10 : q_fp RX4 10 4 0 true (tyX4 0) := ⟨RX4, TX4, 7, _, tyX4, by decide, rfl, rfl, fun w hw => q_T_in (iX4 w hw).1 (iX4 w hw).2, by decide, (q_w 173 (by decide +kernel) rfl), rfl, tyX4_ok, nmX4, rfl, rfl, fun _ => rfl⟩
theorem fl_X4_19 : q_fl RX4 19 4 1 := ⟨RX4, TX4, 7, _, by decide, rfl, rfl, fun w hw => q_T_in (iX4 w hw).1 (iX4 w hw).2, by decide, (q_w 174 (by decide +kernel) rfl), rfl⟩
theorem fp_X4_19 : q_fp RX4 19 4 1 true (tyX4 1) := ⟨RX4, TX4, 7, _, tyX4, by decide, rfl, rfl, fun w hw => q_T_in (iX4 w hw).1 (iX4 w hw).2, by decide, (q_w 174 (by decide +kernel) rfl), rfl, tyX4_ok, nmX4, rfl, rfl, fun _ => rfl⟩
theorem fl_X4_23 : q_fl RX4 23 4 2 := ⟨RX4, TX4, 7, _, by decide, rfl, rfl, fun w hw => q_T_in (iX4 w hw).1 (iX4 w hw).2, by decide, (q_w 175 (by decide +kernel) rfl), rfl⟩
theorem fp_X4_23 : q_fp RX4 23 4 2 true (tyX4 2) := ⟨RX4, TX4, 7, _, tyX4, by decide, rfl, rfl, fun w hw => q_T_in (iX4 w hw).1 (iX4 w hw).2, by decide, (q_w 175 (by decide +kernel) rfl), rfl, tyX4_ok, nmX4, rfl, rfl, fun _ => rfl⟩
theorem fl_X4_27 : q_fl RX4 27 4 3 := ⟨RX4, TX4, 7, _, by decide, rfl, rfl, fun w hw => q_T_in (iX4 w hw).1 (iX4 w hw).2, by decide, (q_w 176 (by decide +kernel) rfl), rfl⟩
theorem fp_X4_27 : q_fp RX4 27 4 3 false (tyX4 3) := ⟨RX4, TX4, 7, _, tyX4, by decide, rfl, rfl, fun w hw => q_T_in (iX4 w hw).1 (iX4 w hw).2, by decide, (q_w 176 (by decide +kernel) rfl), rfl, tyX4_ok, nmX4, rfl, rfl, fun h => by cases h⟩
theorem fl_X4_34 : q_fl RX4 34 4 4 := ⟨RX4, TX4, 7, _, by decide, rfl, rfl, fun w hw => q_T_in (iX4 w hw).1 (iX4 w hw).2, by decide, (q_w 177 (by decide +kernel) rfl), rfl⟩
theorem fp_X4_34 : q_fp RX4 34 4 4 true (tyX4 4) := ⟨RX4, TX4, 7, _, tyX4, by decide, rfl, rfl, fun w hw => q_T_in (iX4 w hw).1 (iX4 w hw).2, by decide, (q_w 177 (by decide +kernel) rfl), rfl, tyX4_ok, nmX4, rfl, rfl, fun _ => rfl⟩
theorem fl_X4_38 : q_fl RX4 38 4 5 := ⟨RX4, TX4, 7, _, by decide, rfl, rfl, fun w hw => q_T_in (iX4 w hw).1 (iX4 w hw).2, by decide, (q_w 178 (by decide +kernel) rfl), rfl⟩
theorem fp_X4_38 : q_fp RX4 38 4 5 true (tyX4 5) := ⟨RX4, TX4, 7, _, tyX4, by decide, rfl, rfl, fun w hw => q_T_in (iX4 w hw).1 (iX4 w hw).2, by decide, (q_w 178 (by decide +kernel) rfl), rfl, tyX4_ok, nmX4, rfl, rfl, fun _ => rfl⟩
theorem fl_X4_41 : q_fl RX4 41 4 6 := ⟨RX4, TX4, 7, _, by decide, rfl, rfl, fun w hw => q_T_in (iX4 w hw).1 (iX4 w hw).2, by decide, (q_w 179 (by decide +kernel) rfl), rfl⟩
theorem fp_X4_41 : q_fp RX4 41 4 6 true (tyX4 6) := ⟨RX4, TX4, 7, _, tyX4, by decide, rfl, rfl, fun w hw => q_T_in (iX4 w hw).1 (iX4 w hw).2, by decide, (q_w 179 (by decide +kernel) rfl), rfl, tyX4_ok, nmX4, rfl, rfl, fun _ => rfl⟩
theorem fl_X4_113 : q_fl RX4 113 2 6 := ⟨RX2, TX2, 8, _, by decide, rfl, rfl, fun w hw => q_T_in (iX2 w hw).1 (iX2 w hw).2, by decide, (q_w 116 (by decide +kernel) rfl), rfl⟩
theorem fl_X4_160 : q_fl RX4 160 0 3 := ⟨RX0, TX0, 9, _, by decide, rfl, rfl, fun w hw => q_T_in (iX0 w hw).1 (iX0 w hw).2, by decide, (q_w 147 (by decide +kernel) rfl), rfl⟩
theorem fl_X4_175 : q_fl RX4 175 0 4 := ⟨RX0, TX0, 9, _, by decide, rfl, rfl, fun w hw => q_T_in (iX0 w hw).1 (iX0 w hw).2, by decide, (q_w 149 (by decide +kernel) rfl), rfl⟩
theorem fl_X4_231 : q_fl RX4 231 3 5 := ⟨RX3, TX3, 8, _, by decide, rfl, rfl, fun w hw => q_T_in (iX3 w hw).1 (iX3 w hw).2, by decide, (q_w 39 (by decide +kernel) rfl), rfl⟩
theorem fl_X4_234 : q_fl RX4 234 2 7 := ⟨RX2, TX2, 8, _, by decide, rfl, rfl, fun w hw => q_T_in (iX2 w hw).1 (iX2 w hw).2, by decide, (q_w 118 (by decide +kernel) rfl), rfl⟩
theorem fl_X4_313 : q_fl RX4 313 3 6 := ⟨RX3, TX3, 8, _, by decide, rfl, rfl, fun w hw => q_T_in (iX3 w hw).1 (iX3 w hw).2, by decide, (q_w 41 (by decide +kernel) rfl), rfl⟩
theorem fl_X4_316 : q_fl RX4 316 3 7 := ⟨RX3, TX3, 8, _, by decide, rfl, rfl, fun w hw => q_T_in (iX3 w hw).1 (iX3 w hw).2, by decide, (q_w 43 (by decide +kernel) rfl), rfl⟩
theorem fl_X4_319 : q_fl RX4 319 1 0 := ⟨RX1, TX1, 9, _, by decide, rfl, rfl, fun w hw => q_T_in (iX1 w hw).1 (iX1 w hw).2, by decide, (q_w 76 (by decide +kernel) rfl), rfl⟩
theorem fl_X4_329 : q_fl RX4 329 1 3 := ⟨RX1, TX1, 9, _, by decide, rfl, rfl, fun w hw => q_T_in (iX1 w hw).1 (iX1 w hw).2, by decide, (q_w 83 (by decide +kernel) rfl), rfl⟩
theorem fl_X4_336 : q_fl RX4 336 1 1 := ⟨RX1, TX1, 9, _, by decide, rfl, rfl, fun w hw => q_T_in (iX1 w hw).1 (iX1 w hw).2, by decide, (q_w 78 (by decide +kernel) rfl), rfl⟩
theorem fl_X4_339 : q_fl RX4 339 1 2 := ⟨RX1, TX1, 9, _, by decide, rfl, rfl, fun w hw => q_T_in (iX1 w hw).1 (iX1 w hw).2, by decide, (q_w 80 (by decide +kernel) rfl), rfl⟩
theorem fl_X0_11 : q_fl RX0 11 0 0 := ⟨RX0, TX0, 9, _, by decide, rfl, rfl, fun w hw => q_T_in (iX0 w hw).1 (iX0 w hw).2, by decide, (q_w 143 (by decide +kernel) rfl), rfl⟩
theorem fp_X0_11 : q_fp RX0 11 0 0 true (tyX0 0) := ⟨RX0, TX0, 9, _, tyX0, by decide, rfl, rfl, fun w hw => q_T_in (iX0 w hw).1 (iX0 w hw).2, by decide, (q_w 143 (by decide +kernel) rfl), rfl, tyX0_ok, nmX0, rfl, rfl, fun _ => rfl⟩
theorem fl_X0_15 : q_fl RX0 15 0 1 := ⟨RX0, TX0, 9, _, by decide, rfl, rfl, fun w hw => q_T_in (iX0 w hw).1 (iX0 w hw).2, by decide, (q_w 144 (by decide +kernel) rfl), rfl⟩
theorem fp_X0_15 : q_fp RX0 15 0 1 true (tyX0 1) := ⟨RX0, TX0, 9, _, tyX0, by decide, rfl, rfl, fun w hw => q_T_in (iX0 w hw).1 (iX0 w hw).2, by decide, (q_w 144 (by decide +kernel) rfl), rfl, tyX0_ok, nmX0, rfl, rfl, fun _ => rfl⟩
theorem fl_X0_18 : q_fl RX0 18 0 2 := ⟨RX0, TX0, 9, _, by decide, rfl, rfl, fun w hw => q_T_in (iX0 w hw).1 (iX0 w hw).2, by decide, (q_w 145 (by decide +kernel) rfl), rfl⟩
theorem fp_X0_18 : q_fp RX0 18 0 2 true (tyX0 2) := ⟨RX0, TX0, 9, _, tyX0, by decide, rfl, rfl, fun w hw => q_T_in (iX0 w hw).1 (iX0 w hw).2, by decide, (q_w 145 (by decide +kernel) rfl), rfl, tyX0_ok, nmX0, rfl, rfl, fun _ => rfl⟩
theorem fl_X0_22 : q_fl RX0 22 0 3 := ⟨RX0, TX0, 9, _, by decide, rfl, rfl, fun w hw => q_T_in (iX0 w hw).1 (iX0 w hw).2, by decide, (q_w 146 (by decide +kernel) rfl), rfl⟩
theorem fp_X0_22 : q_fp RX0 22 0 3 false (tyX0 3) := ⟨RX0, TX0, 9, _, tyX0, by decide, rfl, rfl, fun w hw => q_T_in (iX0 w hw).1 (iX0 w hw).2, by decide, (q_w 146 (by decide +kernel) rfl), rfl, tyX0_ok, nmX0, rfl, rfl, fun h => by cases h⟩
theorem fl_X0_26 : q_fl RX0 26 0 4 := ⟨RX0, TX0, 9, _, by decide, rfl, rfl, fun w hw => q_T_in (iX0 w hw).1 (iX0 w hw).2, by decide, (q_w 148 (by decide +kernel) rfl), rfl⟩
theorem fp_X0_26 : q_fp RX0 26 0 4 false (tyX0 4) := ⟨RX0, TX0, 9, _, tyX0, by decide, rfl, rfl, fun w hw => q_T_in (iX0 w hw).1 (iX0 w hw).2, by decide, (q_w 148 (by decide +kernel) rfl), rfl, tyX0_ok, nmX0, rfl, rfl, fun h => by cases h⟩
theorem fl_X0_29 : q_fl RX0 29 0 5 := ⟨RX0, TX0, 9, _, by decide, rfl, rfl, fun w hw => q_T_in (iX0 w hw).1 (iX0 w hw).2, by decide, (q_w 150 (by decide +kernel) rfl), rfl⟩
theorem fp_X0_29 : q_fp RX0 29 0 5 false (tyX0 5) := ⟨RX0, TX0, 9, _, tyX0, by decide, rfl, rfl, fun w hw => q_T_in (iX0 w hw).1 (iX0 w hw).2, by decide, (q_w 150 (by decide +kernel) rfl), rfl, tyX0_ok, nmX0, rfl, rfl, fun h => by cases h⟩
theorem fl_X0_33 : q_fl RX0 33 0 6 := ⟨RX0, TX0, 9, _, by decide, rfl, rfl, fun w hw => q_T_in (iX0 w hw).1 (iX0 w hw).2, by decide, (q_w 151 (by decide +kernel) rfl), rfl⟩
theorem fp_X0_33 : q_fp RX0 33 0 6 false (tyX0 6) := ⟨RX0, TX0, 9, _, tyX0, by decide, rfl, rfl, fun w hw => q_T_in (iX0 w hw).1 (iX0 w hw).2, by decide, (q_w 151 (by decide +kernel) rfl), rfl, tyX0_ok, nmX0, rfl, rfl, fun h => by cases h⟩
theorem fl_X0_36 : q_fl RX0 36 0 7 := ⟨RX0, TX0, 9, _, by decide, rfl, rfl, fun w hw => q_T_in (iX0 w hw).1 (iX0 w hw).2, by decide, (q_w 152 (by decide +kernel) rfl), rfl⟩
theorem fp_X0_36 : q_fp RX0 36 0 7 false (tyX0 7) := ⟨RX0, TX0, 9, _, tyX0, by decide, rfl, rfl, fun w hw => q_T_in (iX0 w hw).1 (iX0 w hw).2, by decide, (q_w 152 (by decide +kernel) rfl), rfl, tyX0_ok, nmX0, rfl, rfl, fun h => by cases h⟩
theorem fl_X0_39 : q_fl RX0 39 0 8 := ⟨RX0, TX0, 9, _, by decide, rfl, rfl, fun w hw => q_T_in (iX0 w hw).1 (iX0 w hw).2, by decide, (q_w 153 (by decide +kernel) rfl), rfl⟩
theorem fp_X0_39 : q_fp RX0 39 0 8 false (tyX0 8) := ⟨RX0, TX0, 9, _, tyX0, by decide, rfl, rfl, fun w hw => q_T_in (iX0 w hw).1 (iX0 w hw).2, by decide, (q_w 153 (by decide +kernel) rfl), rfl, tyX0_ok, nmX0, rfl, rfl, fun h => by cases h⟩
theorem fl_X1_9 : q_fl RX1 9 1 0 := ⟨RX1, TX1, 9, _, by decide, rfl, rfl, fun w hw => q_T_in (iX1 w hw).1 (iX1 w hw).2, by decide, (q_w 75 (by decide +kernel) rfl), rfl⟩
theorem fp_X1_9 : q_fp RX1 9 1 0 false (tyX1 0) := ⟨RX1, TX1, 9, _, tyX1, by decide, rfl, rfl, fun w hw => q_T_in (iX1 w hw).1 (iX1 w hw).2, by decide, (q_w 75 (by decide +kernel) rfl), rfl, tyX1_ok, nmX1, rfl, rfl, fun h => by cases h⟩
theorem fl_X1_15 : q_fl RX1 15 1 1 := ⟨RX1, TX1, 9, _, by decide, rfl, rfl, fun w hw => q_T_in (iX1 w hw).1 (iX1 w hw).2, by decide, (q_w 77 (by decide +kernel) rfl), rfl⟩
theorem fp_X1_15 : q_fp RX1 15 1 1 false (tyX1 1) := ⟨RX1, TX1, 9, _, tyX1, by decide, rfl, rfl, fun w hw => q_T_in (iX1 w hw).1 (iX1 w hw).2, by decide, (q_w 77 (by decide +kernel) rfl), rfl, tyX1_ok, nmX1, rfl, rfl, fun h => by cases h⟩
theorem fl_X1_18 : q_fl RX1 18 1 2 := ⟨RX1, TX1, 9, _, by decide, rfl, rfl, fun w hw => q_T_in (iX1 w hw).1 (iX1 w hw).2, by decide, (q_w 79 (by decide +kernel) rfl), rfl⟩
theorem fp_X1_18 : q_fp RX1 18 1 2 false (tyX1 2) := ⟨RX1, TX1, 9, _, tyX1, by decide, rfl, rfl, fun w hw => q_T_in (iX1 w hw).1 (iX1 w hw).2, by decide, (q_w 79 (by decide +kernel) rfl), rfl, tyX1_ok, nmX1, rfl, rfl, fun h => by cases h⟩
theorem fl_X1_21 : q_fl RX1 21 1 3 := ⟨RX1, TX1, 9, _, by decide, rfl, rfl, fun w hw => q_T_in (iX1 w hw).1 (iX1 w hw).2, by decide, (q_w 81 (by decide +kernel) rfl), rfl⟩
theorem fp_X1_21 : q_fp RX1 21 1 3 false (tyX1 3) := ⟨RX1, TX1, 9, _, tyX1, by decide, rfl, rfl, fun w hw => q_T_in (iX1 w hw).1 (iX1 w hw).2, by decide, (q_w 81 (by decide +kernel) rfl), rfl, tyX1_ok, nmX1, rfl, rfl, fun h => by cases h⟩
theorem fl_X1_24 : q_fl RX1 24 1 4 := ⟨RX1, TX1, 9, _, by decide, rfl, rfl, fun w hw => q_T_in (iX1 w hw).1 (iX1 w hw).2, by decide, (q_w 84 (by decide +kernel) rfl), rfl⟩
theorem fp_X1_24 : q_fp RX1 24 1 4 false (tyX1 4) := ⟨RX1, TX1, 9, _, tyX1, by decide, rfl, rfl, fun w hw => q_T_in (iX1 w hw).1 (iX1 w hw).2, by decide, (q_w 84 (by decide +kernel) rfl), rfl, tyX1_ok, nmX1, rfl, rfl, fun h => by cases h⟩
theorem fl_X1_27 : q_fl RX1 27 1 5 := ⟨RX1, TX1, 9, _, by decide, rfl, rfl, fun w hw => q_T_in (iX1 w hw).1 (iX1 w hw).2, by decide, (q_w 85 (by decide +kernel) rfl), rfl⟩
theorem fp_X1_27 : q_fp RX1 27 1 5 false (tyX1 5) := ⟨RX1, TX1, 9, _, tyX1, by decide, rfl, rfl, fun w hw => q_T_in (iX1 w hw).1 (iX1 w hw).2, by decide, (q_w 85 (by decide +kernel) rfl), rfl, tyX1_ok, nmX1, rfl, rfl, fun h => by cases h⟩
theorem fl_X1_30 : q_fl RX1 30 1 6 := ⟨RX1, TX1, 9, _, by decide, rfl, rfl, fun w hw => q_T_in (iX1 w hw).1 (iX1 w hw).2, by decide, (q_w 86 (by decide +kernel) rfl), rfl⟩
theorem fp_X1_30 : q_fp RX1 30 1 6 false (tyX1 6) := ⟨RX1, TX1, 9, _, tyX1, by decide, rfl, rfl, fun w hw => q_T_in (iX1 w hw).1 (iX1 w hw).2, by decide, (q_w 86 (by decide +kernel) rfl), rfl, tyX1_ok, nmX1, rfl, rfl, fun h => by cases h⟩
theorem fl_X1_33 : q_fl RX1 33 1 7 := ⟨RX1, TX1, 9, _, by decide, rfl, rfl, fun w hw => q_T_in (iX1 w hw).1 (iX1 w hw).2, by decide, (q_w 87 (by decide +kernel) rfl), rfl⟩
theorem fp_X1_33 : q_fp RX1 33 1 7 false (tyX1 7) := ⟨RX1, TX1, 9, _, tyX1, by decide, rfl, rfl, fun w hw => q_T_in (iX1 w hw).1 (iX1 w hw).2, by decide, (q_w 87 (by decide +kernel) rfl), rfl, tyX1_ok, nmX1, rfl, rfl, fun h => by cases h⟩
theorem fl_X1_36 : q_fl RX1 36 1 8 := ⟨RX1, TX1, 9, _, by decide, rfl, rfl, fun w hw => q_T_in (iX1 w hw).1 (iX1 w hw).2, by decide, (q_w 88 (by decide +kernel) rfl), rfl⟩
theorem fp_X1_36 : q_fp RX1 36 1 8 false (tyX1 8) := ⟨RX1, TX1, 9, _, tyX1, by decide, rfl, rfl, fun w hw => q_T_in (iX1 w hw).1 (iX1 w hw).2, by decide, (q_w 88 (by decide +kernel) rfl), rfl, tyX1_ok, nmX1, rfl, rfl, fun h => by cases h⟩
theorem fl_X2_11 : q_fl RX2 11 2 0 := ⟨RX2, TX2, 8, _, by decide, rfl, rfl, fun w hw => q_T_in (iX2 w hw).1 (iX2 w hw).2, by decide, (q_w 109 (by decide +kernel) rfl), rfl⟩
theorem fp_X2_11 : q_fp RX2 11 2 0 true (tyX2 0) := ⟨RX2, TX2, 8, _, tyX2, by decide, rfl, rfl, fun w hw => q_T_in (iX2 w hw).1 (iX2 w hw).2, by decide, (q_w 109 (by decide +kernel) rfl), rfl, tyX2_ok, nmX2, rfl, rfl, fun _ => rfl⟩
theorem fl_X2_17 : q_fl RX2 17 2 1 := ⟨RX2, TX2, 8, _, by decide, rfl, rfl, fun w hw => q_T_in (iX2 w hw).1 (iX2 w hw).2, by decide, (q_w 110 (by decide +kernel) rfl), rfl⟩
theorem fp_X2_17 : q_fp RX2 17 2 1 true (tyX2 1) := ⟨RX2, TX2, 8, _, tyX2, by decide, rfl, rfl, fun w hw => q_T_in (iX2 w hw).1 (iX2 w hw).2, by decide, (q_w 110 (by decide +kernel) rfl), rfl, tyX2_ok, nmX2, rfl, rfl, fun _ => rfl⟩
theorem fl_X2_21 : q_fl RX2 21 2 2 := ⟨RX2, TX2, 8, _, by decide, rfl, rfl, fun w hw => q_T_in (iX2 w hw).1 (iX2 w hw).2, by decide, (q_w 111 (by decide +kernel) rfl), rfl⟩
theorem fp_X2_21 : q_fp RX2 21 2 2 true (tyX2 2) := ⟨RX2, TX2, 8, _, tyX2, by decide, rfl, rfl, fun w hw => q_T_in (iX2 w hw).1 (iX2 w hw).2, by decide, (q_w 111 (by decide +kernel) rfl), rfl, tyX2_ok, nmX2, rfl, rfl, fun _ => rfl⟩
theorem fl_X2_25 : q_fl RX2 25 2 3 := ⟨RX2, TX2, 8, _, by decide, rfl, rfl, fun w hw => q_T_in (iX2 w hw).1 (iX2 w hw).2, by decide, (q_w 112 (by decide +kernel) rfl), rfl⟩
theorem fp_X2_25 : q_fp RX2 25 2 3 true (tyX2 3) := ⟨RX2, TX2, 8, _, tyX2, by decide, rfl, rfl, fun w hw => q_T_in (iX2 w hw).1 (iX2 w hw).2, by decide, (q_w 112 (by decide +kernel) rfl), rfl, tyX2_ok, nmX2, rfl, rfl, fun _ => rfl⟩
theorem fl_X2_28 : q_fl RX2 28 2 4 := ⟨RX2, TX2, 8, _, by decide, rfl, rfl, fun w hw => q_T_in (iX2 w hw).1 (iX2 w hw).2, by decide, (q_w 113 (by decide +kernel) rfl), rfl⟩
theorem fp_X2_28 : q_fp RX2 28 2 4 true (tyX2 4) := ⟨RX2, TX2, 8, _, tyX2, by decide, rfl, rfl, fun w hw => q_T_in (iX2 w hw).1 (iX2 w hw).2, by decide, (q_w 113 (by decide +kernel) rfl), rfl, tyX2_ok, nmX2, rfl, rfl, fun _ => rfl⟩
theorem fl_X2_31 : q_fl RX2 31 2 5 := ⟨RX2, TX2, 8, _, by decide, rfl, rfl, fun w hw => q_T_in (iX2 w hw).1 (iX2 w hw).2, by decide, (q_w 114 (by decide +kernel) rfl), rfl⟩
theorem fp_X2_31 : q_fp RX2 31 2 5 false (tyX2 5) := ⟨RX2, TX2, 8, _, tyX2, by decide, rfl, rfl, fun w hw => q_T_in (iX2 w hw).1 (iX2 w hw).2, by decide, (q_w 114 (by decide +kernel) rfl), rfl, tyX2_ok, nmX2, rfl, rfl, fun h => by cases h⟩
theorem fl_X2_35 : q_fl RX2 35 2 6 := ⟨RX2, TX2, 8, _, by decide, rfl, rfl, fun w hw => q_T_in (iX2 w hw).1 (iX2 w hw).2, by decide, (q_w 115 (by decide +kernel) rfl), rfl⟩
theorem fp_X2_35 : q_fp RX2 35 2 6 false (tyX2 6) := ⟨RX2, TX2, 8, _, tyX2, by decide, rfl, rfl, fun w hw => q_T_in (iX2 w hw).1 (iX2 w hw).2, by decide, (q_w 115 (by decide +kernel) rfl), rfl, tyX2_ok, nmX2, rfl, rfl, fun h => by cases h⟩
theorem fl_X2_38 : q_fl RX2 38 2 7 := ⟨RX2, TX2, 8, _, by decide, rfl, rfl, fun w hw => q_T_in (iX2 w hw).1 (iX2 w hw).2, by decide, (q_w 117 (by decide +kernel) rfl), rfl⟩
theorem fp_X2_38 : q_fp RX2 38 2 7 false (tyX2 7) := ⟨RX2, TX2, 8, _, tyX2, by decide, rfl, rfl, fun w hw => q_T_in (iX2 w hw).1 (iX2 w hw).2, by decide, (q_w 117 (by decide +kernel) rfl), rfl, tyX2_ok, nmX2, rfl, rfl, fun h => by cases h⟩
theorem fl_X2_68 : q_fl RX2 68 3 5 := ⟨RX3, TX3, 8, _, by decide, rfl, rfl, fun w hw => q_T_in (iX3 w hw).1 (iX3 w hw).2, by decide, (q_w 38 (by decide +kernel) rfl), rfl⟩
theorem fl_X2_109 : q_fl RX2 109 1 3 := ⟨RX1, TX1, 9, _, by decide, rfl, rfl, fun w hw => q_T_in (iX1 w hw).1 (iX1 w hw).2, by decide, (q_w 82 (by decide +kernel) rfl), rfl⟩
theorem fl_X3_9 : q_fl RX3 9 3 0 := ⟨RX3, TX3, 8, _, by decide, rfl, rfl, fun w hw => q_T_in (iX3 w hw).1 (iX3 w hw).2, by decide, (q_w 32 (by decide +kernel) rfl), rfl⟩
theorem fp_X3_9 : q_fp RX3 9 3 0 true (tyX3 0) := ⟨RX3, TX3, 8, _, tyX3, by decide, rfl, rfl, fun w hw => q_T_in (iX3 w hw).1 (iX3 w hw).2, by decide, (q_w 32 (by decide +kernel) rfl), rfl, tyX3_ok, nmX3, rfl, rfl, fun _ => rfl⟩
theorem fl_X3_15 : q_fl RX3 15 3 1 := ⟨RX3, TX3, 8, _, by decide, rfl, rfl, fun w hw => q_T_in (iX3 w hw).1 (iX3 w hw).2, by decide, (q_w 33 (by decide +kernel) rfl), rfl⟩
theorem fp_X3_15 : q_fp RX3 15 3 1 true (tyX3 1) := ⟨RX3, TX3, 8, _, tyX3, by decide, rfl, rfl, fun w hw => q_T_in (iX3 w hw).1 (iX3 w hw).2, by decide, (q_w 33 (by decide +kernel) rfl), rfl, tyX3_ok, nmX3, rfl, rfl, fun _ => rfl⟩
theorem fl_X3_18 : q_fl RX3 18 3 2 := ⟨RX3, TX3, 8, _, by decide, rfl, rfl, fun w hw => q_T_in (iX3 w hw).1 (iX3 w hw).2, by decide, (q_w 34 (by decide +kernel) rfl), rfl⟩
theorem fp_X3_18 : q_fp RX3 18 3 2 true (tyX3 2) := ⟨RX3, TX3, 8, _, tyX3, by decide, rfl, rfl, fun w hw => q_T_in (iX3 w hw).1 (iX3 w hw).2, by decide, (q_w 34 (by decide +kernel) rfl), rfl, tyX3_ok, nmX3, rfl, rfl, fun _ => rfl⟩
theorem fl_X3_21 : q_fl RX3 21 3 3 := ⟨RX3, TX3, 8, _, by decide, rfl, rfl, fun w hw => q_T_in (iX3 w hw).1 (iX3 w hw).2, by decide, (q_w 35 (by decide +kernel) rfl), rfl⟩
theorem fp_X3_21 : q_fp RX3 21 3 3 true (tyX3 3) := ⟨RX3, TX3, 8, _, tyX3, by decide, rfl, rfl, fun w hw => q_T_in (iX3 w hw).1 (iX3 w hw).2, by decide, (q_w 35 (by decide +kernel) rfl), rfl, tyX3_ok, nmX3, rfl, rfl, fun _ => rfl⟩
theorem fl_X3_24 : q_fl RX3 24 3 4 := ⟨RX3, TX3, 8, _, by decide, rfl, rfl, fun w hw => q_T_in (iX3 w hw).1 (iX3 w hw).2, by decide, (q_w 36 (by decide +kernel) rfl), rfl⟩
theorem fp_X3_24 : q_fp RX3 24 3 4 true (tyX3 4) := ⟨RX3, TX3, 8, _, tyX3, by decide, rfl, rfl, fun w hw => q_T_in (iX3 w hw).1 (iX3 w hw).2, by decide, (q_w 36 (by decide +kernel) rfl), rfl, tyX3_ok, nmX3, rfl, rfl, fun _ => rfl⟩
theorem fl_X3_27 : q_fl RX3 27 3 5 := ⟨RX3, TX3, 8, _, by decide, rfl, rfl, fun w hw => q_T_in (iX3 w hw).1 (iX3 w hw).2, by decide, (q_w 37 (by decide +kernel) rfl), rfl⟩
theorem fp_X3_27 : q_fp RX3 27 3 5 false (tyX3 5) := ⟨RX3, TX3, 8, _, tyX3, by decide, rfl, rfl, fun w hw => q_T_in (iX3 w hw).1 (iX3 w hw).2, by decide, (q_w 37 (by decide +kernel) rfl), rfl, tyX3_ok, nmX3, rfl, rfl, fun h => by cases h⟩
theorem fl_X3_31 : q_fl RX3 31 3 6 := ⟨RX3, TX3, 8, _, by decide, rfl, rfl, fun w hw => q_T_in (iX3 w hw).1 (iX3 w hw).2, by decide, (q_w 40 (by decide +kernel) rfl), rfl⟩
theorem fp_X3_31 : q_fp RX3 31 3 6 false (tyX3 6) := ⟨RX3, TX3, 8, _, tyX3, by decide, rfl, rfl, fun w hw => q_T_in (iX3 w hw).1 (iX3 w hw).2, by decide, (q_w 40 (by decide +kernel) rfl), rfl, tyX3_ok, nmX3, rfl, rfl, fun h => by cases h⟩
theorem fl_X3_34 : q_fl RX3 34 3 7 := ⟨RX3, TX3, 8, _, by decide, rfl, rfl, fun w hw => q_T_in (iX3 w hw).1 (iX3 w hw).2, by decide, (q_w 42 (by decide +kernel) rfl), rfl⟩
theorem fp_X3_34 : q_fp RX3 34 3 7 false (tyX3 7) := ⟨RX3, TX3, 8, _, tyX3, by decide, rfl, rfl, fun w hw => q_T_in (iX3 w hw).1 (iX3 w hw).2, by decide, (q_w 42 (by decide +kernel) rfl), rfl, tyX3_ok, nmX3, rfl, rfl, fun h => by cases h⟩
theorem fl_X5_7 : q_fl RX5 7 5 1 := ⟨RX5, TX5, 21, _, by decide, rfl, rfl, fun w hw => q_T_in (iX5 w hw).1 (iX5 w hw).2, by decide, (q_w 825 (by decide +kernel) rfl), rfl⟩
theorem fp_X5_7 : q_fp RX5 7 5 1 true (tyX5 1) := ⟨RX5, TX5, 21, _, tyX5, by decide, rfl, rfl, fun w hw => q_T_in (iX5 w hw).1 (iX5 w hw).2, by decide, (q_w 825 (by decide +kernel) rfl), rfl, tyX5_ok, nmX5, rfl, rfl, fun _ => rfl⟩
theorem fl_X5_13 : q_fl RX5 13 5 2 := ⟨RX5, TX5, 21, _, by decide, rfl, rfl, fun w hw => q_T_in (iX5 w hw).1 (iX5 w hw).2, by decide, (q_w 826 (by decide +kernel) rfl), rfl⟩
theorem fp_X5_13 : q_fp RX5 13 5 2 true (tyX5 2) := ⟨RX5, TX5, 21, _, tyX5, by decide, rfl, rfl, fun w hw => q_T_in (iX5 w hw).1 (iX5 w hw).2, by decide, (q_w 826 (by decide +kernel) rfl), rfl, tyX5_ok, nmX5, rfl, rfl, fun _ => rfl⟩
theorem fl_X5_16 : q_fl RX5 16 5 4 := ⟨RX5, TX5, 21, _, by decide, rfl, rfl, fun w hw => q_T_in (iX5 w hw).1 (iX5 w hw).2, by decide, (q_w 828 (by decide +kernel) rfl), rfl⟩
theorem fp_X5_16 : q_fp RX5 16 5 4 true (tyX5 4) := ⟨RX5, TX5, 21, _, tyX5, by decide, rfl, rfl, fun w hw => q_T_in (iX5 w hw).1 (iX5 w hw).2, by decide, (q_w 828 (by decide +kernel) rfl), rfl, tyX5_ok, nmX5, rfl, rfl, fun _ => rfl⟩
theorem fl_X5_19 : q_fl RX5 19 5 5 := ⟨RX5, TX5, 21, _, by decide, rfl, rfl, fun w hw => q_T_in (iX5 w hw).1 (iX5 w hw).2, by decide, (q_w 829 (by decide +kernel) rfl), rfl⟩
theorem fp_X5_19 : q_fp RX5 19 5 5 true (tyX5 5) := ⟨RX5, TX5, 21, _, tyX5, by decide, rfl, rfl, fun w hw => q_T_in (iX5 w hw).1 (iX5 w hw).2, by decide, (q_w 829 (by decide +kernel) rfl), rfl, tyX5_ok, nmX5, rfl, rfl, fun _ => rfl⟩
theorem fl_X5_22 : q_fl RX5 22 5 8 := ⟨RX5, TX5, 21, _, by decide, rfl, rfl, fun w hw => q_T_in (iX5 w hw).1 (iX5 w hw).2, by decide, (q_w 832 (by decide +kernel) rfl), rfl⟩
theorem fp_X5_22 : q_fp RX5 22 5 8 true (tyX5 8) := ⟨RX5, TX5, 21, _, tyX5, by decide, rfl, rfl, fun w hw => q_T_in (iX5 w hw).1 (iX5 w hw).2, by decide, (q_w 832 (by decide +kernel) rfl), rfl, tyX5_ok, nmX5, rfl, rfl, fun _ => rfl⟩
theorem fl_X5_25 : q_fl RX5 25 5 9 := ⟨RX5, TX5, 21, _, by decide, rfl, rfl, fun w hw => q_T_in (iX5 w hw).1 (iX5 w hw).2, by decide, (q_w 833 (by decide +kernel) rfl), rfl⟩
theorem fp_X5_25 : q_fp RX5 25 5 9 true (tyX5 9) := ⟨RX5, TX5, 21, _, tyX5, by decide, rfl, rfl, fun w hw => q_T_in (iX5 w hw).1 (iX5 w hw).2, by decide, (q_w 833 (by decide +kernel) rfl), rfl, tyX5_ok, nmX5, rfl, rfl, fun _ => rfl⟩
theorem fl_X5_28 : q_fl RX5 28 5 10 := ⟨RX5, TX5, 21, _, by decide, rfl, rfl, fun w hw => q_T_in (iX5 w hw).1 (iX5 w hw).2, by decide, (q_w 834 (by decide +kernel) rfl), rfl⟩
theorem fp_X5_28 : q_fp RX5 28 5 10 true (tyX5 10) := ⟨RX5, TX5, 21, _, tyX5, by decide, rfl, rfl, fun w hw => q_T_in (iX5 w hw).1 (iX5 w hw).2, by decide, (q_w 834 (by decide +kernel) rfl), rfl, tyX5_ok, nmX5, rfl, rfl, fun _ => rfl⟩
theorem fl_X5_31 : q_fl RX5 31 5 11 := ⟨RX5, TX5, 21, _, by decide, rfl, rfl, fun w hw => q_T_in (iX5 w hw).1 (iX5 w hw).2, by decide, (q_w 835 (by decide +kernel) rfl), rfl⟩
theorem fp_X5_31 : q_fp RX5 31 5 11 true (tyX5 11) := ⟨RX5, TX5, 21, _, tyX5, by decide, rfl, rfl, fun w hw => q_T_in (iX5 w hw).1 (iX5 w hw).2, by decide, (q_w 835 (by decide +kernel) rfl), rfl, tyX5_ok, nmX5, rfl, rfl, fun _ => rfl⟩
theorem fl_X5_34 : q_fl RX5 34 5 12 := ⟨RX5, TX5, 21, _, by decide, rfl, rfl, fun w hw => q_T_in (iX5 w hw).1 (iX5 w hw).2, by decide, (q_w 836 (by decide +kernel) rfl), rfl⟩
theorem fp_X5_34 : q_fp RX5 34 5 12 true (tyX5 12) := ⟨RX5, TX5, 21, _, tyX5, by decide, rfl, rfl, fun w hw => q_T_in (iX5 w hw).1 (iX5 w hw).2, by decide, (q_w 836 (by decide +kernel) rfl), rfl, tyX5_ok, nmX5, rfl, rfl, fun _ => rfl⟩
theorem fl_X5_37 : q_fl RX5 37 5 13 := ⟨RX5, TX5, 21, _, by decide, rfl, rfl, fun w hw => q_T_in (iX5 w hw).1 (iX5 w hw).2, by decide, (q_w 837 (by decide +kernel) rfl), rfl⟩
theorem fp_X5_37 : q_fp RX5 37 5 13 true (tyX5 13) := ⟨RX5, TX5, 21, _, tyX5, by decide, rfl, rfl, fun w hw => q_T_in (iX5 w hw).1 (iX5 w hw).2, by decide, (q_w 837 (by decide +kernel) rfl), rfl, tyX5_ok, nmX5, rfl, rfl, fun _ => rfl⟩
theorem fl_X5_40 : q_fl RX5 40 5 14 := ⟨RX5, TX5, 21, _, by decide, rfl, rfl, fun w hw => q_T_in (iX5 w hw).1 (iX5 w hw).2, by decide, (q_w 838 (by decide +kernel) rfl), rfl⟩
theorem fp_X5_40 : q_fp RX5 40 5 14 true (tyX5 14) := ⟨RX5, TX5, 21, _, tyX5, by decide, rfl, rfl, fun w hw => q_T_in (iX5 w hw).1 (iX5 w hw).2, by decide, (q_w 838 (by decide +kernel) rfl), rfl, tyX5_ok, nmX5, rfl, rfl, fun _ => rfl⟩
theorem fl_X5_43 : q_fl RX5 43 5 15 := ⟨RX5, TX5, 21, _, by decide, rfl, rfl, fun w hw => q_T_in (iX5 w hw).1 (iX5 w hw).2, by decide, (q_w 839 (by decide +kernel) rfl), rfl⟩
theorem fp_X5_43 : q_fp RX5 43 5 15 true (tyX5 15) := ⟨RX5, TX5, 21, _, tyX5, by decide, rfl, rfl, fun w hw => q_T_in (iX5 w hw).1 (iX5 w hw).2, by decide, (q_w 839 (by decide +kernel) rfl), rfl, tyX5_ok, nmX5, rfl, rfl, fun _ => rfl⟩
theorem fl_X5_47 : q_fl RX5 47 5 16 := ⟨RX5, TX5, 21, _, by decide, rfl, rfl, fun w hw => q_T_in (iX5 w hw).1 (iX5 w hw).2, by decide, (q_w 840 (by decide +kernel) rfl), rfl⟩
theorem fp_X5_47 : q_fp RX5 47 5 16 true (tyX5 16) := ⟨RX5, TX5, 21, _, tyX5, by decide, rfl, rfl, fun w hw => q_T_in (iX5 w hw).1 (iX5 w hw).2, by decide, (q_w 840 (by decide +kernel) rfl), rfl, tyX5_ok, nmX5, rfl, rfl, fun _ => rfl⟩
theorem fl_X5_50 : q_fl RX5 50 5 0 := ⟨RX5, TX5, 21, _, by decide, rfl, rfl, fun w hw => q_T_in (iX5 w hw).1 (iX5 w hw).2, by decide, (q_w 824 (by decide +kernel) rfl), rfl⟩
theorem fp_X5_50 : q_fp RX5 50 5 0 false (tyX5 0) := ⟨RX5, TX5, 21, _, tyX5, by decide, rfl, rfl, fun w hw => q_T_in (iX5 w hw).1 (iX5 w hw).2, by decide, (q_w 824 (by decide +kernel) rfl), rfl, tyX5_ok, nmX5, rfl, rfl, fun h => by cases h⟩
theorem fl_X5_62 : q_fl RX5 62 5 3 := ⟨RX5, TX5, 21, _, by decide, rfl, rfl, fun w hw => q_T_in (iX5 w hw).1 (iX5 w hw).2, by decide, (q_w 827 (by decide +kernel) rfl), rfl⟩
theorem fp_X5_62 : q_fp RX5 62 5 3 false (tyX5 3) := ⟨RX5, TX5, 21, _, tyX5, by decide, rfl, rfl, fun w hw => q_T_in (iX5 w hw).1 (iX5 w hw).2, by decide, (q_w 827 (by decide +kernel) rfl), rfl, tyX5_ok, nmX5, rfl, rfl, fun h => by cases h⟩
theorem fl_X5_72 : q_fl RX5 72 5 7 := ⟨RX5, TX5, 21, _, by decide, rfl, rfl, fun w hw => q_T_in (iX5 w hw).1 (iX5 w hw).2, by decide, (q_w 831 (by decide +kernel) rfl), rfl⟩
theorem fp_X5_72 : q_fp RX5 72 5 7 false (tyX5 7) := ⟨RX5, TX5, 21, _, tyX5, by decide, rfl, rfl, fun w hw => q_T_in (iX5 w hw).1 (iX5 w hw).2, by decide, (q_w 831 (by decide +kernel) rfl), rfl, tyX5_ok, nmX5, rfl, rfl, fun h => by cases h⟩
theorem fl_X5_170 : q_fl RX5 170 5 6 := ⟨RX5, TX5, 21, _, by decide, rfl, rfl, fun w hw => q_T_in (iX5 w hw).1 (iX5 w hw).2, by decide, (q_w 830 (by decide +kernel) rfl), rfl⟩
theorem fp_X5_170 : q_fp RX5 170 5 6 false (tyX5 6) := ⟨RX5, TX5, 21, _, tyX5, by decide, rfl, rfl, fun w hw => q_T_in (iX5 w hw).1 (iX5 w hw).2, by decide, (q_w 830 (by decide +kernel) rfl), rfl, tyX5_ok, nmX5, rfl, rfl, fun h => by cases h⟩
theorem fl_X5_173 : q_fl RX5 173 5 18 := ⟨RX5, TX5, 21, _, by decide, rfl, rfl, fun w hw => q_T_in (iX5 w hw).1 (iX5 w hw).2, by decide, (q_w 842 (by decide +kernel) rfl), rfl⟩
theorem fp_X5_173 : q_fp RX5 173 5 18 false (tyX5 18) := ⟨RX5, TX5, 21, _, tyX5, by decide, rfl, rfl, fun w hw => q_T_in (iX5 w hw).1 (iX5 w hw).2, by decide, (q_w 842 (by decide +kernel) rfl), rfl, tyX5_ok, nmX5, rfl, rfl, fun h => by cases h⟩
theorem fl_X5_176 : q_fl RX5 176 5 19 := ⟨RX5, TX5, 21, _, by decide, rfl, rfl, fun w hw => q_T_in (iX5 w hw).1 (iX5 w hw).2, by decide, (q_w 843 (by decide +kernel) rfl), rfl⟩
theorem fp_X5_176 : q_fp RX5 176 5 19 false (tyX5 19) := ⟨RX5, TX5, 21, _, tyX5, by decide, rfl, rfl, fun w hw => q_T_in (iX5 w hw).1 (iX5 w hw).2, by decide, (q_w 843 (by decide +kernel) rfl), rfl, tyX5_ok, nmX5, rfl, rfl, fun h => by cases h⟩
theorem fl_X5_186 : q_fl RX5 186 5 17 := ⟨RX5, TX5, 21, _, by decide, rfl, rfl, fun w hw => q_T_in (iX5 w hw).1 (iX5 w hw).2, by decide, (q_w 841 (by decide +kernel) rfl), rfl⟩
theorem fp_X5_186 : q_fp RX5 186 5 17 false (tyX5 17) := ⟨RX5, TX5, 21, _, tyX5, by decide, rfl, rfl, fun w hw => q_T_in (iX5 w hw).1 (iX5 w hw).2, by decide, (q_w 841 (by decide +kernel) rfl), rfl, tyX5_ok, nmX5, rfl, rfl, fun h => by cases h⟩
theorem fl_X5_263 : q_fl RX5 263 5 20 := ⟨RX5, TX5, 21, _, by decide, rfl, rfl, fun w hw => q_T_in (iX5 w hw).1 (iX5 w hw).2, by decide, (q_w 844 (by decide +kernel) rfl), rfl⟩
theorem fp_X5_263 : q_fp RX5 263 5 20 false (tyX5 20) := ⟨RX5, TX5, 21, _, tyX5, by decide, rfl, rfl, fun w hw => q_T_in (iX5 w hw).1 (iX5 w hw).2, by decide, (q_w 844 (by decide +kernel) rfl), rfl, tyX5_ok, nmX5, rfl, rfl, fun h => by cases h⟩
theorem cv_X0_61 : q_csN RX0 61 Y_X4_cellNumber 2 := ⟨⟨by decide +kernel, by decide +kernel, by decide +kernel⟩, List.mem_of_getElem? (i := 3) rfl, (q_w 236 (by decide +kernel) rfl), (q_w 1 (by decide +kernel) rfl), (q_w 237 (by decide +kernel) rfl)⟩
theorem cv_X0_42 : q_cv RX0 42 Y_X0_beginSpot 0 := ⟨⟨by decide +kernel, by decide +kernel, by decide +kernel⟩, (q_w 211 (by decide +kernel) rfl), (q_w 213 (by decide +kernel) rfl), (q_ws_s 0 (by decide +kernel) rfl), (q_w 5 (by decide +kernel) rfl), (q_w 214 (by decide +kernel) rfl)⟩
theorem cv_X0_65 : q_cv RX0 65 Y_X0_takeMinus 0 := ⟨⟨by decide +kernel, by decide +kernel, by decide +kernel⟩, (q_w 223 (by decide +kernel) rfl), (q_w 225 (by decide +kernel) rfl), (q_ws_s 2 (by decide +kernel) rfl), (q_w 5 (by decide +kernel) rfl), (q_w 226 (by decide +kernel) rfl)⟩
theorem cv_X0_68 : q_cv RX0 68 Y_X0_takeComma 0 := ⟨⟨by decide +kernel, by decide +kernel, by decide +kernel⟩, (q_w 227 (by decide +kernel) rfl), (q_w 229 (by decide +kernel) rfl), (q_ws_s 3 (by decide +kernel) rfl), (q_w 5 (by decide +kernel) rfl), (q_w 230 (by decide +kernel) rfl)⟩
theorem cv_X0_57 : q_cv RX0 57 Y_X0_endSpot 0 := ⟨⟨by decide +kernel, by decide +kernel, by decide +kernel⟩, (q_w 231 (by decide +kernel) rfl), (q_w 233 (by decide +kernel) rfl), (q_ws_s 4 (by decide +kernel) rfl), (q_w 5 (by decide +kernel) rfl), (q_w 234 (by decide +kernel) rfl)⟩
theorem cv_X0_71 : q_cv RX0 71 Y_X0_takeDigit 1 := ⟨⟨by decide +kernel, by decide +kernel, by decide +kernel⟩, (q_w 238 (by decide +kernel) rfl), (q_w 240 (by decide +kernel) rfl), (q_ws_s 5 (by decide +kernel) rfl), (q_w 5 (by decide +kernel) rfl), (q_w 241 (by decide +kernel) rfl)⟩
theorem cv_X0_45 : q_cv RX0 45 Y_X0_codeAt 1 := ⟨⟨by decide +kernel, by decide +kernel, by decide +kernel⟩, (q_w 215 (by decide +kernel) rfl), (q_w 216 (by decide +kernel) rfl), (q_w 217 (by decide +kernel) rfl), (q_w 5 (by decide +kernel) rfl), (q_w 218 (by decide +kernel) rfl)⟩
theorem cv_X0_49 : q_cv RX0 49 Y_X0_take 1 := ⟨⟨by decide +kernel, by decide +kernel, by decide +kernel⟩, (q_w 219 (by decide +kernel) rfl), (q_w 221 (by decide +kernel) rfl), (q_ws_s 1 (by decide +kernel) rfl), (q_w 5 (by decide +kernel) rfl), (q_w 222 (by decide +kernel) rfl)⟩
theorem cv_X0_53 : q_cv RX0 53 Y_X0_scan 0 := ⟨⟨by decide +kernel, by decide +kernel, by decide +kernel⟩, (q_w 735 (by decide +kernel) rfl), (q_w 208 (by decide +kernel) rfl), (q_w 209 (by decide +kernel) rfl), (q_w 5 (by decide +kernel) rfl), (q_w 210 (by decide +kernel) rfl)⟩
theorem cv_X1_46 : q_cs RX1 46 Y_X1_commonDivisor 2 := ⟨⟨by decide +kernel, by decide +kernel, by decide +kernel⟩, (q_w 455 (by decide +kernel) rfl), (q_w 456 (by decide +kernel) rfl), (q_w 4 (by decide +kernel) rfl), (q_w 457 (by decide +kernel) rfl)⟩
theorem cv_X1_50 : q_cv RX1 50 Y_X1_stepsTo 2 := ⟨⟨by decide +kernel, by decide +kernel, by decide +kernel⟩, (q_w 462 (by decide +kernel) rfl), (q_w 464 (by decide +kernel) rfl), (q_ws_s 25 (by decide +kernel) rfl), (q_w 4 (by decide +kernel) rfl), (q_w 465 (by decide +kernel) rfl)⟩
theorem cv_X1_59 : q_cv RX1 59 Y_X1_trackAt 1 := ⟨⟨by decide +kernel, by decide +kernel, by decide +kernel⟩, (q_w 371 (by decide +kernel) rfl), (q_w 373 (by decide +kernel) rfl), (q_ws_s 13 (by decide +kernel) rfl), (q_w 4 (by decide +kernel) rfl), (q_w 374 (by decide +kernel) rfl)⟩
theorem cv_X1_62 : q_cv RX1 62 Y_X1_sectorAt 1 := ⟨⟨by decide +kernel, by decide +kernel, by decide +kernel⟩, (q_w 375 (by decide +kernel) rfl), (q_w 377 (by decide +kernel) rfl), (q_ws_s 14 (by decide +kernel) rfl), (q_w 4 (by decide +kernel) rfl), (q_w 378 (by decide +kernel) rfl)⟩
theorem cv_X1_65 : q_csN RX1 65 Y_X4_inDrive 2 := ⟨⟨by decide +kernel, by decide +kernel, by decide +kernel⟩, List.mem_of_getElem? (i := 8) rfl, (q_w 481 (by decide +kernel) rfl), (q_w 1 (by decide +kernel) rfl), (q_w 482 (by decide +kernel) rfl)⟩
theorem cv_X2_41 : q_ciN RX2 41 Y_X1_init 0 := ⟨⟨by decide +kernel, by decide +kernel, by decide +kernel⟩, List.mem_of_getElem? (i := 1) rfl, (q_w 72 (by decide +kernel) rfl), (q_w 4 (by decide +kernel) rfl), (q_w 73 (by decide +kernel) rfl), rfl, rfl⟩
theorem cv_X2_71 : q_cv RX2 71 Y_X3_cellOfSpot 1 := ⟨⟨by decide +kernel, by decide +kernel, by decide +kernel⟩, (q_w 429 (by decide +kernel) rfl), (q_w 346 (by decide +kernel) rfl), (q_w 347 (by decide +kernel) rfl), (q_w 2 (by decide +kernel) rfl), (q_w 348 (by decide +kernel) rfl)⟩
theorem cv_X2_65 : q_csN RX2 65 Y_X4_isCell 1 := ⟨⟨by decide +kernel, by decide +kernel, by decide +kernel⟩, List.mem_of_getElem? (i := 4) rfl, (q_w 251 (by decide +kernel) rfl), (q_w 1 (by decide +kernel) rfl), (q_w 252 (by decide +kernel) rfl)⟩
theorem cv_X2_87 : q_cv RX2 87 Y_X2_trackOf 1 := ⟨⟨by decide +kernel, by decide +kernel, by decide +kernel⟩, (q_w 438 (by decide +kernel) rfl), (q_w 440 (by decide +kernel) rfl), (q_ws_s 23 (by decide +kernel) rfl), (q_w 3 (by decide +kernel) rfl), (q_w 441 (by decide +kernel) rfl)⟩
theorem cv_X2_90 : q_cv RX2 90 Y_X2_sectorOf 1 := ⟨⟨by decide +kernel, by decide +kernel, by decide +kernel⟩, (q_w 442 (by decide +kernel) rfl), (q_w 444 (by decide +kernel) rfl), (q_ws_s 24 (by decide +kernel) rfl), (q_w 3 (by decide +kernel) rfl), (q_w 445 (by decide +kernel) rfl)⟩
theorem cv_X3_53 : q_csN RX3 53 Y_X4_isSetting 1 := ⟨⟨by decide +kernel, by decide +kernel, by decide +kernel⟩, List.mem_of_getElem? (i := 7) rfl, (q_w 339 (by decide +kernel) rfl), (q_w 1 (by decide +kernel) rfl), (q_w 340 (by decide +kernel) rfl)⟩
theorem cv_X2_75 : q_cv RX2 75 Y_X2_spotsInLineWith 2 := ⟨⟨by decide +kernel, by decide +kernel, by decide +kernel⟩, (q_w 434 (by decide +kernel) rfl), (q_w 436 (by decide +kernel) rfl), (q_ws_s 22 (by decide +kernel) rfl), (q_w 3 (by decide +kernel) rfl), (q_w 437 (by decide +kernel) rfl)⟩
theorem cv_X2_79 : q_cs RX2 79 Y_J6_bitCount_0f7a4 1 := ⟨⟨by decide +kernel, by decide +kernel, by decide +kernel⟩, (q_w 446 (by decide +kernel) rfl), (q_w 358 (by decide +kernel) rfl), (q_w 14 (by decide +kernel) rfl), (q_w 359 (by decide +kernel) rfl)⟩
theorem cv_X2_84 : q_cv RX2 84 Y_X3_settingOf 1 := ⟨⟨by decide +kernel, by decide +kernel, by decide +kernel⟩, (q_w 447 (by decide +kernel) rfl), (q_w 335 (by decide +kernel) rfl), (q_w 336 (by decide +kernel) rfl), (q_w 2 (by decide +kernel) rfl), (q_w 337 (by decide +kernel) rfl)⟩
theorem cv_X2_93 : q_cv RX2 93 Y_X1_aim 4 := ⟨⟨by decide +kernel, by decide +kernel, by decide +kernel⟩, (q_w 448 (by decide +kernel) rfl), (q_w 449 (by decide +kernel) rfl), (q_w 450 (by decide +kernel) rfl), (q_w 4 (by decide +kernel) rfl), (q_w 451 (by decide +kernel) rfl)⟩
theorem cv_X2_97 : q_cv RX2 97 Y_X1_join 3 := ⟨⟨by decide +kernel, by decide +kernel, by decide +kernel⟩, (q_w 458 (by decide +kernel) rfl), (q_w 459 (by decide +kernel) rfl), (q_w 460 (by decide +kernel) rfl), (q_w 4 (by decide +kernel) rfl), (q_w 461 (by decide +kernel) rfl)⟩
theorem cv_X2_101 : q_cv RX2 101 Y_X1_widestGap 0 := ⟨⟨by decide +kernel, by decide +kernel, by decide +kernel⟩, (q_w 472 (by decide +kernel) rfl), (q_w 473 (by decide +kernel) rfl), (q_w 474 (by decide +kernel) rfl), (q_w 4 (by decide +kernel) rfl), (q_w 475 (by decide +kernel) rfl)⟩
theorem cv_X2_105 : q_cv RX2 105 Y_X1_spread 1 := ⟨⟨by decide +kernel, by decide +kernel, by decide +kernel⟩, (q_w 476 (by decide +kernel) rfl), (q_w 477 (by decide +kernel) rfl), (q_w 478 (by decide +kernel) rfl), (q_w 4 (by decide +kernel) rfl), (q_w 479 (by decide +kernel) rfl)⟩
theorem cv_X2_112 : q_cv RX2 112 Y_X1_cellAt 1 := ⟨⟨by decide +kernel, by decide +kernel, by decide +kernel⟩, (q_w 488 (by decide +kernel) rfl), (q_w 368 (by decide +kernel) rfl), (q_w 369 (by decide +kernel) rfl), (q_w 4 (by decide +kernel) rfl), (q_w 370 (by decide +kernel) rfl)⟩
theorem cv_X2_42 : q_cv RX2 42 Y_X2_clear 0 := ⟨⟨by decide +kernel, by decide +kernel, by decide +kernel⟩, (q_w 421 (by decide +kernel) rfl), (q_w 423 (by decide +kernel) rfl), (q_ws_s 19 (by decide +kernel) rfl), (q_w 3 (by decide +kernel) rfl), (q_w 424 (by decide +kernel) rfl)⟩
theorem cv_X2_45 : q_cv RX2 45 Y_X2_takeSpots 1 := ⟨⟨by decide +kernel, by decide +kernel, by decide +kernel⟩, (q_w 425 (by decide +kernel) rfl), (q_w 427 (by decide +kernel) rfl), (q_ws_s 20 (by decide +kernel) rfl), (q_w 3 (by decide +kernel) rfl), (q_w 428 (by decide +kernel) rfl)⟩
theorem cv_X2_49 : q_cv RX2 49 Y_X2_addLine 3 := ⟨⟨by decide +kernel, by decide +kernel, by decide +kernel⟩, (q_w 430 (by decide +kernel) rfl), (q_w 432 (by decide +kernel) rfl), (q_ws_s 21 (by decide +kernel) rfl), (q_w 3 (by decide +kernel) rfl), (q_w 433 (by decide +kernel) rfl)⟩
theorem cv_X2_53 : q_cv RX2 53 Y_X2_lineAt 1 := ⟨⟨by decide +kernel, by decide +kernel, by decide +kernel⟩, (q_w 483 (by decide +kernel) rfl), (q_w 350 (by decide +kernel) rfl), (q_w 351 (by decide +kernel) rfl), (q_w 3 (by decide +kernel) rfl), (q_w 352 (by decide +kernel) rfl)⟩
theorem cv_X2_57 : q_cv RX2 57 Y_X2_hitCells 1 := ⟨⟨by decide +kernel, by decide +kernel, by decide +kernel⟩, (q_w 484 (by decide +kernel) rfl), (q_w 486 (by decide +kernel) rfl), (q_ws_s 26 (by decide +kernel) rfl), (q_w 3 (by decide +kernel) rfl), (q_w 487 (by decide +kernel) rfl)⟩
theorem cv_X2_61 : q_cv RX2 61 Y_X2_isAvoided 1 := ⟨⟨by decide +kernel, by decide +kernel, by decide +kernel⟩, (q_w 489 (by decide +kernel) rfl), (q_w 247 (by decide +kernel) rfl), (q_w 248 (by decide +kernel) rfl), (q_w 3 (by decide +kernel) rfl), (q_w 249 (by decide +kernel) rfl)⟩
theorem cv_X3_46 : q_csN RX3 46 Y_X4_isBlock 1 := ⟨⟨by decide +kernel, by decide +kernel, by decide +kernel⟩, List.mem_of_getElem? (i := 5) rfl, (q_w 279 (by decide +kernel) rfl), (q_w 1 (by decide +kernel) rfl), (q_w 280 (by decide +kernel) rfl)⟩
theorem cv_X3_50 : q_csN RX3 50 Y_X4_isCell 1 := ⟨⟨by decide +kernel, by decide +kernel, by decide +kernel⟩, List.mem_of_getElem? (i := 6) rfl, (q_w 251 (by decide +kernel) rfl), (q_w 1 (by decide +kernel) rfl), (q_w 252 (by decide +kernel) rfl)⟩
theorem cv_X3_56 : q_cv RX3 56 Y_X3_placeOf 1 := ⟨⟨by decide +kernel, by decide +kernel, by decide +kernel⟩, (q_w 416 (by decide +kernel) rfl), (q_w 275 (by decide +kernel) rfl), (q_w 276 (by decide +kernel) rfl), (q_w 2 (by decide +kernel) rfl), (q_w 277 (by decide +kernel) rfl)⟩
theorem cv_X3_60 : q_cv RX3 60 Y_X3_cellOfSpot 1 := ⟨⟨by decide +kernel, by decide +kernel, by decide +kernel⟩, (q_w 405 (by decide +kernel) rfl), (q_w 346 (by decide +kernel) rfl), (q_w 347 (by decide +kernel) rfl), (q_w 2 (by decide +kernel) rfl), (q_w 348 (by decide +kernel) rfl)⟩
theorem cv_X3_63 : q_cv RX3 63 Y_X3_spotAt 1 := ⟨⟨by decide +kernel, by decide +kernel, by decide +kernel⟩, (q_w 401 (by decide +kernel) rfl), (q_w 402 (by decide +kernel) rfl), (q_w 403 (by decide +kernel) rfl), (q_w 2 (by decide +kernel) rfl), (q_w 404 (by decide +kernel) rfl)⟩
theorem cv_X3_66 : q_cv RX3 66 Y_X3_canAddSpot 1 := ⟨⟨by decide +kernel, by decide +kernel, by decide +kernel⟩, (q_w 410 (by decide +kernel) rfl), (q_w 398 (by decide +kernel) rfl), (q_w 399 (by decide +kernel) rfl), (q_w 2 (by decide +kernel) rfl), (q_w 400 (by decide +kernel) rfl)⟩
theorem cv_X3_69 : q_cv RX3 69 Y_X3_holderOf 1 := ⟨⟨by decide +kernel, by decide +kernel, by decide +kernel⟩, (q_w 411 (by decide +kernel) rfl), (q_w 289 (by decide +kernel) rfl), (q_w 290 (by decide +kernel) rfl), (q_w 2 (by decide +kernel) rfl), (q_w 291 (by decide +kernel) rfl)⟩
theorem cv_X3_72 : q_cv RX3 72 Y_X3_forget 1 := ⟨⟨by decide +kernel, by decide +kernel, by decide +kernel⟩, (q_w 412 (by decide +kernel) rfl), (q_w 413 (by decide +kernel) rfl), (q_w 414 (by decide +kernel) rfl), (q_w 2 (by decide +kernel) rfl), (q_w 415 (by decide +kernel) rfl)⟩
theorem cv_X4_9 : q_ci RX4 9 Y_X3_init 0 := ⟨⟨by decide +kernel, by decide +kernel, by decide +kernel⟩, (q_w 26 (by decide +kernel) rfl), (q_w 27 (by decide +kernel) rfl), (q_w 2 (by decide +kernel) rfl), (q_w 28 (by decide +kernel) rfl), rfl, rfl⟩
theorem cv_X4_18 : q_ci RX4 18 Y_X2_init 0 := ⟨⟨by decide +kernel, by decide +kernel, by decide +kernel⟩, (q_w 64 (by decide +kernel) rfl), (q_w 65 (by decide +kernel) rfl), (q_w 3 (by decide +kernel) rfl), (q_w 66 (by decide +kernel) rfl), rfl, rfl⟩
theorem cv_X4_33 : q_ciN RX4 33 Y_X0_init 0 := ⟨⟨by decide +kernel, by decide +kernel, by decide +kernel⟩, List.mem_of_getElem? (i := 2) rfl, (q_w 140 (by decide +kernel) rfl), (q_w 5 (by decide +kernel) rfl), (q_w 141 (by decide +kernel) rfl), rfl, rfl⟩
theorem cv_X4_285 : q_cv RX4 285 Y_X2_isGood 1 := ⟨⟨by decide +kernel, by decide +kernel, by decide +kernel⟩, (q_w 281 (by decide +kernel) rfl), (q_w 282 (by decide +kernel) rfl), (q_w 283 (by decide +kernel) rfl), (q_w 3 (by decide +kernel) rfl), (q_w 284 (by decide +kernel) rfl)⟩
theorem cv_X4_194 : q_cv RX4 194 Y_X3_holderOf 1 := ⟨⟨by decide +kernel, by decide +kernel, by decide +kernel⟩, (q_w 288 (by decide +kernel) rfl), (q_w 289 (by decide +kernel) rfl), (q_w 290 (by decide +kernel) rfl), (q_w 2 (by decide +kernel) rfl), (q_w 291 (by decide +kernel) rfl)⟩
theorem cv_X4_202 : q_cv RX4 202 Y_X3_placeOf 1 := ⟨⟨by decide +kernel, by decide +kernel, by decide +kernel⟩, (q_w 274 (by decide +kernel) rfl), (q_w 275 (by decide +kernel) rfl), (q_w 276 (by decide +kernel) rfl), (q_w 2 (by decide +kernel) rfl), (q_w 277 (by decide +kernel) rfl)⟩
theorem cv_X4_288 : q_cs RX4 288 Y_X4_lowestFreeSpare 2 := ⟨⟨by decide +kernel, by decide +kernel, by decide +kernel⟩, (q_w 285 (by decide +kernel) rfl), (q_w 286 (by decide +kernel) rfl), (q_w 1 (by decide +kernel) rfl), (q_w 287 (by decide +kernel) rfl)⟩
theorem cv_X4_282 : q_cv RX4 282 Y_X4_moveOldestToEnd 0 := ⟨⟨by decide +kernel, by decide +kernel, by decide +kernel⟩, (q_w 630 (by decide +kernel) rfl), (q_w 632 (by decide +kernel) rfl), (q_ws_s 31 (by decide +kernel) rfl), (q_w 1 (by decide +kernel) rfl), (q_w 633 (by decide +kernel) rfl)⟩
theorem cv_X4_183 : q_cv RX4 183 Y_X3_copyFrom 1 := ⟨⟨by decide +kernel, by decide +kernel, by decide +kernel⟩, (q_w 261 (by decide +kernel) rfl), (q_w 262 (by decide +kernel) rfl), (q_w 263 (by decide +kernel) rfl), (q_w 2 (by decide +kernel) rfl), (q_w 264 (by decide +kernel) rfl)⟩
theorem cv_X4_44 : q_cs RX4 44 Y_X4_isBlock 1 := ⟨⟨by decide +kernel, by decide +kernel, by decide +kernel⟩, (q_w 519 (by decide +kernel) rfl), (q_w 279 (by decide +kernel) rfl), (q_w 1 (by decide +kernel) rfl), (q_w 280 (by decide +kernel) rfl)⟩
theorem cv_X4_55 : q_cs RX4 55 Y_X4_isValue 1 := ⟨⟨by decide +kernel, by decide +kernel, by decide +kernel⟩, (q_w 588 (by decide +kernel) rfl), (q_w 589 (by decide +kernel) rfl), (q_w 1 (by decide +kernel) rfl), (q_w 590 (by decide +kernel) rfl)⟩
theorem cv_X4_63 : q_cs RX4 63 Y_X4_cellForWriting 3 := ⟨⟨by decide +kernel, by decide +kernel, by decide +kernel⟩, (q_w 607 (by decide +kernel) rfl), (q_w 608 (by decide +kernel) rfl), (q_w 1 (by decide +kernel) rfl), (q_w 609 (by decide +kernel) rfl)⟩
theorem cv_X4_72 : q_cv RX4 72 Y_X4_saveState 0 := ⟨⟨by decide +kernel, by decide +kernel, by decide +kernel⟩, (q_w 626 (by decide +kernel) rfl), (q_w 628 (by decide +kernel) rfl), (q_ws_s 30 (by decide +kernel) rfl), (q_w 1 (by decide +kernel) rfl), (q_w 629 (by decide +kernel) rfl)⟩
theorem cv_X4_75 : q_cv RX4 75 Y_X3_place 3 := ⟨⟨by decide +kernel, by decide +kernel, by decide +kernel⟩, (q_w 297 (by decide +kernel) rfl), (q_w 298 (by decide +kernel) rfl), (q_w 299 (by decide +kernel) rfl), (q_w 2 (by decide +kernel) rfl), (q_w 300 (by decide +kernel) rfl)⟩
theorem cv_X4_83 : q_cv RX4 83 Y_X3_valueOf 1 := ⟨⟨by decide +kernel, by decide +kernel, by decide +kernel⟩, (q_w 293 (by decide +kernel) rfl), (q_w 294 (by decide +kernel) rfl), (q_w 295 (by decide +kernel) rfl), (q_w 2 (by decide +kernel) rfl), (q_w 296 (by decide +kernel) rfl)⟩
theorem cv_X4_87 : q_cv RX4 87 Y_X3_forget 1 := ⟨⟨by decide +kernel, by decide +kernel, by decide +kernel⟩, (q_w 650 (by decide +kernel) rfl), (q_w 413 (by decide +kernel) rfl), (q_w 414 (by decide +kernel) rfl), (q_w 2 (by decide +kernel) rfl), (q_w 415 (by decide +kernel) rfl)⟩
theorem cv_X4_91 : q_cs RX4 91 Y_X4_inDrive 2 := ⟨⟨by decide +kernel, by decide +kernel, by decide +kernel⟩, (q_w 658 (by decide +kernel) rfl), (q_w 481 (by decide +kernel) rfl), (q_w 1 (by decide +kernel) rfl), (q_w 482 (by decide +kernel) rfl)⟩
theorem cv_X4_97 : q_cs RX4 97 Y_X4_cellNumber 2 := ⟨⟨by decide +kernel, by decide +kernel, by decide +kernel⟩, (q_w 660 (by decide +kernel) rfl), (q_w 236 (by decide +kernel) rfl), (q_w 1 (by decide +kernel) rfl), (q_w 237 (by decide +kernel) rfl)⟩
theorem cv_X4_101 : q_cv RX4 101 Y_X3_canAddSpot 1 := ⟨⟨by decide +kernel, by decide +kernel, by decide +kernel⟩, (q_w 397 (by decide +kernel) rfl), (q_w 398 (by decide +kernel) rfl), (q_w 399 (by decide +kernel) rfl), (q_w 2 (by decide +kernel) rfl), (q_w 400 (by decide +kernel) rfl)⟩
theorem cv_X4_106 : q_cv RX4 106 Y_X3_addSpot 1 := ⟨⟨by decide +kernel, by decide +kernel, by decide +kernel⟩, (q_w 406 (by decide +kernel) rfl), (q_w 407 (by decide +kernel) rfl), (q_w 408 (by decide +kernel) rfl), (q_w 2 (by decide +kernel) rfl), (q_w 409 (by decide +kernel) rfl)⟩
theorem cv_X4_109 : q_cv RX4 109 Y_X2_build 1 := ⟨⟨by decide +kernel, by decide +kernel, by decide +kernel⟩, (q_w 417 (by decide +kernel) rfl), (q_w 418 (by decide +kernel) rfl), (q_w 419 (by decide +kernel) rfl), (q_w 3 (by decide +kernel) rfl), (q_w 420 (by decide +kernel) rfl)⟩
theorem cv_X4_116 : q_cv RX4 116 Y_X3_spotAt 1 := ⟨⟨by decide +kernel, by decide +kernel, by decide +kernel⟩, (q_w 669 (by decide +kernel) rfl), (q_w 402 (by decide +kernel) rfl), (q_w 403 (by decide +kernel) rfl), (q_w 2 (by decide +kernel) rfl), (q_w 404 (by decide +kernel) rfl)⟩
theorem cv_X4_121 : q_cv RX4 121 Y_X3_removeSpot 1 := ⟨⟨by decide +kernel, by decide +kernel, by decide +kernel⟩, (q_w 671 (by decide +kernel) rfl), (q_w 672 (by decide +kernel) rfl), (q_w 673 (by decide +kernel) rfl), (q_w 2 (by decide +kernel) rfl), (q_w 674 (by decide +kernel) rfl)⟩
theorem cv_X4_292 : q_cs RX4 292 Y_X4_cellForTidying 3 := ⟨⟨by decide +kernel, by decide +kernel, by decide +kernel⟩, (q_w 271 (by decide +kernel) rfl), (q_w 272 (by decide +kernel) rfl), (q_w 1 (by decide +kernel) rfl), (q_w 273 (by decide +kernel) rfl)⟩
theorem cv_X4_126 : q_cs RX4 126 Y_X4_tidyUp 3 := ⟨⟨by decide +kernel, by decide +kernel, by decide +kernel⟩, (q_w 268 (by decide +kernel) rfl), (q_w 269 (by decide +kernel) rfl), (q_w 1 (by decide +kernel) rfl), (q_w 270 (by decide +kernel) rfl)⟩
theorem cv_X4_129 : q_cs RX4 129 Y_X4_isSetting 1 := ⟨⟨by decide +kernel, by decide +kernel, by decide +kernel⟩, (q_w 690 (by decide +kernel) rfl), (q_w 339 (by decide +kernel) rfl), (q_w 1 (by decide +kernel) rfl), (q_w 340 (by decide +kernel) rfl)⟩
theorem cv_X4_134 : q_cs RX4 134 Y_X4_fitsSetting 2 := ⟨⟨by decide +kernel, by decide +kernel, by decide +kernel⟩, (q_w 692 (by decide +kernel) rfl), (q_w 693 (by decide +kernel) rfl), (q_w 1 (by decide +kernel) rfl), (q_w 694 (by decide +kernel) rfl)⟩
theorem cv_X4_139 : q_cv RX4 139 Y_X3_settingOf 1 := ⟨⟨by decide +kernel, by decide +kernel, by decide +kernel⟩, (q_w 334 (by decide +kernel) rfl), (q_w 335 (by decide +kernel) rfl), (q_w 336 (by decide +kernel) rfl), (q_w 2 (by decide +kernel) rfl), (q_w 337 (by decide +kernel) rfl)⟩
theorem cv_X4_142 : q_cv RX4 142 Y_X3_changeSetting 2 := ⟨⟨by decide +kernel, by decide +kernel, by decide +kernel⟩, (q_w 700 (by decide +kernel) rfl), (q_w 701 (by decide +kernel) rfl), (q_w 702 (by decide +kernel) rfl), (q_w 2 (by decide +kernel) rfl), (q_w 703 (by decide +kernel) rfl)⟩
theorem cv_X4_146 : q_cs RX4 146 Y_X0_isCode 1 := ⟨⟨by decide +kernel, by decide +kernel, by decide +kernel⟩, (q_w 711 (by decide +kernel) rfl), (q_w 712 (by decide +kernel) rfl), (q_w 5 (by decide +kernel) rfl), (q_w 713 (by decide +kernel) rfl)⟩
theorem cv_X4_151 : q_cv RX4 151 Y_X0_isFull 0 := ⟨⟨by decide +kernel, by decide +kernel, by decide +kernel⟩, (q_w 715 (by decide +kernel) rfl), (q_w 716 (by decide +kernel) rfl), (q_w 717 (by decide +kernel) rfl), (q_w 5 (by decide +kernel) rfl), (q_w 718 (by decide +kernel) rfl)⟩
theorem cv_X4_157 : q_cv RX4 157 Y_X0_add 1 := ⟨⟨by decide +kernel, by decide +kernel, by decide +kernel⟩, (q_w 720 (by decide +kernel) rfl), (q_w 721 (by decide +kernel) rfl), (q_w 722 (by decide +kernel) rfl), (q_w 5 (by decide +kernel) rfl), (q_w 723 (by decide +kernel) rfl)⟩
theorem cv_X4_163 : q_cv RX4 163 Y_X0_empty 0 := ⟨⟨by decide +kernel, by decide +kernel, by decide +kernel⟩, (q_w 199 (by decide +kernel) rfl), (q_w 200 (by decide +kernel) rfl), (q_w 201 (by decide +kernel) rfl), (q_w 5 (by decide +kernel) rfl), (q_w 202 (by decide +kernel) rfl)⟩
theorem cv_X4_166 : q_cv RX4 166 Y_X0_scan 0 := ⟨⟨by decide +kernel, by decide +kernel, by decide +kernel⟩, (q_w 207 (by decide +kernel) rfl), (q_w 208 (by decide +kernel) rfl), (q_w 209 (by decide +kernel) rfl), (q_w 5 (by decide +kernel) rfl), (q_w 210 (by decide +kernel) rfl)⟩
theorem cv_X4_295 : q_cv RX4 295 Y_X0_cellOf 1 := ⟨⟨by decide +kernel, by decide +kernel, by decide +kernel⟩, (q_w 741 (by decide +kernel) rfl), (q_w 742 (by decide +kernel) rfl), (q_w 743 (by decide +kernel) rfl), (q_w 5 (by decide +kernel) rfl), (q_w 744 (by decide +kernel) rfl)⟩
theorem cv_X4_298 : q_cv RX4 298 Y_X0_asksToHeal 1 := ⟨⟨by decide +kernel, by decide +kernel, by decide +kernel⟩, (q_w 745 (by decide +kernel) rfl), (q_w 746 (by decide +kernel) rfl), (q_w 747 (by decide +kernel) rfl), (q_w 5 (by decide +kernel) rfl), (q_w 748 (by decide +kernel) rfl)⟩
theorem cv_X4_170 : q_cv RX4 170 Y_X0_tellsSpots 0 := ⟨⟨by decide +kernel, by decide +kernel, by decide +kernel⟩, (q_w 731 (by decide +kernel) rfl), (q_w 732 (by decide +kernel) rfl), (q_w 733 (by decide +kernel) rfl), (q_w 5 (by decide +kernel) rfl), (q_w 734 (by decide +kernel) rfl)⟩
theorem cv_X4_178 : q_cv RX4 178 Y_X4_follow 1 := ⟨⟨by decide +kernel, by decide +kernel, by decide +kernel⟩, (q_w 737 (by decide +kernel) rfl), (q_w 739 (by decide +kernel) rfl), (q_ws_s 32 (by decide +kernel) rfl), (q_w 1 (by decide +kernel) rfl), (q_w 740 (by decide +kernel) rfl)⟩
theorem cv_X4_188 : q_cv RX4 188 Y_X2_isSpot 1 := ⟨⟨by decide +kernel, by decide +kernel, by decide +kernel⟩, (q_w 765 (by decide +kernel) rfl), (q_w 766 (by decide +kernel) rfl), (q_w 767 (by decide +kernel) rfl), (q_w 3 (by decide +kernel) rfl), (q_w 768 (by decide +kernel) rfl)⟩
theorem cv_X4_191 : q_cv RX4 191 Y_X2_isAvoided 1 := ⟨⟨by decide +kernel, by decide +kernel, by decide +kernel⟩, (q_w 246 (by decide +kernel) rfl), (q_w 247 (by decide +kernel) rfl), (q_w 248 (by decide +kernel) rfl), (q_w 3 (by decide +kernel) rfl), (q_w 249 (by decide +kernel) rfl)⟩
theorem cv_X4_197 : q_cv RX4 197 Y_X2_hitsOf 1 := ⟨⟨by decide +kernel, by decide +kernel, by decide +kernel⟩, (q_w 253 (by decide +kernel) rfl), (q_w 254 (by decide +kernel) rfl), (q_w 255 (by decide +kernel) rfl), (q_w 3 (by decide +kernel) rfl), (q_w 256 (by decide +kernel) rfl)⟩
theorem cv_X4_205 : q_cs RX4 205 Y_X4_isSpare 1 := ⟨⟨by decide +kernel, by decide +kernel, by decide +kernel⟩, (q_w 777 (by decide +kernel) rfl), (q_w 778 (by decide +kernel) rfl), (q_w 1 (by decide +kernel) rfl), (q_w 779 (by decide +kernel) rfl)⟩
theorem cv_X4_342 : q_cv RX4 342 Y_X1_cellAt 1 := ⟨⟨by decide +kernel, by decide +kernel, by decide +kernel⟩, (q_w 367 (by decide +kernel) rfl), (q_w 368 (by decide +kernel) rfl), (q_w 369 (by decide +kernel) rfl), (q_w 4 (by decide +kernel) rfl), (q_w 370 (by decide +kernel) rfl)⟩
theorem cv_X4_324 : q_cs RX4 324 Y_J6_bitCount_0f7a4 1 := ⟨⟨by decide +kernel, by decide +kernel, by decide +kernel⟩, (q_w 357 (by decide +kernel) rfl), (q_w 358 (by decide +kernel) rfl), (q_w 14 (by decide +kernel) rfl), (q_w 359 (by decide +kernel) rfl)⟩
theorem cv_X4_332 : q_cv RX4 332 Y_X4_takenCellsToAvoid 1 := ⟨⟨by decide +kernel, by decide +kernel, by decide +kernel⟩, (q_w 363 (by decide +kernel) rfl), (q_w 365 (by decide +kernel) rfl), (q_ws_s 12 (by decide +kernel) rfl), (q_w 1 (by decide +kernel) rfl), (q_w 366 (by decide +kernel) rfl)⟩
theorem cv_X4_208 : q_cv RX4 208 Y_X2_lineAt 1 := ⟨⟨by decide +kernel, by decide +kernel, by decide +kernel⟩, (q_w 349 (by decide +kernel) rfl), (q_w 350 (by decide +kernel) rfl), (q_w 351 (by decide +kernel) rfl), (q_w 3 (by decide +kernel) rfl), (q_w 352 (by decide +kernel) rfl)⟩
theorem cv_X4_216 : q_cv RX4 216 Y_X4_lineProperty 2 := ⟨⟨by decide +kernel, by decide +kernel, by decide +kernel⟩, (q_w 353 (by decide +kernel) rfl), (q_w 355 (by decide +kernel) rfl), (q_ws_s 11 (by decide +kernel) rfl), (q_w 1 (by decide +kernel) rfl), (q_w 356 (by decide +kernel) rfl)⟩
theorem cv_X4_301 : q_cv RX4 301 Y_X4_blocksWithValues 0 := ⟨⟨by decide +kernel, by decide +kernel, by decide +kernel⟩, (q_w 315 (by decide +kernel) rfl), (q_w 317 (by decide +kernel) rfl), (q_ws_s 7 (by decide +kernel) rfl), (q_w 1 (by decide +kernel) rfl), (q_w 318 (by decide +kernel) rfl)⟩
theorem cv_X4_304 : q_cv RX4 304 Y_X4_blocksInSpares 0 := ⟨⟨by decide +kernel, by decide +kernel, by decide +kernel⟩, (q_w 319 (by decide +kernel) rfl), (q_w 321 (by decide +kernel) rfl), (q_ws_s 8 (by decide +kernel) rfl), (q_w 1 (by decide +kernel) rfl), (q_w 322 (by decide +kernel) rfl)⟩
theorem cv_X4_307 : q_cs RX4 307 Y_X4_blocksInBadCells 2 := ⟨⟨by decide +kernel, by decide +kernel, by decide +kernel⟩, (q_w 323 (by decide +kernel) rfl), (q_w 324 (by decide +kernel) rfl), (q_w 1 (by decide +kernel) rfl), (q_w 325 (by decide +kernel) rfl)⟩
theorem cv_X4_310 : q_cv RX4 310 Y_X4_freeSpares 0 := ⟨⟨by decide +kernel, by decide +kernel, by decide +kernel⟩, (q_w 326 (by decide +kernel) rfl), (q_w 328 (by decide +kernel) rfl), (q_ws_s 9 (by decide +kernel) rfl), (q_w 1 (by decide +kernel) rfl), (q_w 329 (by decide +kernel) rfl)⟩
theorem cv_X4_222 : q_cv RX4 222 Y_X4_numberOf 1 := ⟨⟨by decide +kernel, by decide +kernel, by decide +kernel⟩, (q_w 311 (by decide +kernel) rfl), (q_w 313 (by decide +kernel) rfl), (q_ws_s 6 (by decide +kernel) rfl), (q_w 1 (by decide +kernel) rfl), (q_w 314 (by decide +kernel) rfl)⟩
theorem cv_X4_225 : q_cv RX4 225 Y_X4_tryFailing 1 := ⟨⟨by decide +kernel, by decide +kernel, by decide +kernel⟩, (q_w 393 (by decide +kernel) rfl), (q_w 395 (by decide +kernel) rfl), (q_ws_s 18 (by decide +kernel) rfl), (q_w 1 (by decide +kernel) rfl), (q_w 396 (by decide +kernel) rfl)⟩
theorem cv_X4_228 : q_cv RX4 228 Y_X4_forecast 1 := ⟨⟨by decide +kernel, by decide +kernel, by decide +kernel⟩, (q_w 490 (by decide +kernel) rfl), (q_w 492 (by decide +kernel) rfl), (q_ws_s 27 (by decide +kernel) rfl), (q_w 1 (by decide +kernel) rfl), (q_w 493 (by decide +kernel) rfl)⟩
theorem cv_X4_347 : q_cv RX4 347 Y_X3_cellOfSpot 1 := ⟨⟨by decide +kernel, by decide +kernel, by decide +kernel⟩, (q_w 345 (by decide +kernel) rfl), (q_w 346 (by decide +kernel) rfl), (q_w 347 (by decide +kernel) rfl), (q_w 2 (by decide +kernel) rfl), (q_w 348 (by decide +kernel) rfl)⟩
theorem cv_X4_241 : q_cs RX4 241 Y_X4_mix 2 := ⟨⟨by decide +kernel, by decide +kernel, by decide +kernel⟩, (q_w 330 (by decide +kernel) rfl), (q_w 331 (by decide +kernel) rfl), (q_w 1 (by decide +kernel) rfl), (q_w 332 (by decide +kernel) rfl)⟩
theorem cv_X4_355 : q_cv RX4 355 Y_X0_codeAt 1 := ⟨⟨by decide +kernel, by decide +kernel, by decide +kernel⟩, (q_w 508 (by decide +kernel) rfl), (q_w 216 (by decide +kernel) rfl), (q_w 217 (by decide +kernel) rfl), (q_w 5 (by decide +kernel) rfl), (q_w 218 (by decide +kernel) rfl)⟩
theorem cv_X4_245 : q_cv RX4 245 Y_X4_hashSpotsAndLines 1 := ⟨⟨by decide +kernel, by decide +kernel, by decide +kernel⟩, (q_w 341 (by decide +kernel) rfl), (q_w 343 (by decide +kernel) rfl), (q_ws_s 10 (by decide +kernel) rfl), (q_w 1 (by decide +kernel) rfl), (q_w 344 (by decide +kernel) rfl)⟩
theorem cv_X4_249 : q_cv RX4 249 Y_X4_hashAvoidedCells 1 := ⟨⟨by decide +kernel, by decide +kernel, by decide +kernel⟩, (q_w 379 (by decide +kernel) rfl), (q_w 381 (by decide +kernel) rfl), (q_ws_s 15 (by decide +kernel) rfl), (q_w 1 (by decide +kernel) rfl), (q_w 382 (by decide +kernel) rfl)⟩
theorem cv_X4_252 : q_cv RX4 252 Y_X4_hashBlocks 1 := ⟨⟨by decide +kernel, by decide +kernel, by decide +kernel⟩, (q_w 383 (by decide +kernel) rfl), (q_w 385 (by decide +kernel) rfl), (q_ws_s 16 (by decide +kernel) rfl), (q_w 1 (by decide +kernel) rfl), (q_w 386 (by decide +kernel) rfl)⟩
theorem cv_X4_255 : q_cv RX4 255 Y_X4_hashForecasts 1 := ⟨⟨by decide +kernel, by decide +kernel, by decide +kernel⟩, (q_w 387 (by decide +kernel) rfl), (q_w 389 (by decide +kernel) rfl), (q_ws_s 17 (by decide +kernel) rfl), (q_w 1 (by decide +kernel) rfl), (q_w 390 (by decide +kernel) rfl)⟩
theorem cv_X4_258 : q_cv RX4 258 Y_X4_worst 0 := ⟨⟨by decide +kernel, by decide +kernel, by decide +kernel⟩, (q_w 495 (by decide +kernel) rfl), (q_w 243 (by decide +kernel) rfl), (q_w 244 (by decide +kernel) rfl), (q_w 1 (by decide +kernel) rfl), (q_w 245 (by decide +kernel) rfl)⟩
theorem cv_X4_261 : q_cv RX4 261 Y_X4_untidy 0 := ⟨⟨by decide +kernel, by decide +kernel, by decide +kernel⟩, (q_w 496 (by decide +kernel) rfl), (q_w 258 (by decide +kernel) rfl), (q_w 259 (by decide +kernel) rfl), (q_w 1 (by decide +kernel) rfl), (q_w 260 (by decide +kernel) rfl)⟩
theorem cv_X4_264 : q_cv RX4 264 Y_X4_goodShare 0 := ⟨⟨by decide +kernel, by decide +kernel, by decide +kernel⟩, (q_w 497 (by decide +kernel) rfl), (q_w 302 (by decide +kernel) rfl), (q_w 303 (by decide +kernel) rfl), (q_w 1 (by decide +kernel) rfl), (q_w 304 (by decide +kernel) rfl)⟩
theorem cv_X4_268 : q_cs RX4 268 Y_X4_bitsOfShare 1 := ⟨⟨by decide +kernel, by decide +kernel, by decide +kernel⟩, (q_w 498 (by decide +kernel) rfl), (q_w 499 (by decide +kernel) rfl), (q_w 1 (by decide +kernel) rfl), (q_w 500 (by decide +kernel) rfl)⟩
theorem cv_X4_272 : q_cv RX4 272 Y_X4_hashText 1 := ⟨⟨by decide +kernel, by decide +kernel, by decide +kernel⟩, (q_w 504 (by decide +kernel) rfl), (q_w 506 (by decide +kernel) rfl), (q_ws_s 28 (by decide +kernel) rfl), (q_w 1 (by decide +kernel) rfl), (q_w 507 (by decide +kernel) rfl)⟩
theorem cv_X5_54 : q_cs RX5 54 Y_X5_in 3 := ⟨⟨by decide +kernel, by decide +kernel, by decide +kernel⟩, (q_w 903 (by decide +kernel) rfl), (q_w 904 (by decide +kernel) rfl), (q_w 6 (by decide +kernel) rfl), (q_w 905 (by decide +kernel) rfl)⟩
theorem cv_X5_58 : q_cv RX5 58 Y_X5_spot 1 := ⟨⟨by decide +kernel, by decide +kernel, by decide +kernel⟩, (q_w 921 (by decide +kernel) rfl), (q_w 923 (by decide +kernel) rfl), (q_ws_s 36 (by decide +kernel) rfl), (q_w 6 (by decide +kernel) rfl), (q_w 924 (by decide +kernel) rfl)⟩
theorem cv_X5_65 : q_cv RX5 65 Y_X5_tracksApart 2 := ⟨⟨by decide +kernel, by decide +kernel, by decide +kernel⟩, (q_w 917 (by decide +kernel) rfl), (q_w 919 (by decide +kernel) rfl), (q_ws_s 35 (by decide +kernel) rfl), (q_w 6 (by decide +kernel) rfl), (q_w 920 (by decide +kernel) rfl)⟩
theorem cv_X5_69 : q_cv RX5 69 Y_X5_sectorsApart 2 := ⟨⟨by decide +kernel, by decide +kernel, by decide +kernel⟩, (q_w 925 (by decide +kernel) rfl), (q_w 927 (by decide +kernel) rfl), (q_ws_s 37 (by decide +kernel) rfl), (q_w 6 (by decide +kernel) rfl), (q_w 928 (by decide +kernel) rfl)⟩
theorem cv_X5_75 : q_cv RX5 75 Y_X5_stepsTo 2 := ⟨⟨by decide +kernel, by decide +kernel, by decide +kernel⟩, (q_w 939 (by decide +kernel) rfl), (q_w 941 (by decide +kernel) rfl), (q_ws_s 39 (by decide +kernel) rfl), (q_w 6 (by decide +kernel) rfl), (q_w 942 (by decide +kernel) rfl)⟩
theorem cv_X5_78 : q_cs RX5 78 Y_X5_sizeOf 1 := ⟨⟨by decide +kernel, by decide +kernel, by decide +kernel⟩, (q_w 929 (by decide +kernel) rfl), (q_w 930 (by decide +kernel) rfl), (q_w 6 (by decide +kernel) rfl), (q_w 931 (by decide +kernel) rfl)⟩
theorem cv_X5_81 : q_cs RX5 81 Y_X5_common 2 := ⟨⟨by decide +kernel, by decide +kernel, by decide +kernel⟩, (q_w 932 (by decide +kernel) rfl), (q_w 933 (by decide +kernel) rfl), (q_w 6 (by decide +kernel) rfl), (q_w 934 (by decide +kernel) rfl)⟩
theorem cv_X5_84 : q_cv RX5 84 Y_X5_isStraight 3 := ⟨⟨by decide +kernel, by decide +kernel, by decide +kernel⟩, (q_w 935 (by decide +kernel) rfl), (q_w 937 (by decide +kernel) rfl), (q_ws_s 38 (by decide +kernel) rfl), (q_w 6 (by decide +kernel) rfl), (q_w 938 (by decide +kernel) rfl)⟩
theorem cv_X5_87 : q_cs RX5 87 Y_X5_bits 1 := ⟨⟨by decide +kernel, by decide +kernel, by decide +kernel⟩, (q_w 943 (by decide +kernel) rfl), (q_w 944 (by decide +kernel) rfl), (q_w 6 (by decide +kernel) rfl), (q_w 945 (by decide +kernel) rfl)⟩
theorem cv_X5_90 : q_cv RX5 90 Y_X5_areNear 2 := ⟨⟨by decide +kernel, by decide +kernel, by decide +kernel⟩, (q_w 946 (by decide +kernel) rfl), (q_w 948 (by decide +kernel) rfl), (q_ws_s 40 (by decide +kernel) rfl), (q_w 6 (by decide +kernel) rfl), (q_w 949 (by decide +kernel) rfl)⟩
theorem cv_X5_94 : q_cs RX5 94 Y_X5_isPlace 2 := ⟨⟨by decide +kernel, by decide +kernel, by decide +kernel⟩, (q_w 954 (by decide +kernel) rfl), (q_w 955 (by decide +kernel) rfl), (q_w 6 (by decide +kernel) rfl), (q_w 956 (by decide +kernel) rfl)⟩
theorem cv_X5_97 : q_cv RX5 97 Y_X5_layLine 2 := ⟨⟨by decide +kernel, by decide +kernel, by decide +kernel⟩, (q_w 913 (by decide +kernel) rfl), (q_w 915 (by decide +kernel) rfl), (q_ws_s 34 (by decide +kernel) rfl), (q_w 6 (by decide +kernel) rfl), (q_w 916 (by decide +kernel) rfl)⟩
theorem cv_X5_101 : q_cv RX5 101 Y_X5_cellOf 2 := ⟨⟨by decide +kernel, by decide +kernel, by decide +kernel⟩, (q_w 950 (by decide +kernel) rfl), (q_w 952 (by decide +kernel) rfl), (q_ws_s 41 (by decide +kernel) rfl), (q_w 6 (by decide +kernel) rfl), (q_w 953 (by decide +kernel) rfl)⟩
theorem cv_X5_104 : q_cv RX5 104 Y_X5_isGood 1 := ⟨⟨by decide +kernel, by decide +kernel, by decide +kernel⟩, (q_w 965 (by decide +kernel) rfl), (q_w 967 (by decide +kernel) rfl), (q_ws_s 44 (by decide +kernel) rfl), (q_w 6 (by decide +kernel) rfl), (q_w 968 (by decide +kernel) rfl)⟩
theorem cv_X5_108 : q_cv RX5 108 Y_X5_taken 1 := ⟨⟨by decide +kernel, by decide +kernel, by decide +kernel⟩, (q_w 973 (by decide +kernel) rfl), (q_w 975 (by decide +kernel) rfl), (q_ws_s 46 (by decide +kernel) rfl), (q_w 6 (by decide +kernel) rfl), (q_w 976 (by decide +kernel) rfl)⟩
theorem cv_X5_111 : q_cv RX5 111 Y_X5_where 1 := ⟨⟨by decide +kernel, by decide +kernel, by decide +kernel⟩, (q_w 961 (by decide +kernel) rfl), (q_w 963 (by decide +kernel) rfl), (q_ws_s 43 (by decide +kernel) rfl), (q_w 6 (by decide +kernel) rfl), (q_w 964 (by decide +kernel) rfl)⟩
theorem cv_X5_114 : q_cv RX5 114 Y_X5_freeSpare 0 := ⟨⟨by decide +kernel, by decide +kernel, by decide +kernel⟩, (q_w 969 (by decide +kernel) rfl), (q_w 971 (by decide +kernel) rfl), (q_ws_s 45 (by decide +kernel) rfl), (q_w 6 (by decide +kernel) rfl), (q_w 972 (by decide +kernel) rfl)⟩
theorem cv_X5_118 : q_cv RX5 118 Y_X5_goalOf 1 := ⟨⟨by decide +kernel, by decide +kernel, by decide +kernel⟩, (q_w 957 (by decide +kernel) rfl), (q_w 959 (by decide +kernel) rfl), (q_ws_s 42 (by decide +kernel) rfl), (q_w 6 (by decide +kernel) rfl), (q_w 960 (by decide +kernel) rfl)⟩
theorem cv_X5_121 : q_cv RX5 121 Y_X5_bringTo 2 := ⟨⟨by decide +kernel, by decide +kernel, by decide +kernel⟩, (q_w 985 (by decide +kernel) rfl), (q_w 987 (by decide +kernel) rfl), (q_ws_s 49 (by decide +kernel) rfl), (q_w 6 (by decide +kernel) rfl), (q_w 988 (by decide +kernel) rfl)⟩
theorem cv_X5_124 : q_cs RX5 124 Y_X5_isBlock 1 := ⟨⟨by decide +kernel, by decide +kernel, by decide +kernel⟩, (q_w 900 (by decide +kernel) rfl), (q_w 901 (by decide +kernel) rfl), (q_w 6 (by decide +kernel) rfl), (q_w 902 (by decide +kernel) rfl)⟩
theorem cv_X5_127 : q_cs RX5 127 Y_X5_isValue 1 := ⟨⟨by decide +kernel, by decide +kernel, by decide +kernel⟩, (q_w 906 (by decide +kernel) rfl), (q_w 907 (by decide +kernel) rfl), (q_w 6 (by decide +kernel) rfl), (q_w 908 (by decide +kernel) rfl)⟩
theorem cv_X5_130 : q_cv RX5 130 Y_X5_lay 0 := ⟨⟨by decide +kernel, by decide +kernel, by decide +kernel⟩, (q_w 909 (by decide +kernel) rfl), (q_w 911 (by decide +kernel) rfl), (q_ws_s 33 (by decide +kernel) rfl), (q_w 6 (by decide +kernel) rfl), (q_w 912 (by decide +kernel) rfl)⟩
theorem cv_X5_133 : q_cv RX5 133 Y_X5_save 0 := ⟨⟨by decide +kernel, by decide +kernel, by decide +kernel⟩, (q_w 977 (by decide +kernel) rfl), (q_w 979 (by decide +kernel) rfl), (q_ws_s 47 (by decide +kernel) rfl), (q_w 6 (by decide +kernel) rfl), (q_w 980 (by decide +kernel) rfl)⟩
theorem cv_X5_136 : q_cv RX5 136 Y_X5_writeIt 2 := ⟨⟨by decide +kernel, by decide +kernel, by decide +kernel⟩, (q_w 981 (by decide +kernel) rfl), (q_w 983 (by decide +kernel) rfl), (q_ws_s 48 (by decide +kernel) rfl), (q_w 6 (by decide +kernel) rfl), (q_w 984 (by decide +kernel) rfl)⟩
theorem cv_X5_139 : q_cv RX5 139 Y_X5_lose 1 := ⟨⟨by decide +kernel, by decide +kernel, by decide +kernel⟩, (q_w 997 (by decide +kernel) rfl), (q_w 999 (by decide +kernel) rfl), (q_ws_s 50 (by decide +kernel) rfl), (q_w 6 (by decide +kernel) rfl), (q_w 1000 (by decide +kernel) rfl)⟩
theorem cv_X5_143 : q_cv RX5 143 Y_X5_spotAt 1 := ⟨⟨by decide +kernel, by decide +kernel, by decide +kernel⟩, (q_w 1009 (by decide +kernel) rfl), (q_w 1011 (by decide +kernel) rfl), (q_ws_s 52 (by decide +kernel) rfl), (q_w 6 (by decide +kernel) rfl), (q_w 1012 (by decide +kernel) rfl)⟩
theorem cv_X5_146 : q_cv RX5 146 Y_X5_canFail 1 := ⟨⟨by decide +kernel, by decide +kernel, by decide +kernel⟩, (q_w 1005 (by decide +kernel) rfl), (q_w 1007 (by decide +kernel) rfl), (q_ws_s 51 (by decide +kernel) rfl), (q_w 6 (by decide +kernel) rfl), (q_w 1008 (by decide +kernel) rfl)⟩
theorem cv_X5_149 : q_cv RX5 149 Y_X5_failIt 1 := ⟨⟨by decide +kernel, by decide +kernel, by decide +kernel⟩, (q_w 1013 (by decide +kernel) rfl), (q_w 1015 (by decide +kernel) rfl), (q_ws_s 53 (by decide +kernel) rfl), (q_w 6 (by decide +kernel) rfl), (q_w 1016 (by decide +kernel) rfl)⟩
theorem cv_X5_152 : q_cv RX5 152 Y_X5_linesNow 0 := ⟨⟨by decide +kernel, by decide +kernel, by decide +kernel⟩, (q_w 1017 (by decide +kernel) rfl), (q_w 1019 (by decide +kernel) rfl), (q_ws_s 54 (by decide +kernel) rfl), (q_w 6 (by decide +kernel) rfl), (q_w 1020 (by decide +kernel) rfl)⟩
theorem cv_X5_155 : q_cv RX5 155 Y_X5_healIt 1 := ⟨⟨by decide +kernel, by decide +kernel, by decide +kernel⟩, (q_w 1025 (by decide +kernel) rfl), (q_w 1027 (by decide +kernel) rfl), (q_ws_s 55 (by decide +kernel) rfl), (q_w 6 (by decide +kernel) rfl), (q_w 1028 (by decide +kernel) rfl)⟩
theorem cv_X5_158 : q_cv RX5 158 Y_X5_tidyGoal 1 := ⟨⟨by decide +kernel, by decide +kernel, by decide +kernel⟩, (q_w 1037 (by decide +kernel) rfl), (q_w 1039 (by decide +kernel) rfl), (q_ws_s 57 (by decide +kernel) rfl), (q_w 6 (by decide +kernel) rfl), (q_w 1040 (by decide +kernel) rfl)⟩
theorem cv_X5_161 : q_cv RX5 161 Y_X5_tidyUp 1 := ⟨⟨by decide +kernel, by decide +kernel, by decide +kernel⟩, (q_w 1033 (by decide +kernel) rfl), (q_w 1035 (by decide +kernel) rfl), (q_ws_s 56 (by decide +kernel) rfl), (q_w 6 (by decide +kernel) rfl), (q_w 1036 (by decide +kernel) rfl)⟩
theorem cv_X5_164 : q_cs RX5 164 Y_X5_leastOf 1 := ⟨⟨by decide +kernel, by decide +kernel, by decide +kernel⟩, (q_w 1045 (by decide +kernel) rfl), (q_w 1046 (by decide +kernel) rfl), (q_w 6 (by decide +kernel) rfl), (q_w 1047 (by decide +kernel) rfl)⟩
theorem cv_X5_167 : q_cs RX5 167 Y_X5_mostOf 1 := ⟨⟨by decide +kernel, by decide +kernel, by decide +kernel⟩, (q_w 1048 (by decide +kernel) rfl), (q_w 1049 (by decide +kernel) rfl), (q_w 6 (by decide +kernel) rfl), (q_w 1050 (by decide +kernel) rfl)⟩
theorem cv_X5_179 : q_cv RX5 179 Y_X5_letter 0 := ⟨⟨by decide +kernel, by decide +kernel, by decide +kernel⟩, (q_w 1071 (by decide +kernel) rfl), (q_w 1073 (by decide +kernel) rfl), (q_ws_s 60 (by decide +kernel) rfl), (q_w 6 (by decide +kernel) rfl), (q_w 1074 (by decide +kernel) rfl)⟩
theorem cv_X5_182 : q_cv RX5 182 Y_X5_wants 1 := ⟨⟨by decide +kernel, by decide +kernel, by decide +kernel⟩, (q_w 1079 (by decide +kernel) rfl), (q_w 1081 (by decide +kernel) rfl), (q_ws_s 62 (by decide +kernel) rfl), (q_w 6 (by decide +kernel) rfl), (q_w 1082 (by decide +kernel) rfl)⟩
theorem cv_X5_189 : q_cv RX5 189 Y_X5_number 0 := ⟨⟨by decide +kernel, by decide +kernel, by decide +kernel⟩, (q_w 1075 (by decide +kernel) rfl), (q_w 1077 (by decide +kernel) rfl), (q_ws_s 61 (by decide +kernel) rfl), (q_w 6 (by decide +kernel) rfl), (q_w 1078 (by decide +kernel) rfl)⟩
theorem cv_X5_192 : q_cv RX5 192 Y_X5_readOrder 0 := ⟨⟨by decide +kernel, by decide +kernel, by decide +kernel⟩, (q_w 1067 (by decide +kernel) rfl), (q_w 1069 (by decide +kernel) rfl), (q_ws_s 59 (by decide +kernel) rfl), (q_w 6 (by decide +kernel) rfl), (q_w 1070 (by decide +kernel) rfl)⟩
theorem cv_X5_195 : q_cv RX5 195 Y_X5_readBuffer 0 := ⟨⟨by decide +kernel, by decide +kernel, by decide +kernel⟩, (q_w 1063 (by decide +kernel) rfl), (q_w 1065 (by decide +kernel) rfl), (q_ws_s 58 (by decide +kernel) rfl), (q_w 6 (by decide +kernel) rfl), (q_w 1066 (by decide +kernel) rfl)⟩
theorem cv_X5_198 : q_cv RX5 198 Y_X5_does 1 := ⟨⟨by decide +kernel, by decide +kernel, by decide +kernel⟩, (q_w 1087 (by decide +kernel) rfl), (q_w 1089 (by decide +kernel) rfl), (q_ws_s 63 (by decide +kernel) rfl), (q_w 6 (by decide +kernel) rfl), (q_w 1090 (by decide +kernel) rfl)⟩
theorem cv_X5_201 : q_cv RX5 201 Y_X5_toldCell 2 := ⟨⟨by decide +kernel, by decide +kernel, by decide +kernel⟩, (q_w 1095 (by decide +kernel) rfl), (q_w 1097 (by decide +kernel) rfl), (q_ws_s 64 (by decide +kernel) rfl), (q_w 6 (by decide +kernel) rfl), (q_w 1098 (by decide +kernel) rfl)⟩
theorem cv_X5_204 : q_cv RX5 204 Y_X5_toldBlock 2 := ⟨⟨by decide +kernel, by decide +kernel, by decide +kernel⟩, (q_w 1103 (by decide +kernel) rfl), (q_w 1105 (by decide +kernel) rfl), (q_ws_s 65 (by decide +kernel) rfl), (q_w 6 (by decide +kernel) rfl), (q_w 1106 (by decide +kernel) rfl)⟩
theorem cv_X5_207 : q_cv RX5 207 Y_X5_isAvoided 1 := ⟨⟨by decide +kernel, by decide +kernel, by decide +kernel⟩, (q_w 1119 (by decide +kernel) rfl), (q_w 1121 (by decide +kernel) rfl), (q_ws_s 68 (by decide +kernel) rfl), (q_w 6 (by decide +kernel) rfl), (q_w 1122 (by decide +kernel) rfl)⟩
theorem cv_X5_210 : q_cv RX5 210 Y_X5_cellsOf 2 := ⟨⟨by decide +kernel, by decide +kernel, by decide +kernel⟩, (q_w 1115 (by decide +kernel) rfl), (q_w 1117 (by decide +kernel) rfl), (q_ws_s 67 (by decide +kernel) rfl), (q_w 6 (by decide +kernel) rfl), (q_w 1118 (by decide +kernel) rfl)⟩
theorem cv_X5_214 : q_cv RX5 214 Y_X5_toldLine 2 := ⟨⟨by decide +kernel, by decide +kernel, by decide +kernel⟩, (q_w 1111 (by decide +kernel) rfl), (q_w 1113 (by decide +kernel) rfl), (q_ws_s 66 (by decide +kernel) rfl), (q_w 6 (by decide +kernel) rfl), (q_w 1114 (by decide +kernel) rfl)⟩
theorem cv_X5_217 : q_cv RX5 217 Y_X5_avoidedMany 0 := ⟨⟨by decide +kernel, by decide +kernel, by decide +kernel⟩, (q_w 1131 (by decide +kernel) rfl), (q_w 1133 (by decide +kernel) rfl), (q_ws_s 70 (by decide +kernel) rfl), (q_w 6 (by decide +kernel) rfl), (q_w 1134 (by decide +kernel) rfl)⟩
theorem cv_X5_220 : q_cv RX5 220 Y_X5_blocks 1 := ⟨⟨by decide +kernel, by decide +kernel, by decide +kernel⟩, (q_w 1135 (by decide +kernel) rfl), (q_w 1137 (by decide +kernel) rfl), (q_ws_s 71 (by decide +kernel) rfl), (q_w 6 (by decide +kernel) rfl), (q_w 1138 (by decide +kernel) rfl)⟩
theorem cv_X5_223 : q_cv RX5 223 Y_X5_freeSpares 0 := ⟨⟨by decide +kernel, by decide +kernel, by decide +kernel⟩, (q_w 1139 (by decide +kernel) rfl), (q_w 1141 (by decide +kernel) rfl), (q_ws_s 72 (by decide +kernel) rfl), (q_w 6 (by decide +kernel) rfl), (q_w 1142 (by decide +kernel) rfl)⟩
theorem cv_X5_226 : q_cv RX5 226 Y_X5_counted 1 := ⟨⟨by decide +kernel, by decide +kernel, by decide +kernel⟩, (q_w 1127 (by decide +kernel) rfl), (q_w 1129 (by decide +kernel) rfl), (q_ws_s 69 (by decide +kernel) rfl), (q_w 6 (by decide +kernel) rfl), (q_w 1130 (by decide +kernel) rfl)⟩
theorem cv_X5_229 : q_cv RX5 229 Y_X5_putAside 0 := ⟨⟨by decide +kernel, by decide +kernel, by decide +kernel⟩, (q_w 1155 (by decide +kernel) rfl), (q_w 1157 (by decide +kernel) rfl), (q_ws_s 74 (by decide +kernel) rfl), (q_w 6 (by decide +kernel) rfl), (q_w 1158 (by decide +kernel) rfl)⟩
theorem cv_X5_232 : q_cv RX5 232 Y_X5_bringBack 0 := ⟨⟨by decide +kernel, by decide +kernel, by decide +kernel⟩, (q_w 1159 (by decide +kernel) rfl), (q_w 1161 (by decide +kernel) rfl), (q_ws_s 75 (by decide +kernel) rfl), (q_w 6 (by decide +kernel) rfl), (q_w 1162 (by decide +kernel) rfl)⟩
theorem cv_X5_235 : q_cv RX5 235 Y_X5_wouldFail 2 := ⟨⟨by decide +kernel, by decide +kernel, by decide +kernel⟩, (q_w 1151 (by decide +kernel) rfl), (q_w 1153 (by decide +kernel) rfl), (q_ws_s 73 (by decide +kernel) rfl), (q_w 6 (by decide +kernel) rfl), (q_w 1154 (by decide +kernel) rfl)⟩
theorem cv_X5_238 : q_cv RX5 238 Y_X5_worstCell 0 := ⟨⟨by decide +kernel, by decide +kernel, by decide +kernel⟩, (q_w 1167 (by decide +kernel) rfl), (q_w 1169 (by decide +kernel) rfl), (q_ws_s 76 (by decide +kernel) rfl), (q_w 6 (by decide +kernel) rfl), (q_w 1170 (by decide +kernel) rfl)⟩
theorem cv_X5_241 : q_cv RX5 241 Y_X5_wouldMove 0 := ⟨⟨by decide +kernel, by decide +kernel, by decide +kernel⟩, (q_w 1175 (by decide +kernel) rfl), (q_w 1177 (by decide +kernel) rfl), (q_ws_s 77 (by decide +kernel) rfl), (q_w 6 (by decide +kernel) rfl), (q_w 1178 (by decide +kernel) rfl)⟩
theorem cv_X5_244 : q_cv RX5 244 Y_X5_blockWith 1 := ⟨⟨by decide +kernel, by decide +kernel, by decide +kernel⟩, (q_w 1183 (by decide +kernel) rfl), (q_w 1185 (by decide +kernel) rfl), (q_ws_s 78 (by decide +kernel) rfl), (q_w 6 (by decide +kernel) rfl), (q_w 1186 (by decide +kernel) rfl)⟩
theorem cv_X5_249 : q_cv RX5 249 Y_X5_share 0 := ⟨⟨by decide +kernel, by decide +kernel, by decide +kernel⟩, (q_w 1191 (by decide +kernel) rfl), (q_w 1193 (by decide +kernel) rfl), (q_ws_s 79 (by decide +kernel) rfl), (q_w 6 (by decide +kernel) rfl), (q_w 1194 (by decide +kernel) rfl)⟩
theorem cv_X5_267 : q_cv RX5 267 Y_X5_mix 1 := ⟨⟨by decide +kernel, by decide +kernel, by decide +kernel⟩, (q_w 1201 (by decide +kernel) rfl), (q_w 1203 (by decide +kernel) rfl), (q_ws_s 80 (by decide +kernel) rfl), (q_w 6 (by decide +kernel) rfl), (q_w 1204 (by decide +kernel) rfl)⟩
theorem cv_X5_273 : q_cv RX5 273 Y_X5_mixMap 0 := ⟨⟨by decide +kernel, by decide +kernel, by decide +kernel⟩, (q_w 1206 (by decide +kernel) rfl), (q_w 1208 (by decide +kernel) rfl), (q_ws_s 81 (by decide +kernel) rfl), (q_w 6 (by decide +kernel) rfl), (q_w 1209 (by decide +kernel) rfl)⟩
theorem cv_X5_276 : q_cv RX5 276 Y_X5_mixFailed 1 := ⟨⟨by decide +kernel, by decide +kernel, by decide +kernel⟩, (q_w 1210 (by decide +kernel) rfl), (q_w 1212 (by decide +kernel) rfl), (q_ws_s 82 (by decide +kernel) rfl), (q_w 6 (by decide +kernel) rfl), (q_w 1213 (by decide +kernel) rfl)⟩
theorem cv_X5_279 : q_cs RX5 279 Y_X5_bitsOf 1 := ⟨⟨by decide +kernel, by decide +kernel, by decide +kernel⟩, (q_w 1214 (by decide +kernel) rfl), (q_w 1215 (by decide +kernel) rfl), (q_w 6 (by decide +kernel) rfl), (q_w 1216 (by decide +kernel) rfl)⟩
