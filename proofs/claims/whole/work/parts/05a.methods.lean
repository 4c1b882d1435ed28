def mX0_init : MI := (yX0_init, cX0_init, 1, none, { frames := 1, cells := 1, slots := 40, locals := 20 })
def mX0_add : MI := (yX0_add, cX0_add, 2, some .int, { frames := 0, cells := 0, slots := 0, locals := 0 })
def mX0_countOn : MI := (yX0_countOn, cX0_countOn, 5, some .int, { frames := 1, cells := 0, slots := 0, locals := 22 })
def mX0_areOneMail : MI := (yX0_areOneMail, cX0_areOneMail, 5, some .boolean, { frames := 2, cells := 0, slots := 0, locals := 47 })
def mX0_hasMarkWith : MI := (yX0_hasMarkWith, cX0_hasMarkWith, 6, some .boolean, { frames := 1, cells := 0, slots := 0, locals := 22 })
def mX0_heapOf : MI := (yX0_heapOf, cX0_heapOf, 8, some .int, { frames := 3, cells := 0, slots := 0, locals := 71 })
def mX0_lowestOf : MI := (yX0_lowestOf, cX0_lowestOf, 2, some .int, { frames := 0, cells := 0, slots := 0, locals := 0 })
def mX0_manyOf : MI := (yX0_manyOf, cX0_manyOf, 16, some .int, { frames := 2, cells := 0, slots := 0, locals := 49 })
def mX0_hasDie : MI := (yX0_hasDie, cX0_hasDie, 5, some .boolean, { frames := 1, cells := 0, slots := 0, locals := 22 })
def mX0_wordOf : MI := (yX0_wordOf, cX0_wordOf, 8, some .long, { frames := 1, cells := 0, slots := 0, locals := 22 })
def mX0_nextLook : MI := (yX0_nextLook, cX0_nextLook, 9, some .int, { frames := 2, cells := 0, slots := 0, locals := 42 })
def mX1_init : MI := (yX1_init, cX1_init, 1, none, { frames := 1, cells := 1, slots := 16, locals := 20 })
def mX1_add : MI := (yX1_add, cX1_add, 2, none, { frames := 2, cells := 0, slots := 0, locals := 42 })
def mX1_has : MI := (yX1_has, cX1_has, 2, some .boolean, { frames := 2, cells := 0, slots := 0, locals := 42 })
def mX1_size : MI := (yX1_size, cX1_size, 3, some .int, { frames := 1, cells := 0, slots := 0, locals := 21 })
def mX1_firstFrom : MI := (yX1_firstFrom, cX1_firstFrom, 3, some .int, { frames := 3, cells := 0, slots := 0, locals := 63 })
def mX1_lastTill : MI := (yX1_lastTill, cX1_lastTill, 3, some .int, { frames := 3, cells := 0, slots := 0, locals := 63 })
def mX1_meets : MI := (yX1_meets, cX1_meets, 3, some .boolean, { frames := 0, cells := 0, slots := 0, locals := 0 })
def mX2_init : MI := (yX2_init, cX2_init, 6, none, { frames := 1, cells := 0, slots := 0, locals := 20 })
def mX2_strikesOn : MI := (yX2_strikesOn, cX2_strikesOn, 2, some .boolean, { frames := 1, cells := 0, slots := 0, locals := 22 })
def mX2_hasInk : MI := (yX2_hasInk, cX2_hasInk, 2, some .boolean, { frames := 0, cells := 0, slots := 0, locals := 0 })
def mX2_fitsNick : MI := (yX2_fitsNick, cX2_fitsNick, 4, some .boolean, { frames := 0, cells := 0, slots := 0, locals := 0 })
def mX3_init : MI := (yX3_init, cX3_init, 2, none, { frames := 1, cells := 3, slots := 1044, locals := 20 })
def mX3_gather : MI := (yX3_gather, cX3_gather, 6, some .boolean, { frames := 1, cells := 0, slots := 0, locals := 22 })
def mX3_firstBarred : MI := (yX3_firstBarred, cX3_firstBarred, 5, some .int, { frames := 4, cells := 0, slots := 0, locals := 85 })
def mX3_lastDayOf : MI := (yX3_lastDayOf, cX3_lastDayOf, 5, some .int, { frames := 4, cells := 0, slots := 0, locals := 85 })
def mX3_weighSets : MI := (yX3_weighSets, cX3_weighSets, 4, none, { frames := 5, cells := 0, slots := 0, locals := 110 })
def mX3_endAllSets : MI := (yX3_endAllSets, cX3_endAllSets, 6, none, { frames := 4, cells := 0, slots := 0, locals := 85 })
def mX3_lastOf : MI := (yX3_lastOf, cX3_lastOf, 3, some .int, { frames := 0, cells := 0, slots := 0, locals := 0 })
def mX4_init : MI := (yX4_init, cX4_init, 1, none, { frames := 1, cells := 0, slots := 0, locals := 20 })
def mX4_ofKind : MI := (yX4_ofKind, cX4_ofKind, 3, some .int, { frames := 5, cells := 0, slots := 0, locals := 107 })
def mX4_ofMark : MI := (yX4_ofMark, cX4_ofMark, 2, some .int, { frames := 0, cells := 0, slots := 0, locals := 0 })
def mX4_ofDated : MI := (yX4_ofDated, cX4_ofDated, 2, some .int, { frames := 3, cells := 0, slots := 0, locals := 64 })
def mX4_ofRate : MI := (yX4_ofRate, cX4_ofRate, 2, some .int, { frames := 1, cells := 0, slots := 0, locals := 21 })
def mX4_ofThrough : MI := (yX4_ofThrough, cX4_ofThrough, 3, some .int, { frames := 4, cells := 0, slots := 0, locals := 85 })
def mX4_ofStamp : MI := (yX4_ofStamp, cX4_ofStamp, 2, some .int, { frames := 1, cells := 0, slots := 0, locals := 21 })
def mX4_ofDoubted : MI := (yX4_ofDoubted, cX4_ofDoubted, 2, some .int, { frames := 1, cells := 0, slots := 0, locals := 21 })
def mX5_init : MI := (yX5_init, cX5_init, 4, none, { frames := 2, cells := 3, slots := 20, locals := 40 })
def mX5_write : MI := (yX5_write, cX5_write, 3, none, { frames := 0, cells := 0, slots := 0, locals := 0 })
def mX5_strike : MI := (yX5_strike, cX5_strike, 5, none, { frames := 0, cells := 0, slots := 0, locals := 0 })
def mX5_findDays : MI := (yX5_findDays, cX5_findDays, 3, none, { frames := 4, cells := 1, slots := 10, locals := 88 })
def mX5_fitsDate : MI := (yX5_fitsDate, cX5_fitsDate, 4, some .boolean, { frames := 1, cells := 0, slots := 0, locals := 21 })
def mX5_fitsDie : MI := (yX5_fitsDie, cX5_fitsDie, 2, some .boolean, { frames := 2, cells := 0, slots := 0, locals := 43 })
def mX5_mostDaysByFigure : MI := (yX5_mostDaysByFigure, cX5_mostDaysByFigure, 6, some .int, { frames := 3, cells := 0, slots := 0, locals := 63 })
def mX5_isOn : MI := (yX5_isOn, cX5_isOn, 3, some .boolean, { frames := 0, cells := 0, slots := 0, locals := 0 })
def mX5_isTorn : MI := (yX5_isTorn, cX5_isTorn, 2, some .boolean, { frames := 1, cells := 0, slots := 0, locals := 21 })
def mX5_readBytes : MI := (yX5_readBytes, cX5_readBytes, 3, some .int, { frames := 2, cells := 0, slots := 0, locals := 42 })
def mX6_init : MI := (yX6_init, cX6_init, 4, none, { frames := 1, cells := 0, slots := 0, locals := 20 })
def mX7_init : MI := (yX7_init, cX7_init, 2, none, { frames := 2, cells := 13, slots := 132, locals := 40 })
def mX7_lastThatHolds : MI := (yX7_lastThatHolds, cX7_lastThatHolds, 5, some .int, { frames := 2, cells := 0, slots := 0, locals := 45 })
def mX8_init : MI := (yX8_init, cX8_init, 1, none, { frames := 1, cells := 1, slots := 600, locals := 20 })
def mX8_addBytes : MI := (yX8_addBytes, cX8_addBytes, 5, none, { frames := 0, cells := 0, slots := 0, locals := 0 })
def mX8_readInto : MI := (yX8_readInto, cX8_readInto, 4, some .int, { frames := 10, cells := 0, slots := 0, locals := 211 })
def mX8_readLandsAndDays : MI := (yX8_readLandsAndDays, cX8_readLandsAndDays, 2, some .boolean, { frames := 9, cells := 0, slots := 0, locals := 190 })
def mX8_readSums : MI := (yX8_readSums, cX8_readSums, 2, some .boolean, { frames := 9, cells := 0, slots := 0, locals := 190 })
def mX8_readPart : MI := (yX8_readPart, cX8_readPart, 2, some .boolean, { frames := 9, cells := 0, slots := 0, locals := 190 })
def mX8_readEnd : MI := (yX8_readEnd, cX8_readEnd, 2, some .boolean, { frames := 9, cells := 0, slots := 0, locals := 189 })
def mX8_take : MI := (yX8_take, cX8_take, 2, some .boolean, { frames := 8, cells := 0, slots := 0, locals := 168 })
def mX8_takeNumber : MI := (yX8_takeNumber, cX8_takeNumber, 3, some .boolean, { frames := 8, cells := 0, slots := 0, locals := 168 })
def mX8_step : MI := (yX8_step, cX8_step, 1, none, { frames := 7, cells := 0, slots := 0, locals := 148 })
def mX8_stepNumber : MI := (yX8_stepNumber, cX8_stepNumber, 2, some .int, { frames := 1, cells := 0, slots := 0, locals := 21 })
def mX8_stepWord : MI := (yX8_stepWord, cX8_stepWord, 1, some .int, { frames := 6, cells := 0, slots := 0, locals := 128 })
def mX8_spells : MI := (yX8_spells, cX8_spells, 3, some .boolean, { frames := 5, cells := 0, slots := 0, locals := 106 })
def mX8_isDigit : MI := (yX8_isDigit, cX8_isDigit, 1, some .boolean, { frames := 0, cells := 0, slots := 0, locals := 0 })
def mX8_isLetter : MI := (yX8_isLetter, cX8_isLetter, 1, some .boolean, { frames := 0, cells := 0, slots := 0, locals := 0 })
def mX8_isSign : MI := (yX8_isSign, cX8_isSign, 2, some .boolean, { frames := 5, cells := 0, slots := 0, locals := 106 })
def mX9_init : MI := (yX9_init, cX9_init, 1, none, { frames := 1, cells := 0, slots := 0, locals := 20 })
def mX9_forgetChoices : MI := (yX9_forgetChoices, cX9_forgetChoices, 1, none, { frames := 0, cells := 0, slots := 0, locals := 0 })
def mX9_holds : MI := (yX9_holds, cX9_holds, 4, some .boolean, { frames := 1, cells := 0, slots := 0, locals := 22 })
def mX9_sumFor : MI := (yX9_sumFor, cX9_sumFor, 3, some .int, { frames := 0, cells := 0, slots := 0, locals := 0 })
def mX9_partOf : MI := (yX9_partOf, cX9_partOf, 2, some .int, { frames := 0, cells := 0, slots := 0, locals := 0 })
def mX10_init : MI := (yX10_init, cX10_init, 2, none, { frames := 1, cells := 13, slots := 134, locals := 23 })
def mX10_addSailing : MI := (yX10_addSailing, cX10_addSailing, 5, some .int, { frames := 0, cells := 0, slots := 0, locals := 0 })
def mX10_lostSailings : MI := (yX10_lostSailings, cX10_lostSailings, 3, some .int, { frames := 0, cells := 0, slots := 0, locals := 0 })
def mX10_spreadFrom : MI := (yX10_spreadFrom, cX10_spreadFrom, 5, none, { frames := 1, cells := 0, slots := 0, locals := 23 })
def mX10_spreadBySailings : MI := (yX10_spreadBySailings, cX10_spreadBySailings, 3, some .boolean, { frames := 0, cells := 0, slots := 0, locals := 0 })
def mX10_spreadByRoads : MI := (yX10_spreadByRoads, cX10_spreadByRoads, 4, some .boolean, { frames := 0, cells := 0, slots := 0, locals := 0 })
def mX10_drawBackFrom : MI := (yX10_drawBackFrom, cX10_drawBackFrom, 5, none, { frames := 1, cells := 0, slots := 0, locals := 23 })
def mX10_drawBackBySailings : MI := (yX10_drawBackBySailings, cX10_drawBackBySailings, 3, some .boolean, { frames := 0, cells := 0, slots := 0, locals := 0 })
def mX10_drawBackByRoads : MI := (yX10_drawBackByRoads, cX10_drawBackByRoads, 4, some .boolean, { frames := 0, cells := 0, slots := 0, locals := 0 })
def mX11_init : MI := (yX11_init, cX11_init, 1, none, { frames := 3, cells := 54, slots := 2138, locals := 61 })
def mX11_town : MI := (yX11_town, cX11_town, 4, some .int, { frames := 1, cells := 0, slots := 0, locals := 22 })
def mX11_office : MI := (yX11_office, cX11_office, 4, some .int, { frames := 3, cells := 1, slots := 3, locals := 63 })
def mX11_die : MI := (yX11_die, cX11_die, 6, some .int, { frames := 3, cells := 1, slots := 5, locals := 63 })
def mX11_mark : MI := (yX11_mark, cX11_mark, 10, some .int, { frames := 5, cells := 5, slots := 43, locals := 110 })
def mX11_lean : MI := (yX11_lean, cX11_lean, 3, some .int, { frames := 6, cells := 0, slots := 0, locals := 129 })
def mX11_about : MI := (yX11_about, cX11_about, 4, some .int, { frames := 2, cells := 0, slots := 0, locals := 43 })
def mX11_span : MI := (yX11_span, cX11_span, 4, some .int, { frames := 4, cells := 0, slots := 0, locals := 85 })
def mX11_can : MI := (yX11_can, cX11_can, 3, some .int, { frames := 3, cells := 0, slots := 0, locals := 63 })
def mX11_marks : MI := (yX11_marks, cX11_marks, 3, some .int, { frames := 2, cells := 0, slots := 0, locals := 46 })
def mX11_sail : MI := (yX11_sail, cX11_sail, 5, some .int, { frames := 3, cells := 0, slots := 0, locals := 63 })
def mX11_late : MI := (yX11_late, cX11_late, 4, some .int, { frames := 3, cells := 0, slots := 0, locals := 63 })
def mX11_road : MI := (yX11_road, cX11_road, 5, some .int, { frames := 2, cells := 0, slots := 0, locals := 43 })
def mX11_soonest : MI := (yX11_soonest, cX11_soonest, 4, some .int, { frames := 2, cells := 0, slots := 0, locals := 47 })
def mX11_goes : MI := (yX11_goes, cX11_goes, 4, some .int, { frames := 5, cells := 0, slots := 0, locals := 109 })
def mX11_when : MI := (yX11_when, cX11_when, 5, some .int, { frames := 5, cells := 0, slots := 0, locals := 109 })
def mX11_bars : MI := (yX11_bars, cX11_bars, 3, some .int, { frames := 5, cells := 0, slots := 0, locals := 109 })
def mX11_fewest : MI := (yX11_fewest, cX11_fewest, 4, some .int, { frames := 6, cells := 0, slots := 0, locals := 133 })
def mX11_type : MI := (yX11_type, cX11_type, 4, some .int, { frames := 1, cells := 0, slots := 0, locals := 24 })
def mX11_clear : MI := (yX11_clear, cX11_clear, 2, some .int, { frames := 0, cells := 0, slots := 0, locals := 0 })
def mX11_rates : MI := (yX11_rates, cX11_rates, 3, some .int, { frames := 11, cells := 0, slots := 0, locals := 234 })
def mX11_owed : MI := (yX11_owed, cX11_owed, 8, some .int, { frames := 3, cells := 0, slots := 0, locals := 69 })
def mX11_weights : MI := (yX11_weights, cX11_weights, 11, some .int, { frames := 3, cells := 0, slots := 0, locals := 69 })
def mX11_mail : MI := (yX11_mail, cX11_mail, 4, some .int, { frames := 3, cells := 0, slots := 0, locals := 71 })
def mX11_heap : MI := (yX11_heap, cX11_heap, 3, some .int, { frames := 4, cells := 0, slots := 0, locals := 98 })
def mX11_many : MI := (yX11_many, cX11_many, 3, some .int, { frames := 3, cells := 0, slots := 0, locals := 84 })
def mX11_look : MI := (yX11_look, cX11_look, 3, some .int, { frames := 3, cells := 0, slots := 0, locals := 70 })
def mX11_count : MI := (yX11_count, cX11_count, 2, some .int, { frames := 1, cells := 0, slots := 0, locals := 22 })
def mX11_trace : MI := (yX11_trace, cX11_trace, 1, some .long, { frames := 0, cells := 0, slots := 0, locals := 0 })
def mX11_within : MI := (yX11_within, cX11_within, 3, some .boolean, { frames := 0, cells := 0, slots := 0, locals := 0 })
def mX11_isDay : MI := (yX11_isDay, cX11_isDay, 1, some .boolean, { frames := 1, cells := 0, slots := 0, locals := 22 })
def mX11_isDayOrNone : MI := (yX11_isDayOrNone, cX11_isDayOrNone, 1, some .boolean, { frames := 2, cells := 0, slots := 0, locals := 42 })
def mX11_isStretch : MI := (yX11_isStretch, cX11_isStretch, 2, some .boolean, { frames := 2, cells := 0, slots := 0, locals := 42 })
def mX11_isCover : MI := (yX11_isCover, cX11_isCover, 1, some .boolean, { frames := 1, cells := 0, slots := 0, locals := 22 })
def mX11_isMark : MI := (yX11_isMark, cX11_isMark, 2, some .boolean, { frames := 1, cells := 0, slots := 0, locals := 22 })
def mX11_areTwoTowns : MI := (yX11_areTwoTowns, cX11_areTwoTowns, 2, some .boolean, { frames := 1, cells := 0, slots := 0, locals := 22 })
def mX11_areLandsAndDay : MI := (yX11_areLandsAndDay, cX11_areLandsAndDay, 3, some .boolean, { frames := 2, cells := 0, slots := 0, locals := 42 })
def mX11_isDate : MI := (yX11_isDate, cX11_isDate, 3, some .boolean, { frames := 1, cells := 0, slots := 0, locals := 22 })
def mX11_byteOf : MI := (yX11_byteOf, cX11_byteOf, 2, some .int, { frames := 0, cells := 0, slots := 0, locals := 0 })
def mX11_figureOf : MI := (yX11_figureOf, cX11_figureOf, 2, some .int, { frames := 0, cells := 0, slots := 0, locals := 0 })
def mX12_init : MI := (yX12_init, cX12_init, 2, none, { frames := 1, cells := 23, slots := 2578, locals := 20 })
def mX12_in : MI := (yX12_in, cX12_in, 3, some .boolean, { frames := 0, cells := 0, slots := 0, locals := 0 })
def mX12_isDay : MI := (yX12_isDay, cX12_isDay, 1, some .boolean, { frames := 1, cells := 0, slots := 0, locals := 22 })
def mX12_isTown : MI := (yX12_isTown, cX12_isTown, 1, some .boolean, { frames := 1, cells := 0, slots := 0, locals := 22 })
def mX12_isCover : MI := (yX12_isCover, cX12_isCover, 1, some .boolean, { frames := 1, cells := 0, slots := 0, locals := 22 })
def mX12_isMark : MI := (yX12_isMark, cX12_isMark, 2, some .boolean, { frames := 1, cells := 0, slots := 0, locals := 22 })
def mX12_town : MI := (yX12_town, cX12_town, 4, some .int, { frames := 2, cells := 0, slots := 0, locals := 42 })
def mX12_office : MI := (yX12_office, cX12_office, 4, some .int, { frames := 2, cells := 0, slots := 0, locals := 42 })
def mX12_die : MI := (yX12_die, cX12_die, 6, some .int, { frames := 2, cells := 0, slots := 0, locals := 42 })
def mX12_isFigure : MI := (yX12_isFigure, cX12_isFigure, 1, some .boolean, { frames := 1, cells := 0, slots := 0, locals := 22 })
def mX12_mark : MI := (yX12_mark, cX12_mark, 12, some .int, { frames := 2, cells := 0, slots := 0, locals := 42 })
def mX12_lean : MI := (yX12_lean, cX12_lean, 6, some .int, { frames := 2, cells := 0, slots := 0, locals := 43 })
def mX12_about : MI := (yX12_about, cX12_about, 4, some .int, { frames := 2, cells := 0, slots := 0, locals := 43 })
def mX12_canBe : MI := (yX12_canBe, cX12_canBe, 8, some .boolean, { frames := 1, cells := 0, slots := 0, locals := 22 })
def mX12_spanOf : MI := (yX12_spanOf, cX12_spanOf, 4, some .int, { frames := 2, cells := 0, slots := 0, locals := 49 })
def mX12_span : MI := (yX12_span, cX12_span, 5, some .int, { frames := 3, cells := 0, slots := 0, locals := 72 })
def mX12_can : MI := (yX12_can, cX12_can, 3, some .int, { frames := 2, cells := 0, slots := 0, locals := 49 })
def mX12_isOf : MI := (yX12_isOf, cX12_isOf, 4, some .boolean, { frames := 0, cells := 0, slots := 0, locals := 0 })
def mX12_marks : MI := (yX12_marks, cX12_marks, 5, some .int, { frames := 2, cells := 0, slots := 0, locals := 42 })
def mX12_sail : MI := (yX12_sail, cX12_sail, 5, some .int, { frames := 2, cells := 0, slots := 0, locals := 42 })
def mX12_late : MI := (yX12_late, cX12_late, 4, some .int, { frames := 1, cells := 0, slots := 0, locals := 22 })
def mX12_road : MI := (yX12_road, cX12_road, 5, some .int, { frames := 2, cells := 0, slots := 0, locals := 42 })
def mX12_soonestOf : MI := (yX12_soonestOf, cX12_soonestOf, 8, some .int, { frames := 0, cells := 0, slots := 0, locals := 0 })
def mX12_soonest : MI := (yX12_soonest, cX12_soonest, 5, some .int, { frames := 2, cells := 0, slots := 0, locals := 42 })
def mX12_townOf : MI := (yX12_townOf, cX12_townOf, 2, some .int, { frames := 0, cells := 0, slots := 0, locals := 0 })
def mX12_ways : MI := (yX12_ways, cX12_ways, 4, some .int, { frames := 1, cells := 0, slots := 0, locals := 23 })
def mX12_isGoing : MI := (yX12_isGoing, cX12_isGoing, 8, some .boolean, { frames := 2, cells := 0, slots := 0, locals := 49 })
def mX12_refuses : MI := (yX12_refuses, cX12_refuses, 3, some .int, { frames := 2, cells := 0, slots := 0, locals := 46 })
def mX12_goes : MI := (yX12_goes, cX12_goes, 5, some .int, { frames := 3, cells := 0, slots := 0, locals := 76 })
def mX12_when : MI := (yX12_when, cX12_when, 9, some .int, { frames := 3, cells := 0, slots := 0, locals := 76 })
def mX12_bars : MI := (yX12_bars, cX12_bars, 4, some .int, { frames := 3, cells := 0, slots := 0, locals := 76 })
def mX12_ones : MI := (yX12_ones, cX12_ones, 3, some .int, { frames := 0, cells := 0, slots := 0, locals := 0 })
def mX12_fewest : MI := (yX12_fewest, cX12_fewest, 8, some .int, { frames := 3, cells := 0, slots := 0, locals := 76 })
def mX12_type : MI := (yX12_type, cX12_type, 5, some .int, { frames := 1, cells := 0, slots := 0, locals := 22 })
def mX12_clear : MI := (yX12_clear, cX12_clear, 2, some .int, { frames := 0, cells := 0, slots := 0, locals := 0 })
def mX12_byteAt : MI := (yX12_byteAt, cX12_byteAt, 2, some .int, { frames := 0, cells := 0, slots := 0, locals := 0 })
def mX12_name : MI := (yX12_name, cX12_name, 5, some .int, { frames := 0, cells := 0, slots := 0, locals := 0 })
def mX12_wordOf : MI := (yX12_wordOf, cX12_wordOf, 1, some .int, { frames := 1, cells := 0, slots := 0, locals := 24 })
def mX12_advances : MI := (yX12_advances, cX12_advances, 4, none, { frames := 2, cells := 0, slots := 0, locals := 44 })
def mX12_isWell : MI := (yX12_isWell, cX12_isWell, 1, some .boolean, { frames := 0, cells := 0, slots := 0, locals := 0 })
def mX12_fails : MI := (yX12_fails, cX12_fails, 1, none, { frames := 0, cells := 0, slots := 0, locals := 0 })
def mX12_isSign : MI := (yX12_isSign, cX12_isSign, 2, some .boolean, { frames := 1, cells := 0, slots := 0, locals := 20 })
def mX12_isWord : MI := (yX12_isWord, cX12_isWord, 2, some .boolean, { frames := 1, cells := 0, slots := 0, locals := 20 })
def mX12_takesSign : MI := (yX12_takesSign, cX12_takesSign, 2, none, { frames := 3, cells := 0, slots := 0, locals := 67 })
def mX12_takesWord : MI := (yX12_takesWord, cX12_takesWord, 2, none, { frames := 3, cells := 0, slots := 0, locals := 67 })
def mX12_takesNumber : MI := (yX12_takesNumber, cX12_takesNumber, 4, some .int, { frames := 3, cells := 0, slots := 0, locals := 67 })
def mX12_readsRule : MI := (yX12_readsRule, cX12_readsRule, 2, none, { frames := 4, cells := 0, slots := 0, locals := 90 })
def mX12_rates : MI := (yX12_rates, cX12_rates, 2, some .int, { frames := 5, cells := 0, slots := 0, locals := 111 })
def mX12_ruleOf : MI := (yX12_ruleOf, cX12_ruleOf, 7, some .int, { frames := 1, cells := 0, slots := 0, locals := 22 })
def mX12_owedBy : MI := (yX12_owedBy, cX12_owedBy, 5, some .int, { frames := 0, cells := 0, slots := 0, locals := 0 })
def mX12_isLand : MI := (yX12_isLand, cX12_isLand, 1, some .boolean, { frames := 1, cells := 0, slots := 0, locals := 22 })
def mX12_owed : MI := (yX12_owed, cX12_owed, 8, some .int, { frames := 2, cells := 0, slots := 0, locals := 48 })
def mX12_weights : MI := (yX12_weights, cX12_weights, 11, some .int, { frames := 2, cells := 0, slots := 0, locals := 48 })
def mX12_isMail : MI := (yX12_isMail, cX12_isMail, 8, some .boolean, { frames := 2, cells := 0, slots := 0, locals := 49 })
def mX12_mail : MI := (yX12_mail, cX12_mail, 4, some .int, { frames := 3, cells := 0, slots := 0, locals := 76 })
def mX12_heap : MI := (yX12_heap, cX12_heap, 8, some .int, { frames := 3, cells := 0, slots := 0, locals := 76 })
def mX12_many : MI := (yX12_many, cX12_many, 7, some .int, { frames := 2, cells := 0, slots := 0, locals := 49 })
def mX12_look : MI := (yX12_look, cX12_look, 12, some .int, { frames := 3, cells := 0, slots := 0, locals := 72 })
def mX12_count : MI := (yX12_count, cX12_count, 4, some .int, { frames := 0, cells := 0, slots := 0, locals := 0 })
def mX12_trace : MI := (yX12_trace, cX12_trace, 1, some .long, { frames := 0, cells := 0, slots := 0, locals := 0 })
def mJ6_bitCount_0f7a4 : MI := (yJ6_bitCount_0f7a4, cJ6_bitCount_0f7a4, 1, some .int, { frames := 0, cells := 0, slots := 0, locals := 0 })
def mJ13_bitCount_95d88 : MI := (yJ13_bitCount_95d88, cJ13_bitCount_95d88, 2, some .int, { frames := 0, cells := 0, slots := 0, locals := 0 })
def mJ9_max_7cf53 : MI := (yJ9_max_7cf53, cJ9_max_7cf53, 2, some .int, { frames := 0, cells := 0, slots := 0, locals := 0 })
def mJ9_min_7cf53 : MI := (yJ9_min_7cf53, cJ9_min_7cf53, 2, some .int, { frames := 0, cells := 0, slots := 0, locals := 0 })
def mJ0_length_8abf5 : MI := (yJ0_length_8abf5, cJ0_length_8abf5, 1, some .int, { frames := 1, cells := 0, slots := 0, locals := 20 })
def mJ0_charAt_5068e : MI := (yJ0_charAt_5068e, cJ0_charAt_5068e, 2, some .char, { frames := 4, cells := 0, slots := 0, locals := 85 })
def mJ0_coder_7d493 : MI := (yJ0_coder_7d493, cJ0_coder_7d493, 1, some .byte, { frames := 0, cells := 0, slots := 0, locals := 0 })
def mJ0_isLatin1_aae02 : MI := (yJ0_isLatin1_aae02, cJ0_isLatin1_aae02, 1, some .boolean, { frames := 0, cells := 0, slots := 0, locals := 0 })
def mJ0_checkIndex_df160 : MI := (yJ0_checkIndex_df160, cJ0_checkIndex_df160, 2, none, { frames := 1, cells := 0, slots := 0, locals := 22 })
def mJ1_charAt_3b067 : MI := (yJ1_charAt_3b067, cJ1_charAt_3b067, 2, some .char, { frames := 2, cells := 0, slots := 0, locals := 43 })
def mJ2_getChar_3b067 : MI := (yJ2_getChar_3b067, cJ2_getChar_3b067, 2, some .char, { frames := 1, cells := 0, slots := 0, locals := 20 })
def mJ2_length_9d52b : MI := (yJ2_length_9d52b, cJ2_length_9d52b, 1, some .int, { frames := 0, cells := 0, slots := 0, locals := 0 })
def mJ2_charAt_3b067 : MI := (yJ2_charAt_3b067, cJ2_charAt_3b067, 2, some .char, { frames := 3, cells := 0, slots := 0, locals := 64 })
def mJ2_checkIndex_2214a : MI := (yJ2_checkIndex_2214a, cJ2_checkIndex_2214a, 2, none, { frames := 2, cells := 0, slots := 0, locals := 43 })
def mJ7_fill_53178 : MI := (yJ7_fill_53178, cJ7_fill_53178, 4, none, { frames := 0, cells := 0, slots := 0, locals := 0 })
def mJ3_checkIndex_8e157 : MI := (yJ3_checkIndex_8e157, cJ3_checkIndex_8e157, 3, some .int, { frames := 0, cells := 0, slots := 0, locals := 0 })
def mL_law : MI := (yL_law, cL_law, 4, some .boolean, room_1)
set_option maxRecDepth 100000 in
theorem cdX0_init : CDI mX0_init 0 := ⟨⟨tb_in (List.mem_of_getElem? (i := 61) rfl) rfl, tb_in (List.mem_of_getElem? (i := 25) (by decide +kernel)) rfl, by decide +kernel, by decide +kernel, by decide +kernel⟩, tb_in (List.mem_of_getElem? (i := 60) (by decide +kernel)) rfl, rfl, rfl⟩
set_option maxRecDepth 100000 in
theorem cdX0_add : CDV mX0_add 1 0 := ⟨⟨tb_in (List.mem_of_getElem? (i := 521) rfl) rfl, tb_in (List.mem_of_getElem? (i := 25) (by decide +kernel)) rfl, by decide +kernel, by decide +kernel, by decide +kernel⟩, tb_in (List.mem_of_getElem? (i := 519) (by decide +kernel)) rfl, tb_in (List.mem_of_getElem? (i := 520) (by decide +kernel)) rfl, rfl⟩
set_option maxRecDepth 100000 in
theorem cdX0_countOn : CDV mX0_countOn 2 0 := ⟨⟨tb_in (List.mem_of_getElem? (i := 605) rfl) rfl, tb_in (List.mem_of_getElem? (i := 25) (by decide +kernel)) rfl, by decide +kernel, by decide +kernel, by decide +kernel⟩, tb_in (List.mem_of_getElem? (i := 603) (by decide +kernel)) rfl, tb_in (List.mem_of_getElem? (i := 604) (by decide +kernel)) rfl, rfl⟩
set_option maxRecDepth 100000 in
theorem cdX0_areOneMail : CDV mX0_areOneMail 3 0 := ⟨⟨tb_in (List.mem_of_getElem? (i := 873) rfl) rfl, tb_in (List.mem_of_getElem? (i := 25) (by decide +kernel)) rfl, by decide +kernel, by decide +kernel, by decide +kernel⟩, tb_in (List.mem_of_getElem? (i := 871) (by decide +kernel)) rfl, tb_in (List.mem_of_getElem? (i := 872) (by decide +kernel)) rfl, rfl⟩
set_option maxRecDepth 100000 in
theorem cdX0_hasMarkWith : CDV mX0_hasMarkWith 3 0 := ⟨⟨tb_in (List.mem_of_getElem? (i := 877) rfl) rfl, tb_in (List.mem_of_getElem? (i := 25) (by decide +kernel)) rfl, by decide +kernel, by decide +kernel, by decide +kernel⟩, tb_in (List.mem_of_getElem? (i := 875) (by decide +kernel)) rfl, tb_in (List.mem_of_getElem? (i := 876) (by decide +kernel)) rfl, rfl⟩
set_option maxRecDepth 100000 in
theorem cdX0_heapOf : CDV mX0_heapOf 2 0 := ⟨⟨tb_in (List.mem_of_getElem? (i := 889) rfl) rfl, tb_in (List.mem_of_getElem? (i := 25) (by decide +kernel)) rfl, by decide +kernel, by decide +kernel, by decide +kernel⟩, tb_in (List.mem_of_getElem? (i := 887) (by decide +kernel)) rfl, tb_in (List.mem_of_getElem? (i := 888) (by decide +kernel)) rfl, rfl⟩
set_option maxRecDepth 100000 in
theorem cdX0_lowestOf : CDS mX0_lowestOf 1 := ⟨⟨tb_in (List.mem_of_getElem? (i := 892) rfl) rfl, tb_in (List.mem_of_getElem? (i := 25) (by decide +kernel)) rfl, by decide +kernel, by decide +kernel, by decide +kernel⟩, tb_in (List.mem_of_getElem? (i := 891) (by decide +kernel)) rfl⟩
set_option maxRecDepth 100000 in
theorem cdX0_manyOf : CDV mX0_manyOf 2 0 := ⟨⟨tb_in (List.mem_of_getElem? (i := 901) rfl) rfl, tb_in (List.mem_of_getElem? (i := 25) (by decide +kernel)) rfl, by decide +kernel, by decide +kernel, by decide +kernel⟩, tb_in (List.mem_of_getElem? (i := 899) (by decide +kernel)) rfl, tb_in (List.mem_of_getElem? (i := 900) (by decide +kernel)) rfl, rfl⟩
set_option maxRecDepth 100000 in
theorem cdX0_hasDie : CDV mX0_hasDie 3 0 := ⟨⟨tb_in (List.mem_of_getElem? (i := 905) rfl) rfl, tb_in (List.mem_of_getElem? (i := 25) (by decide +kernel)) rfl, by decide +kernel, by decide +kernel, by decide +kernel⟩, tb_in (List.mem_of_getElem? (i := 903) (by decide +kernel)) rfl, tb_in (List.mem_of_getElem? (i := 904) (by decide +kernel)) rfl, rfl⟩
set_option maxRecDepth 100000 in
theorem cdX0_wordOf : CDV mX0_wordOf 4 0 := ⟨⟨tb_in (List.mem_of_getElem? (i := 909) rfl) rfl, tb_in (List.mem_of_getElem? (i := 25) (by decide +kernel)) rfl, by decide +kernel, by decide +kernel, by decide +kernel⟩, tb_in (List.mem_of_getElem? (i := 907) (by decide +kernel)) rfl, tb_in (List.mem_of_getElem? (i := 908) (by decide +kernel)) rfl, rfl⟩
set_option maxRecDepth 100000 in
theorem cdX0_nextLook : CDV mX0_nextLook 2 0 := ⟨⟨tb_in (List.mem_of_getElem? (i := 919) rfl) rfl, tb_in (List.mem_of_getElem? (i := 25) (by decide +kernel)) rfl, by decide +kernel, by decide +kernel, by decide +kernel⟩, tb_in (List.mem_of_getElem? (i := 917) (by decide +kernel)) rfl, tb_in (List.mem_of_getElem? (i := 918) (by decide +kernel)) rfl, rfl⟩
set_option maxRecDepth 100000 in
theorem cdX1_init : CDI mX1_init 0 := ⟨⟨tb_in (List.mem_of_getElem? (i := 388) rfl) rfl, tb_in (List.mem_of_getElem? (i := 37) (by decide +kernel)) rfl, by decide +kernel, by decide +kernel, by decide +kernel⟩, tb_in (List.mem_of_getElem? (i := 387) (by decide +kernel)) rfl, rfl, rfl⟩
set_option maxRecDepth 100000 in
theorem cdX1_add : CDV mX1_add 1 1 := ⟨⟨tb_in (List.mem_of_getElem? (i := 493) rfl) rfl, tb_in (List.mem_of_getElem? (i := 37) (by decide +kernel)) rfl, by decide +kernel, by decide +kernel, by decide +kernel⟩, tb_in (List.mem_of_getElem? (i := 491) (by decide +kernel)) rfl, tb_in (List.mem_of_getElem? (i := 492) (by decide +kernel)) rfl, rfl⟩
set_option maxRecDepth 100000 in
theorem cdX1_has : CDV mX1_has 1 1 := ⟨⟨tb_in (List.mem_of_getElem? (i := 513) rfl) rfl, tb_in (List.mem_of_getElem? (i := 37) (by decide +kernel)) rfl, by decide +kernel, by decide +kernel, by decide +kernel⟩, tb_in (List.mem_of_getElem? (i := 511) (by decide +kernel)) rfl, tb_in (List.mem_of_getElem? (i := 512) (by decide +kernel)) rfl, rfl⟩
set_option maxRecDepth 100000 in
theorem cdX1_size : CDV mX1_size 0 1 := ⟨⟨tb_in (List.mem_of_getElem? (i := 498) rfl) rfl, tb_in (List.mem_of_getElem? (i := 37) (by decide +kernel)) rfl, by decide +kernel, by decide +kernel, by decide +kernel⟩, tb_in (List.mem_of_getElem? (i := 496) (by decide +kernel)) rfl, tb_in (List.mem_of_getElem? (i := 497) (by decide +kernel)) rfl, rfl⟩
set_option maxRecDepth 100000 in
theorem cdX1_firstFrom : CDV mX1_firstFrom 1 1 := ⟨⟨tb_in (List.mem_of_getElem? (i := 583) rfl) rfl, tb_in (List.mem_of_getElem? (i := 37) (by decide +kernel)) rfl, by decide +kernel, by decide +kernel, by decide +kernel⟩, tb_in (List.mem_of_getElem? (i := 581) (by decide +kernel)) rfl, tb_in (List.mem_of_getElem? (i := 582) (by decide +kernel)) rfl, rfl⟩
set_option maxRecDepth 100000 in
theorem cdX1_lastTill : CDV mX1_lastTill 1 1 := ⟨⟨tb_in (List.mem_of_getElem? (i := 589) rfl) rfl, tb_in (List.mem_of_getElem? (i := 37) (by decide +kernel)) rfl, by decide +kernel, by decide +kernel, by decide +kernel⟩, tb_in (List.mem_of_getElem? (i := 587) (by decide +kernel)) rfl, tb_in (List.mem_of_getElem? (i := 588) (by decide +kernel)) rfl, rfl⟩
set_option maxRecDepth 100000 in
theorem cdX1_meets : CDV mX1_meets 1 1 := ⟨⟨tb_in (List.mem_of_getElem? (i := 881) rfl) rfl, tb_in (List.mem_of_getElem? (i := 37) (by decide +kernel)) rfl, by decide +kernel, by decide +kernel, by decide +kernel⟩, tb_in (List.mem_of_getElem? (i := 879) (by decide +kernel)) rfl, tb_in (List.mem_of_getElem? (i := 880) (by decide +kernel)) rfl, rfl⟩
set_option maxRecDepth 100000 in
theorem cdX2_init : CDI mX2_init 5 := ⟨⟨tb_in (List.mem_of_getElem? (i := 345) rfl) rfl, tb_in (List.mem_of_getElem? (i := 35) (by decide +kernel)) rfl, by decide +kernel, by decide +kernel, by decide +kernel⟩, tb_in (List.mem_of_getElem? (i := 344) (by decide +kernel)) rfl, rfl, rfl⟩
set_option maxRecDepth 100000 in
theorem cdX2_strikesOn : CDV mX2_strikesOn 1 2 := ⟨⟨tb_in (List.mem_of_getElem? (i := 480) rfl) rfl, tb_in (List.mem_of_getElem? (i := 35) (by decide +kernel)) rfl, by decide +kernel, by decide +kernel, by decide +kernel⟩, tb_in (List.mem_of_getElem? (i := 478) (by decide +kernel)) rfl, tb_in (List.mem_of_getElem? (i := 479) (by decide +kernel)) rfl, rfl⟩
set_option maxRecDepth 100000 in
theorem cdX2_hasInk : CDV mX2_hasInk 1 2 := ⟨⟨tb_in (List.mem_of_getElem? (i := 485) rfl) rfl, tb_in (List.mem_of_getElem? (i := 35) (by decide +kernel)) rfl, by decide +kernel, by decide +kernel, by decide +kernel⟩, tb_in (List.mem_of_getElem? (i := 483) (by decide +kernel)) rfl, tb_in (List.mem_of_getElem? (i := 484) (by decide +kernel)) rfl, rfl⟩
set_option maxRecDepth 100000 in
theorem cdX2_fitsNick : CDV mX2_fitsNick 2 2 := ⟨⟨tb_in (List.mem_of_getElem? (i := 489) rfl) rfl, tb_in (List.mem_of_getElem? (i := 35) (by decide +kernel)) rfl, by decide +kernel, by decide +kernel, by decide +kernel⟩, tb_in (List.mem_of_getElem? (i := 487) (by decide +kernel)) rfl, tb_in (List.mem_of_getElem? (i := 488) (by decide +kernel)) rfl, rfl⟩
set_option maxRecDepth 100000 in
theorem cdX3_init : CDI mX3_init 1 := ⟨⟨tb_in (List.mem_of_getElem? (i := 135) rfl) rfl, tb_in (List.mem_of_getElem? (i := 29) (by decide +kernel)) rfl, by decide +kernel, by decide +kernel, by decide +kernel⟩, tb_in (List.mem_of_getElem? (i := 134) (by decide +kernel)) rfl, rfl, rfl⟩
set_option maxRecDepth 100000 in
theorem cdX3_gather : CDV mX3_gather 3 3 := ⟨⟨tb_in (List.mem_of_getElem? (i := 652) rfl) rfl, tb_in (List.mem_of_getElem? (i := 29) (by decide +kernel)) rfl, by decide +kernel, by decide +kernel, by decide +kernel⟩, tb_in (List.mem_of_getElem? (i := 650) (by decide +kernel)) rfl, tb_in (List.mem_of_getElem? (i := 651) (by decide +kernel)) rfl, rfl⟩
set_option maxRecDepth 100000 in
theorem cdX3_firstBarred : CDV mX3_firstBarred 1 3 := ⟨⟨tb_in (List.mem_of_getElem? (i := 657) rfl) rfl, tb_in (List.mem_of_getElem? (i := 29) (by decide +kernel)) rfl, by decide +kernel, by decide +kernel, by decide +kernel⟩, tb_in (List.mem_of_getElem? (i := 655) (by decide +kernel)) rfl, tb_in (List.mem_of_getElem? (i := 656) (by decide +kernel)) rfl, rfl⟩
set_option maxRecDepth 100000 in
theorem cdX3_lastDayOf : CDV mX3_lastDayOf 1 3 := ⟨⟨tb_in (List.mem_of_getElem? (i := 667) rfl) rfl, tb_in (List.mem_of_getElem? (i := 29) (by decide +kernel)) rfl, by decide +kernel, by decide +kernel, by decide +kernel⟩, tb_in (List.mem_of_getElem? (i := 665) (by decide +kernel)) rfl, tb_in (List.mem_of_getElem? (i := 666) (by decide +kernel)) rfl, rfl⟩
set_option maxRecDepth 100000 in
theorem cdX3_weighSets : CDV mX3_weighSets 0 3 := ⟨⟨tb_in (List.mem_of_getElem? (i := 692) rfl) rfl, tb_in (List.mem_of_getElem? (i := 29) (by decide +kernel)) rfl, by decide +kernel, by decide +kernel, by decide +kernel⟩, tb_in (List.mem_of_getElem? (i := 690) (by decide +kernel)) rfl, tb_in (List.mem_of_getElem? (i := 691) (by decide +kernel)) rfl, rfl⟩
set_option maxRecDepth 100000 in
theorem cdX3_endAllSets : CDV mX3_endAllSets 0 3 := ⟨⟨tb_in (List.mem_of_getElem? (i := 696) rfl) rfl, tb_in (List.mem_of_getElem? (i := 29) (by decide +kernel)) rfl, by decide +kernel, by decide +kernel, by decide +kernel⟩, tb_in (List.mem_of_getElem? (i := 694) (by decide +kernel)) rfl, tb_in (List.mem_of_getElem? (i := 695) (by decide +kernel)) rfl, rfl⟩
set_option maxRecDepth 100000 in
theorem cdX3_lastOf : CDV mX3_lastOf 1 3 := ⟨⟨tb_in (List.mem_of_getElem? (i := 701) rfl) rfl, tb_in (List.mem_of_getElem? (i := 29) (by decide +kernel)) rfl, by decide +kernel, by decide +kernel, by decide +kernel⟩, tb_in (List.mem_of_getElem? (i := 699) (by decide +kernel)) rfl, tb_in (List.mem_of_getElem? (i := 700) (by decide +kernel)) rfl, rfl⟩
set_option maxRecDepth 100000 in
theorem cdX4_init : CDI mX4_init 0 := ⟨⟨tb_in (List.mem_of_getElem? (i := 81) rfl) rfl, tb_in (List.mem_of_getElem? (i := 26) (by decide +kernel)) rfl, by decide +kernel, by decide +kernel, by decide +kernel⟩, tb_in (List.mem_of_getElem? (i := 80) (by decide +kernel)) rfl, rfl, rfl⟩
set_option maxRecDepth 100000 in
theorem cdX4_ofKind : CDV mX4_ofKind 2 4 := ⟨⟨tb_in (List.mem_of_getElem? (i := 533) rfl) rfl, tb_in (List.mem_of_getElem? (i := 26) (by decide +kernel)) rfl, by decide +kernel, by decide +kernel, by decide +kernel⟩, tb_in (List.mem_of_getElem? (i := 531) (by decide +kernel)) rfl, tb_in (List.mem_of_getElem? (i := 532) (by decide +kernel)) rfl, rfl⟩
set_option maxRecDepth 100000 in
theorem cdX4_ofMark : CDV mX4_ofMark 1 4 := ⟨⟨tb_in (List.mem_of_getElem? (i := 542) rfl) rfl, tb_in (List.mem_of_getElem? (i := 26) (by decide +kernel)) rfl, by decide +kernel, by decide +kernel, by decide +kernel⟩, tb_in (List.mem_of_getElem? (i := 540) (by decide +kernel)) rfl, tb_in (List.mem_of_getElem? (i := 541) (by decide +kernel)) rfl, rfl⟩
set_option maxRecDepth 100000 in
theorem cdX4_ofDated : CDV mX4_ofDated 1 4 := ⟨⟨tb_in (List.mem_of_getElem? (i := 537) rfl) rfl, tb_in (List.mem_of_getElem? (i := 26) (by decide +kernel)) rfl, by decide +kernel, by decide +kernel, by decide +kernel⟩, tb_in (List.mem_of_getElem? (i := 535) (by decide +kernel)) rfl, tb_in (List.mem_of_getElem? (i := 536) (by decide +kernel)) rfl, rfl⟩
set_option maxRecDepth 100000 in
theorem cdX4_ofRate : CDV mX4_ofRate 1 4 := ⟨⟨tb_in (List.mem_of_getElem? (i := 554) rfl) rfl, tb_in (List.mem_of_getElem? (i := 26) (by decide +kernel)) rfl, by decide +kernel, by decide +kernel, by decide +kernel⟩, tb_in (List.mem_of_getElem? (i := 552) (by decide +kernel)) rfl, tb_in (List.mem_of_getElem? (i := 553) (by decide +kernel)) rfl, rfl⟩
set_option maxRecDepth 100000 in
theorem cdX4_ofThrough : CDV mX4_ofThrough 1 4 := ⟨⟨tb_in (List.mem_of_getElem? (i := 559) rfl) rfl, tb_in (List.mem_of_getElem? (i := 26) (by decide +kernel)) rfl, by decide +kernel, by decide +kernel, by decide +kernel⟩, tb_in (List.mem_of_getElem? (i := 557) (by decide +kernel)) rfl, tb_in (List.mem_of_getElem? (i := 558) (by decide +kernel)) rfl, rfl⟩
set_option maxRecDepth 100000 in
theorem cdX4_ofStamp : CDV mX4_ofStamp 1 4 := ⟨⟨tb_in (List.mem_of_getElem? (i := 564) rfl) rfl, tb_in (List.mem_of_getElem? (i := 26) (by decide +kernel)) rfl, by decide +kernel, by decide +kernel, by decide +kernel⟩, tb_in (List.mem_of_getElem? (i := 562) (by decide +kernel)) rfl, tb_in (List.mem_of_getElem? (i := 563) (by decide +kernel)) rfl, rfl⟩
set_option maxRecDepth 100000 in
theorem cdX4_ofDoubted : CDV mX4_ofDoubted 1 4 := ⟨⟨tb_in (List.mem_of_getElem? (i := 569) rfl) rfl, tb_in (List.mem_of_getElem? (i := 26) (by decide +kernel)) rfl, by decide +kernel, by decide +kernel, by decide +kernel⟩, tb_in (List.mem_of_getElem? (i := 567) (by decide +kernel)) rfl, tb_in (List.mem_of_getElem? (i := 568) (by decide +kernel)) rfl, rfl⟩
set_option maxRecDepth 100000 in
theorem cdX5_init : CDI mX5_init 3 := ⟨⟨tb_in (List.mem_of_getElem? (i := 382) rfl) rfl, tb_in (List.mem_of_getElem? (i := 36) (by decide +kernel)) rfl, by decide +kernel, by decide +kernel, by decide +kernel⟩, tb_in (List.mem_of_getElem? (i := 381) (by decide +kernel)) rfl, rfl, rfl⟩
set_option maxRecDepth 100000 in
theorem cdX5_write : CDV mX5_write 2 5 := ⟨⟨tb_in (List.mem_of_getElem? (i := 456) rfl) rfl, tb_in (List.mem_of_getElem? (i := 36) (by decide +kernel)) rfl, by decide +kernel, by decide +kernel, by decide +kernel⟩, tb_in (List.mem_of_getElem? (i := 454) (by decide +kernel)) rfl, tb_in (List.mem_of_getElem? (i := 455) (by decide +kernel)) rfl, rfl⟩
set_option maxRecDepth 100000 in
theorem cdX5_strike : CDV mX5_strike 4 5 := ⟨⟨tb_in (List.mem_of_getElem? (i := 460) rfl) rfl, tb_in (List.mem_of_getElem? (i := 36) (by decide +kernel)) rfl, by decide +kernel, by decide +kernel, by decide +kernel⟩, tb_in (List.mem_of_getElem? (i := 458) (by decide +kernel)) rfl, tb_in (List.mem_of_getElem? (i := 459) (by decide +kernel)) rfl, rfl⟩
set_option maxRecDepth 100000 in
theorem cdX5_findDays : CDV mX5_findDays 0 5 := ⟨⟨tb_in (List.mem_of_getElem? (i := 464) rfl) rfl, tb_in (List.mem_of_getElem? (i := 36) (by decide +kernel)) rfl, by decide +kernel, by decide +kernel, by decide +kernel⟩, tb_in (List.mem_of_getElem? (i := 462) (by decide +kernel)) rfl, tb_in (List.mem_of_getElem? (i := 463) (by decide +kernel)) rfl, rfl⟩
set_option maxRecDepth 100000 in
theorem cdX5_fitsDate : CDV mX5_fitsDate 1 5 := ⟨⟨tb_in (List.mem_of_getElem? (i := 468) rfl) rfl, tb_in (List.mem_of_getElem? (i := 36) (by decide +kernel)) rfl, by decide +kernel, by decide +kernel, by decide +kernel⟩, tb_in (List.mem_of_getElem? (i := 466) (by decide +kernel)) rfl, tb_in (List.mem_of_getElem? (i := 467) (by decide +kernel)) rfl, rfl⟩
set_option maxRecDepth 100000 in
theorem cdX5_fitsDie : CDV mX5_fitsDie 1 5 := ⟨⟨tb_in (List.mem_of_getElem? (i := 476) rfl) rfl, tb_in (List.mem_of_getElem? (i := 36) (by decide +kernel)) rfl, by decide +kernel, by decide +kernel, by decide +kernel⟩, tb_in (List.mem_of_getElem? (i := 474) (by decide +kernel)) rfl, tb_in (List.mem_of_getElem? (i := 475) (by decide +kernel)) rfl, rfl⟩
set_option maxRecDepth 100000 in
theorem cdX5_mostDaysByFigure : CDV mX5_mostDaysByFigure 2 5 := ⟨⟨tb_in (List.mem_of_getElem? (i := 508) rfl) rfl, tb_in (List.mem_of_getElem? (i := 36) (by decide +kernel)) rfl, by decide +kernel, by decide +kernel, by decide +kernel⟩, tb_in (List.mem_of_getElem? (i := 506) (by decide +kernel)) rfl, tb_in (List.mem_of_getElem? (i := 507) (by decide +kernel)) rfl, rfl⟩
set_option maxRecDepth 100000 in
theorem cdX5_isOn : CDV mX5_isOn 2 5 := ⟨⟨tb_in (List.mem_of_getElem? (i := 609) rfl) rfl, tb_in (List.mem_of_getElem? (i := 36) (by decide +kernel)) rfl, by decide +kernel, by decide +kernel, by decide +kernel⟩, tb_in (List.mem_of_getElem? (i := 607) (by decide +kernel)) rfl, tb_in (List.mem_of_getElem? (i := 608) (by decide +kernel)) rfl, rfl⟩
set_option maxRecDepth 100000 in
theorem cdX5_isTorn : CDV mX5_isTorn 1 5 := ⟨⟨tb_in (List.mem_of_getElem? (i := 550) rfl) rfl, tb_in (List.mem_of_getElem? (i := 36) (by decide +kernel)) rfl, by decide +kernel, by decide +kernel, by decide +kernel⟩, tb_in (List.mem_of_getElem? (i := 548) (by decide +kernel)) rfl, tb_in (List.mem_of_getElem? (i := 549) (by decide +kernel)) rfl, rfl⟩
set_option maxRecDepth 100000 in
theorem cdX5_readBytes : CDV mX5_readBytes 0 5 := ⟨⟨tb_in (List.mem_of_getElem? (i := 546) rfl) rfl, tb_in (List.mem_of_getElem? (i := 36) (by decide +kernel)) rfl, by decide +kernel, by decide +kernel, by decide +kernel⟩, tb_in (List.mem_of_getElem? (i := 544) (by decide +kernel)) rfl, tb_in (List.mem_of_getElem? (i := 545) (by decide +kernel)) rfl, rfl⟩
set_option maxRecDepth 100000 in
theorem cdX6_init : CDI mX6_init 3 := ⟨⟨tb_in (List.mem_of_getElem? (i := 320) rfl) rfl, tb_in (List.mem_of_getElem? (i := 34) (by decide +kernel)) rfl, by decide +kernel, by decide +kernel, by decide +kernel⟩, tb_in (List.mem_of_getElem? (i := 319) (by decide +kernel)) rfl, rfl, rfl⟩
set_option maxRecDepth 100000 in
theorem cdX7_init : CDI mX7_init 0 := ⟨⟨tb_in (List.mem_of_getElem? (i := 202) rfl) rfl, tb_in (List.mem_of_getElem? (i := 31) (by decide +kernel)) rfl, by decide +kernel, by decide +kernel, by decide +kernel⟩, tb_in (List.mem_of_getElem? (i := 201) (by decide +kernel)) rfl, rfl, rfl⟩
set_option maxRecDepth 100000 in
theorem cdX7_lastThatHolds : CDV mX7_lastThatHolds 3 7 := ⟨⟨tb_in (List.mem_of_getElem? (i := 847) rfl) rfl, tb_in (List.mem_of_getElem? (i := 31) (by decide +kernel)) rfl, by decide +kernel, by decide +kernel, by decide +kernel⟩, tb_in (List.mem_of_getElem? (i := 845) (by decide +kernel)) rfl, tb_in (List.mem_of_getElem? (i := 846) (by decide +kernel)) rfl, rfl⟩
set_option maxRecDepth 100000 in
theorem cdX8_init : CDI mX8_init 0 := ⟨⟨tb_in (List.mem_of_getElem? (i := 172) rfl) rfl, tb_in (List.mem_of_getElem? (i := 30) (by decide +kernel)) rfl, by decide +kernel, by decide +kernel, by decide +kernel⟩, tb_in (List.mem_of_getElem? (i := 171) (by decide +kernel)) rfl, rfl, rfl⟩
set_option maxRecDepth 100000 in
theorem cdX8_addBytes : CDV mX8_addBytes 2 8 := ⟨⟨tb_in (List.mem_of_getElem? (i := 715) rfl) rfl, tb_in (List.mem_of_getElem? (i := 30) (by decide +kernel)) rfl, by decide +kernel, by decide +kernel, by decide +kernel⟩, tb_in (List.mem_of_getElem? (i := 713) (by decide +kernel)) rfl, tb_in (List.mem_of_getElem? (i := 714) (by decide +kernel)) rfl, rfl⟩
set_option maxRecDepth 100000 in
theorem cdX8_readInto : CDV mX8_readInto 1 8 := ⟨⟨tb_in (List.mem_of_getElem? (i := 727) rfl) rfl, tb_in (List.mem_of_getElem? (i := 30) (by decide +kernel)) rfl, by decide +kernel, by decide +kernel, by decide +kernel⟩, tb_in (List.mem_of_getElem? (i := 725) (by decide +kernel)) rfl, tb_in (List.mem_of_getElem? (i := 726) (by decide +kernel)) rfl, rfl⟩
set_option maxRecDepth 100000 in
theorem cdX8_readLandsAndDays : CDV mX8_readLandsAndDays 1 8 := ⟨⟨tb_in (List.mem_of_getElem? (i := 814) rfl) rfl, tb_in (List.mem_of_getElem? (i := 30) (by decide +kernel)) rfl, by decide +kernel, by decide +kernel, by decide +kernel⟩, tb_in (List.mem_of_getElem? (i := 812) (by decide +kernel)) rfl, tb_in (List.mem_of_getElem? (i := 813) (by decide +kernel)) rfl, rfl⟩
set_option maxRecDepth 100000 in
theorem cdX8_readSums : CDV mX8_readSums 1 8 := ⟨⟨tb_in (List.mem_of_getElem? (i := 827) rfl) rfl, tb_in (List.mem_of_getElem? (i := 30) (by decide +kernel)) rfl, by decide +kernel, by decide +kernel, by decide +kernel⟩, tb_in (List.mem_of_getElem? (i := 825) (by decide +kernel)) rfl, tb_in (List.mem_of_getElem? (i := 826) (by decide +kernel)) rfl, rfl⟩
set_option maxRecDepth 100000 in
theorem cdX8_readPart : CDV mX8_readPart 1 8 := ⟨⟨tb_in (List.mem_of_getElem? (i := 831) rfl) rfl, tb_in (List.mem_of_getElem? (i := 30) (by decide +kernel)) rfl, by decide +kernel, by decide +kernel, by decide +kernel⟩, tb_in (List.mem_of_getElem? (i := 829) (by decide +kernel)) rfl, tb_in (List.mem_of_getElem? (i := 830) (by decide +kernel)) rfl, rfl⟩
set_option maxRecDepth 100000 in
theorem cdX8_readEnd : CDV mX8_readEnd 1 8 := ⟨⟨tb_in (List.mem_of_getElem? (i := 836) rfl) rfl, tb_in (List.mem_of_getElem? (i := 30) (by decide +kernel)) rfl, by decide +kernel, by decide +kernel, by decide +kernel⟩, tb_in (List.mem_of_getElem? (i := 834) (by decide +kernel)) rfl, tb_in (List.mem_of_getElem? (i := 835) (by decide +kernel)) rfl, rfl⟩
set_option maxRecDepth 100000 in
theorem cdX8_take : CDV mX8_take 1 8 := ⟨⟨tb_in (List.mem_of_getElem? (i := 818) rfl) rfl, tb_in (List.mem_of_getElem? (i := 30) (by decide +kernel)) rfl, by decide +kernel, by decide +kernel, by decide +kernel⟩, tb_in (List.mem_of_getElem? (i := 816) (by decide +kernel)) rfl, tb_in (List.mem_of_getElem? (i := 817) (by decide +kernel)) rfl, rfl⟩
set_option maxRecDepth 100000 in
theorem cdX8_takeNumber : CDV mX8_takeNumber 2 8 := ⟨⟨tb_in (List.mem_of_getElem? (i := 822) rfl) rfl, tb_in (List.mem_of_getElem? (i := 30) (by decide +kernel)) rfl, by decide +kernel, by decide +kernel, by decide +kernel⟩, tb_in (List.mem_of_getElem? (i := 820) (by decide +kernel)) rfl, tb_in (List.mem_of_getElem? (i := 821) (by decide +kernel)) rfl, rfl⟩
set_option maxRecDepth 100000 in
theorem cdX8_step : CDV mX8_step 0 8 := ⟨⟨tb_in (List.mem_of_getElem? (i := 731) rfl) rfl, tb_in (List.mem_of_getElem? (i := 30) (by decide +kernel)) rfl, by decide +kernel, by decide +kernel, by decide +kernel⟩, tb_in (List.mem_of_getElem? (i := 729) (by decide +kernel)) rfl, tb_in (List.mem_of_getElem? (i := 730) (by decide +kernel)) rfl, rfl⟩
set_option maxRecDepth 100000 in
theorem cdX8_stepNumber : CDV mX8_stepNumber 0 8 := ⟨⟨tb_in (List.mem_of_getElem? (i := 738) rfl) rfl, tb_in (List.mem_of_getElem? (i := 30) (by decide +kernel)) rfl, by decide +kernel, by decide +kernel, by decide +kernel⟩, tb_in (List.mem_of_getElem? (i := 736) (by decide +kernel)) rfl, tb_in (List.mem_of_getElem? (i := 737) (by decide +kernel)) rfl, rfl⟩
set_option maxRecDepth 100000 in
theorem cdX8_stepWord : CDV mX8_stepWord 0 8 := ⟨⟨tb_in (List.mem_of_getElem? (i := 746) rfl) rfl, tb_in (List.mem_of_getElem? (i := 30) (by decide +kernel)) rfl, by decide +kernel, by decide +kernel, by decide +kernel⟩, tb_in (List.mem_of_getElem? (i := 744) (by decide +kernel)) rfl, tb_in (List.mem_of_getElem? (i := 745) (by decide +kernel)) rfl, rfl⟩
set_option maxRecDepth 100000 in
theorem cdX8_spells : CDV mX8_spells 1 8 := ⟨⟨tb_in (List.mem_of_getElem? (i := 751) rfl) rfl, tb_in (List.mem_of_getElem? (i := 30) (by decide +kernel)) rfl, by decide +kernel, by decide +kernel, by decide +kernel⟩, tb_in (List.mem_of_getElem? (i := 749) (by decide +kernel)) rfl, tb_in (List.mem_of_getElem? (i := 750) (by decide +kernel)) rfl, rfl⟩
set_option maxRecDepth 100000 in
theorem cdX8_isDigit : CDS mX8_isDigit 1 := ⟨⟨tb_in (List.mem_of_getElem? (i := 734) rfl) rfl, tb_in (List.mem_of_getElem? (i := 30) (by decide +kernel)) rfl, by decide +kernel, by decide +kernel, by decide +kernel⟩, tb_in (List.mem_of_getElem? (i := 733) (by decide +kernel)) rfl⟩
set_option maxRecDepth 100000 in
theorem cdX8_isLetter : CDS mX8_isLetter 1 := ⟨⟨tb_in (List.mem_of_getElem? (i := 742) rfl) rfl, tb_in (List.mem_of_getElem? (i := 30) (by decide +kernel)) rfl, by decide +kernel, by decide +kernel, by decide +kernel⟩, tb_in (List.mem_of_getElem? (i := 741) (by decide +kernel)) rfl⟩
set_option maxRecDepth 100000 in
theorem cdX8_isSign : CDS mX8_isSign 1 := ⟨⟨tb_in (List.mem_of_getElem? (i := 805) rfl) rfl, tb_in (List.mem_of_getElem? (i := 30) (by decide +kernel)) rfl, by decide +kernel, by decide +kernel, by decide +kernel⟩, tb_in (List.mem_of_getElem? (i := 804) (by decide +kernel)) rfl⟩
set_option maxRecDepth 100000 in
theorem cdX9_init : CDI mX9_init 0 := ⟨⟨tb_in (List.mem_of_getElem? (i := 209) rfl) rfl, tb_in (List.mem_of_getElem? (i := 32) (by decide +kernel)) rfl, by decide +kernel, by decide +kernel, by decide +kernel⟩, tb_in (List.mem_of_getElem? (i := 208) (by decide +kernel)) rfl, rfl, rfl⟩
set_option maxRecDepth 100000 in
theorem cdX9_forgetChoices : CDV mX9_forgetChoices 0 9 := ⟨⟨tb_in (List.mem_of_getElem? (i := 810) rfl) rfl, tb_in (List.mem_of_getElem? (i := 32) (by decide +kernel)) rfl, by decide +kernel, by decide +kernel, by decide +kernel⟩, tb_in (List.mem_of_getElem? (i := 808) (by decide +kernel)) rfl, tb_in (List.mem_of_getElem? (i := 809) (by decide +kernel)) rfl, rfl⟩
set_option maxRecDepth 100000 in
theorem cdX9_holds : CDV mX9_holds 3 9 := ⟨⟨tb_in (List.mem_of_getElem? (i := 851) rfl) rfl, tb_in (List.mem_of_getElem? (i := 32) (by decide +kernel)) rfl, by decide +kernel, by decide +kernel, by decide +kernel⟩, tb_in (List.mem_of_getElem? (i := 849) (by decide +kernel)) rfl, tb_in (List.mem_of_getElem? (i := 850) (by decide +kernel)) rfl, rfl⟩
set_option maxRecDepth 100000 in
theorem cdX9_sumFor : CDV mX9_sumFor 1 9 := ⟨⟨tb_in (List.mem_of_getElem? (i := 856) rfl) rfl, tb_in (List.mem_of_getElem? (i := 32) (by decide +kernel)) rfl, by decide +kernel, by decide +kernel, by decide +kernel⟩, tb_in (List.mem_of_getElem? (i := 854) (by decide +kernel)) rfl, tb_in (List.mem_of_getElem? (i := 855) (by decide +kernel)) rfl, rfl⟩
set_option maxRecDepth 100000 in
theorem cdX9_partOf : CDV mX9_partOf 1 9 := ⟨⟨tb_in (List.mem_of_getElem? (i := 860) rfl) rfl, tb_in (List.mem_of_getElem? (i := 32) (by decide +kernel)) rfl, by decide +kernel, by decide +kernel, by decide +kernel⟩, tb_in (List.mem_of_getElem? (i := 858) (by decide +kernel)) rfl, tb_in (List.mem_of_getElem? (i := 859) (by decide +kernel)) rfl, rfl⟩
set_option maxRecDepth 100000 in
theorem cdX10_init : CDI mX10_init 0 := ⟨⟨tb_in (List.mem_of_getElem? (i := 92) rfl) rfl, tb_in (List.mem_of_getElem? (i := 27) (by decide +kernel)) rfl, by decide +kernel, by decide +kernel, by decide +kernel⟩, tb_in (List.mem_of_getElem? (i := 91) (by decide +kernel)) rfl, rfl, rfl⟩
set_option maxRecDepth 100000 in
theorem cdX10_addSailing : CDV mX10_addSailing 4 10 := ⟨⟨tb_in (List.mem_of_getElem? (i := 620) rfl) rfl, tb_in (List.mem_of_getElem? (i := 27) (by decide +kernel)) rfl, by decide +kernel, by decide +kernel, by decide +kernel⟩, tb_in (List.mem_of_getElem? (i := 618) (by decide +kernel)) rfl, tb_in (List.mem_of_getElem? (i := 619) (by decide +kernel)) rfl, rfl⟩
set_option maxRecDepth 100000 in
theorem cdX10_lostSailings : CDV mX10_lostSailings 0 10 := ⟨⟨tb_in (List.mem_of_getElem? (i := 928) rfl) rfl, tb_in (List.mem_of_getElem? (i := 27) (by decide +kernel)) rfl, by decide +kernel, by decide +kernel, by decide +kernel⟩, tb_in (List.mem_of_getElem? (i := 926) (by decide +kernel)) rfl, tb_in (List.mem_of_getElem? (i := 927) (by decide +kernel)) rfl, rfl⟩
set_option maxRecDepth 100000 in
theorem cdX10_spreadFrom : CDV mX10_spreadFrom 2 10 := ⟨⟨tb_in (List.mem_of_getElem? (i := 636) rfl) rfl, tb_in (List.mem_of_getElem? (i := 27) (by decide +kernel)) rfl, by decide +kernel, by decide +kernel, by decide +kernel⟩, tb_in (List.mem_of_getElem? (i := 634) (by decide +kernel)) rfl, tb_in (List.mem_of_getElem? (i := 635) (by decide +kernel)) rfl, rfl⟩
set_option maxRecDepth 100000 in
theorem cdX10_spreadBySailings : CDV mX10_spreadBySailings 0 10 := ⟨⟨tb_in (List.mem_of_getElem? (i := 640) rfl) rfl, tb_in (List.mem_of_getElem? (i := 27) (by decide +kernel)) rfl, by decide +kernel, by decide +kernel, by decide +kernel⟩, tb_in (List.mem_of_getElem? (i := 638) (by decide +kernel)) rfl, tb_in (List.mem_of_getElem? (i := 639) (by decide +kernel)) rfl, rfl⟩
set_option maxRecDepth 100000 in
theorem cdX10_spreadByRoads : CDV mX10_spreadByRoads 0 10 := ⟨⟨tb_in (List.mem_of_getElem? (i := 644) rfl) rfl, tb_in (List.mem_of_getElem? (i := 27) (by decide +kernel)) rfl, by decide +kernel, by decide +kernel, by decide +kernel⟩, tb_in (List.mem_of_getElem? (i := 642) (by decide +kernel)) rfl, tb_in (List.mem_of_getElem? (i := 643) (by decide +kernel)) rfl, rfl⟩
set_option maxRecDepth 100000 in
theorem cdX10_drawBackFrom : CDV mX10_drawBackFrom 2 10 := ⟨⟨tb_in (List.mem_of_getElem? (i := 672) rfl) rfl, tb_in (List.mem_of_getElem? (i := 27) (by decide +kernel)) rfl, by decide +kernel, by decide +kernel, by decide +kernel⟩, tb_in (List.mem_of_getElem? (i := 670) (by decide +kernel)) rfl, tb_in (List.mem_of_getElem? (i := 671) (by decide +kernel)) rfl, rfl⟩
set_option maxRecDepth 100000 in
theorem cdX10_drawBackBySailings : CDV mX10_drawBackBySailings 0 10 := ⟨⟨tb_in (List.mem_of_getElem? (i := 676) rfl) rfl, tb_in (List.mem_of_getElem? (i := 27) (by decide +kernel)) rfl, by decide +kernel, by decide +kernel, by decide +kernel⟩, tb_in (List.mem_of_getElem? (i := 674) (by decide +kernel)) rfl, tb_in (List.mem_of_getElem? (i := 675) (by decide +kernel)) rfl, rfl⟩
set_option maxRecDepth 100000 in
theorem cdX10_drawBackByRoads : CDV mX10_drawBackByRoads 0 10 := ⟨⟨tb_in (List.mem_of_getElem? (i := 680) rfl) rfl, tb_in (List.mem_of_getElem? (i := 27) (by decide +kernel)) rfl, by decide +kernel, by decide +kernel, by decide +kernel⟩, tb_in (List.mem_of_getElem? (i := 678) (by decide +kernel)) rfl, tb_in (List.mem_of_getElem? (i := 679) (by decide +kernel)) rfl, rfl⟩
set_option maxRecDepth 100000 in
theorem cdX11_init : CDI mX11_init 0 := ⟨⟨tb_in (List.mem_of_getElem? (i := 49) rfl) rfl, tb_in (List.mem_of_getElem? (i := 24) (by decide +kernel)) rfl, by decide +kernel, by decide +kernel, by decide +kernel⟩, tb_in (List.mem_of_getElem? (i := 48) (by decide +kernel)) rfl, rfl, rfl⟩
set_option maxRecDepth 100000 in
theorem cdX11_town : CDV mX11_town 2 11 := ⟨⟨tb_in (List.mem_of_getElem? (i := 303) rfl) rfl, tb_in (List.mem_of_getElem? (i := 24) (by decide +kernel)) rfl, by decide +kernel, by decide +kernel, by decide +kernel⟩, tb_in (List.mem_of_getElem? (i := 301) (by decide +kernel)) rfl, tb_in (List.mem_of_getElem? (i := 302) (by decide +kernel)) rfl, rfl⟩
set_option maxRecDepth 100000 in
theorem cdX11_office : CDV mX11_office 3 11 := ⟨⟨tb_in (List.mem_of_getElem? (i := 310) rfl) rfl, tb_in (List.mem_of_getElem? (i := 24) (by decide +kernel)) rfl, by decide +kernel, by decide +kernel, by decide +kernel⟩, tb_in (List.mem_of_getElem? (i := 308) (by decide +kernel)) rfl, tb_in (List.mem_of_getElem? (i := 309) (by decide +kernel)) rfl, rfl⟩
set_option maxRecDepth 100000 in
theorem cdX11_die : CDV mX11_die 5 11 := ⟨⟨tb_in (List.mem_of_getElem? (i := 338) rfl) rfl, tb_in (List.mem_of_getElem? (i := 24) (by decide +kernel)) rfl, by decide +kernel, by decide +kernel, by decide +kernel⟩, tb_in (List.mem_of_getElem? (i := 336) (by decide +kernel)) rfl, tb_in (List.mem_of_getElem? (i := 337) (by decide +kernel)) rfl, rfl⟩
set_option maxRecDepth 100000 in
theorem cdX11_mark : CDV mX11_mark 8 11 := ⟨⟨tb_in (List.mem_of_getElem? (i := 367) rfl) rfl, tb_in (List.mem_of_getElem? (i := 24) (by decide +kernel)) rfl, by decide +kernel, by decide +kernel, by decide +kernel⟩, tb_in (List.mem_of_getElem? (i := 365) (by decide +kernel)) rfl, tb_in (List.mem_of_getElem? (i := 366) (by decide +kernel)) rfl, rfl⟩
set_option maxRecDepth 100000 in
theorem cdX11_lean : CDV mX11_lean 2 11 := ⟨⟨tb_in (List.mem_of_getElem? (i := 525) rfl) rfl, tb_in (List.mem_of_getElem? (i := 24) (by decide +kernel)) rfl, by decide +kernel, by decide +kernel, by decide +kernel⟩, tb_in (List.mem_of_getElem? (i := 523) (by decide +kernel)) rfl, tb_in (List.mem_of_getElem? (i := 524) (by decide +kernel)) rfl, rfl⟩
set_option maxRecDepth 100000 in
theorem cdX11_about : CDV mX11_about 2 11 := ⟨⟨tb_in (List.mem_of_getElem? (i := 574) rfl) rfl, tb_in (List.mem_of_getElem? (i := 24) (by decide +kernel)) rfl, by decide +kernel, by decide +kernel, by decide +kernel⟩, tb_in (List.mem_of_getElem? (i := 572) (by decide +kernel)) rfl, tb_in (List.mem_of_getElem? (i := 573) (by decide +kernel)) rfl, rfl⟩
set_option maxRecDepth 100000 in
theorem cdX11_span : CDV mX11_span 2 11 := ⟨⟨tb_in (List.mem_of_getElem? (i := 578) rfl) rfl, tb_in (List.mem_of_getElem? (i := 24) (by decide +kernel)) rfl, by decide +kernel, by decide +kernel, by decide +kernel⟩, tb_in (List.mem_of_getElem? (i := 576) (by decide +kernel)) rfl, tb_in (List.mem_of_getElem? (i := 577) (by decide +kernel)) rfl, rfl⟩
set_option maxRecDepth 100000 in
theorem cdX11_can : CDV mX11_can 2 11 := ⟨⟨tb_in (List.mem_of_getElem? (i := 596) rfl) rfl, tb_in (List.mem_of_getElem? (i := 24) (by decide +kernel)) rfl, by decide +kernel, by decide +kernel, by decide +kernel⟩, tb_in (List.mem_of_getElem? (i := 594) (by decide +kernel)) rfl, tb_in (List.mem_of_getElem? (i := 595) (by decide +kernel)) rfl, rfl⟩
set_option maxRecDepth 100000 in
theorem cdX11_marks : CDV mX11_marks 2 11 := ⟨⟨tb_in (List.mem_of_getElem? (i := 601) rfl) rfl, tb_in (List.mem_of_getElem? (i := 24) (by decide +kernel)) rfl, by decide +kernel, by decide +kernel, by decide +kernel⟩, tb_in (List.mem_of_getElem? (i := 599) (by decide +kernel)) rfl, tb_in (List.mem_of_getElem? (i := 600) (by decide +kernel)) rfl, rfl⟩
set_option maxRecDepth 100000 in
theorem cdX11_sail : CDV mX11_sail 4 11 := ⟨⟨tb_in (List.mem_of_getElem? (i := 613) rfl) rfl, tb_in (List.mem_of_getElem? (i := 24) (by decide +kernel)) rfl, by decide +kernel, by decide +kernel, by decide +kernel⟩, tb_in (List.mem_of_getElem? (i := 611) (by decide +kernel)) rfl, tb_in (List.mem_of_getElem? (i := 612) (by decide +kernel)) rfl, rfl⟩
set_option maxRecDepth 100000 in
theorem cdX11_late : CDV mX11_late 2 11 := ⟨⟨tb_in (List.mem_of_getElem? (i := 624) rfl) rfl, tb_in (List.mem_of_getElem? (i := 24) (by decide +kernel)) rfl, by decide +kernel, by decide +kernel, by decide +kernel⟩, tb_in (List.mem_of_getElem? (i := 622) (by decide +kernel)) rfl, tb_in (List.mem_of_getElem? (i := 623) (by decide +kernel)) rfl, rfl⟩
set_option maxRecDepth 100000 in
theorem cdX11_road : CDV mX11_road 3 11 := ⟨⟨tb_in (List.mem_of_getElem? (i := 628) rfl) rfl, tb_in (List.mem_of_getElem? (i := 24) (by decide +kernel)) rfl, by decide +kernel, by decide +kernel, by decide +kernel⟩, tb_in (List.mem_of_getElem? (i := 626) (by decide +kernel)) rfl, tb_in (List.mem_of_getElem? (i := 627) (by decide +kernel)) rfl, rfl⟩
set_option maxRecDepth 100000 in
theorem cdX11_soonest : CDV mX11_soonest 3 11 := ⟨⟨tb_in (List.mem_of_getElem? (i := 632) rfl) rfl, tb_in (List.mem_of_getElem? (i := 24) (by decide +kernel)) rfl, by decide +kernel, by decide +kernel, by decide +kernel⟩, tb_in (List.mem_of_getElem? (i := 630) (by decide +kernel)) rfl, tb_in (List.mem_of_getElem? (i := 631) (by decide +kernel)) rfl, rfl⟩
set_option maxRecDepth 100000 in
theorem cdX11_goes : CDV mX11_goes 3 11 := ⟨⟨tb_in (List.mem_of_getElem? (i := 648) rfl) rfl, tb_in (List.mem_of_getElem? (i := 24) (by decide +kernel)) rfl, by decide +kernel, by decide +kernel, by decide +kernel⟩, tb_in (List.mem_of_getElem? (i := 646) (by decide +kernel)) rfl, tb_in (List.mem_of_getElem? (i := 647) (by decide +kernel)) rfl, rfl⟩
set_option maxRecDepth 100000 in
theorem cdX11_when : CDV mX11_when 4 11 := ⟨⟨tb_in (List.mem_of_getElem? (i := 663) rfl) rfl, tb_in (List.mem_of_getElem? (i := 24) (by decide +kernel)) rfl, by decide +kernel, by decide +kernel, by decide +kernel⟩, tb_in (List.mem_of_getElem? (i := 661) (by decide +kernel)) rfl, tb_in (List.mem_of_getElem? (i := 662) (by decide +kernel)) rfl, rfl⟩
set_option maxRecDepth 100000 in
theorem cdX11_bars : CDV mX11_bars 2 11 := ⟨⟨tb_in (List.mem_of_getElem? (i := 684) rfl) rfl, tb_in (List.mem_of_getElem? (i := 24) (by decide +kernel)) rfl, by decide +kernel, by decide +kernel, by decide +kernel⟩, tb_in (List.mem_of_getElem? (i := 682) (by decide +kernel)) rfl, tb_in (List.mem_of_getElem? (i := 683) (by decide +kernel)) rfl, rfl⟩
set_option maxRecDepth 100000 in
theorem cdX11_fewest : CDV mX11_fewest 3 11 := ⟨⟨tb_in (List.mem_of_getElem? (i := 688) rfl) rfl, tb_in (List.mem_of_getElem? (i := 24) (by decide +kernel)) rfl, by decide +kernel, by decide +kernel, by decide +kernel⟩, tb_in (List.mem_of_getElem? (i := 686) (by decide +kernel)) rfl, tb_in (List.mem_of_getElem? (i := 687) (by decide +kernel)) rfl, rfl⟩
set_option maxRecDepth 100000 in
theorem cdX11_type : CDV mX11_type 2 11 := ⟨⟨tb_in (List.mem_of_getElem? (i := 711) rfl) rfl, tb_in (List.mem_of_getElem? (i := 24) (by decide +kernel)) rfl, by decide +kernel, by decide +kernel, by decide +kernel⟩, tb_in (List.mem_of_getElem? (i := 709) (by decide +kernel)) rfl, tb_in (List.mem_of_getElem? (i := 710) (by decide +kernel)) rfl, rfl⟩
set_option maxRecDepth 100000 in
theorem cdX11_clear : CDV mX11_clear 0 11 := ⟨⟨tb_in (List.mem_of_getElem? (i := 719) rfl) rfl, tb_in (List.mem_of_getElem? (i := 24) (by decide +kernel)) rfl, by decide +kernel, by decide +kernel, by decide +kernel⟩, tb_in (List.mem_of_getElem? (i := 717) (by decide +kernel)) rfl, tb_in (List.mem_of_getElem? (i := 718) (by decide +kernel)) rfl, rfl⟩
set_option maxRecDepth 100000 in
theorem cdX11_rates : CDV mX11_rates 0 11 := ⟨⟨tb_in (List.mem_of_getElem? (i := 723) rfl) rfl, tb_in (List.mem_of_getElem? (i := 24) (by decide +kernel)) rfl, by decide +kernel, by decide +kernel, by decide +kernel⟩, tb_in (List.mem_of_getElem? (i := 721) (by decide +kernel)) rfl, tb_in (List.mem_of_getElem? (i := 722) (by decide +kernel)) rfl, rfl⟩
set_option maxRecDepth 100000 in
theorem cdX11_owed : CDV mX11_owed 5 11 := ⟨⟨tb_in (List.mem_of_getElem? (i := 840) rfl) rfl, tb_in (List.mem_of_getElem? (i := 24) (by decide +kernel)) rfl, by decide +kernel, by decide +kernel, by decide +kernel⟩, tb_in (List.mem_of_getElem? (i := 838) (by decide +kernel)) rfl, tb_in (List.mem_of_getElem? (i := 839) (by decide +kernel)) rfl, rfl⟩
set_option maxRecDepth 100000 in
theorem cdX11_weights : CDV mX11_weights 5 11 := ⟨⟨tb_in (List.mem_of_getElem? (i := 864) rfl) rfl, tb_in (List.mem_of_getElem? (i := 24) (by decide +kernel)) rfl, by decide +kernel, by decide +kernel, by decide +kernel⟩, tb_in (List.mem_of_getElem? (i := 862) (by decide +kernel)) rfl, tb_in (List.mem_of_getElem? (i := 863) (by decide +kernel)) rfl, rfl⟩
set_option maxRecDepth 100000 in
theorem cdX11_mail : CDV mX11_mail 3 11 := ⟨⟨tb_in (List.mem_of_getElem? (i := 869) rfl) rfl, tb_in (List.mem_of_getElem? (i := 24) (by decide +kernel)) rfl, by decide +kernel, by decide +kernel, by decide +kernel⟩, tb_in (List.mem_of_getElem? (i := 867) (by decide +kernel)) rfl, tb_in (List.mem_of_getElem? (i := 868) (by decide +kernel)) rfl, rfl⟩
set_option maxRecDepth 100000 in
theorem cdX11_heap : CDV mX11_heap 2 11 := ⟨⟨tb_in (List.mem_of_getElem? (i := 885) rfl) rfl, tb_in (List.mem_of_getElem? (i := 24) (by decide +kernel)) rfl, by decide +kernel, by decide +kernel, by decide +kernel⟩, tb_in (List.mem_of_getElem? (i := 883) (by decide +kernel)) rfl, tb_in (List.mem_of_getElem? (i := 884) (by decide +kernel)) rfl, rfl⟩
set_option maxRecDepth 100000 in
theorem cdX11_many : CDV mX11_many 2 11 := ⟨⟨tb_in (List.mem_of_getElem? (i := 897) rfl) rfl, tb_in (List.mem_of_getElem? (i := 24) (by decide +kernel)) rfl, by decide +kernel, by decide +kernel, by decide +kernel⟩, tb_in (List.mem_of_getElem? (i := 895) (by decide +kernel)) rfl, tb_in (List.mem_of_getElem? (i := 896) (by decide +kernel)) rfl, rfl⟩
set_option maxRecDepth 100000 in
theorem cdX11_look : CDV mX11_look 2 11 := ⟨⟨tb_in (List.mem_of_getElem? (i := 915) rfl) rfl, tb_in (List.mem_of_getElem? (i := 24) (by decide +kernel)) rfl, by decide +kernel, by decide +kernel, by decide +kernel⟩, tb_in (List.mem_of_getElem? (i := 913) (by decide +kernel)) rfl, tb_in (List.mem_of_getElem? (i := 914) (by decide +kernel)) rfl, rfl⟩
set_option maxRecDepth 100000 in
theorem cdX11_count : CDV mX11_count 1 11 := ⟨⟨tb_in (List.mem_of_getElem? (i := 924) rfl) rfl, tb_in (List.mem_of_getElem? (i := 24) (by decide +kernel)) rfl, by decide +kernel, by decide +kernel, by decide +kernel⟩, tb_in (List.mem_of_getElem? (i := 922) (by decide +kernel)) rfl, tb_in (List.mem_of_getElem? (i := 923) (by decide +kernel)) rfl, rfl⟩
set_option maxRecDepth 100000 in
theorem cdX11_trace : CDV mX11_trace 0 11 := ⟨⟨tb_in (List.mem_of_getElem? (i := 932) rfl) rfl, tb_in (List.mem_of_getElem? (i := 24) (by decide +kernel)) rfl, by decide +kernel, by decide +kernel, by decide +kernel⟩, tb_in (List.mem_of_getElem? (i := 930) (by decide +kernel)) rfl, tb_in (List.mem_of_getElem? (i := 931) (by decide +kernel)) rfl, rfl⟩
set_option maxRecDepth 100000 in
theorem cdX11_within : CDS mX11_within 3 := ⟨⟨tb_in (List.mem_of_getElem? (i := 306) rfl) rfl, tb_in (List.mem_of_getElem? (i := 24) (by decide +kernel)) rfl, by decide +kernel, by decide +kernel, by decide +kernel⟩, tb_in (List.mem_of_getElem? (i := 305) (by decide +kernel)) rfl⟩
set_option maxRecDepth 100000 in
theorem cdX11_isDay : CDS mX11_isDay 1 := ⟨⟨tb_in (List.mem_of_getElem? (i := 316) rfl) rfl, tb_in (List.mem_of_getElem? (i := 24) (by decide +kernel)) rfl, by decide +kernel, by decide +kernel, by decide +kernel⟩, tb_in (List.mem_of_getElem? (i := 315) (by decide +kernel)) rfl⟩
set_option maxRecDepth 100000 in
theorem cdX11_isDayOrNone : CDS mX11_isDayOrNone 1 := ⟨⟨tb_in (List.mem_of_getElem? (i := 341) rfl) rfl, tb_in (List.mem_of_getElem? (i := 24) (by decide +kernel)) rfl, by decide +kernel, by decide +kernel, by decide +kernel⟩, tb_in (List.mem_of_getElem? (i := 340) (by decide +kernel)) rfl⟩
set_option maxRecDepth 100000 in
theorem cdX11_isStretch : CDS mX11_isStretch 2 := ⟨⟨tb_in (List.mem_of_getElem? (i := 313) rfl) rfl, tb_in (List.mem_of_getElem? (i := 24) (by decide +kernel)) rfl, by decide +kernel, by decide +kernel, by decide +kernel⟩, tb_in (List.mem_of_getElem? (i := 312) (by decide +kernel)) rfl⟩
set_option maxRecDepth 100000 in
theorem cdX11_isCover : CDS mX11_isCover 1 := ⟨⟨tb_in (List.mem_of_getElem? (i := 370) rfl) rfl, tb_in (List.mem_of_getElem? (i := 24) (by decide +kernel)) rfl, by decide +kernel, by decide +kernel, by decide +kernel⟩, tb_in (List.mem_of_getElem? (i := 369) (by decide +kernel)) rfl⟩
set_option maxRecDepth 100000 in
theorem cdX11_isMark : CDV mX11_isMark 1 11 := ⟨⟨tb_in (List.mem_of_getElem? (i := 529) rfl) rfl, tb_in (List.mem_of_getElem? (i := 24) (by decide +kernel)) rfl, by decide +kernel, by decide +kernel, by decide +kernel⟩, tb_in (List.mem_of_getElem? (i := 528) (by decide +kernel)) rfl, tb_in (List.mem_of_getElem? (i := 0) (by decide +kernel)) rfl, rfl⟩
set_option maxRecDepth 100000 in
theorem cdX11_areTwoTowns : CDS mX11_areTwoTowns 2 := ⟨⟨tb_in (List.mem_of_getElem? (i := 616) rfl) rfl, tb_in (List.mem_of_getElem? (i := 24) (by decide +kernel)) rfl, by decide +kernel, by decide +kernel, by decide +kernel⟩, tb_in (List.mem_of_getElem? (i := 615) (by decide +kernel)) rfl⟩
set_option maxRecDepth 100000 in
theorem cdX11_areLandsAndDay : CDS mX11_areLandsAndDay 3 := ⟨⟨tb_in (List.mem_of_getElem? (i := 843) rfl) rfl, tb_in (List.mem_of_getElem? (i := 24) (by decide +kernel)) rfl, by decide +kernel, by decide +kernel, by decide +kernel⟩, tb_in (List.mem_of_getElem? (i := 842) (by decide +kernel)) rfl⟩
set_option maxRecDepth 100000 in
theorem cdX11_isDate : CDS mX11_isDate 1 := ⟨⟨tb_in (List.mem_of_getElem? (i := 373) rfl) rfl, tb_in (List.mem_of_getElem? (i := 24) (by decide +kernel)) rfl, by decide +kernel, by decide +kernel, by decide +kernel⟩, tb_in (List.mem_of_getElem? (i := 372) (by decide +kernel)) rfl⟩
set_option maxRecDepth 100000 in
theorem cdX11_byteOf : CDS mX11_byteOf 2 := ⟨⟨tb_in (List.mem_of_getElem? (i := 377) rfl) rfl, tb_in (List.mem_of_getElem? (i := 24) (by decide +kernel)) rfl, by decide +kernel, by decide +kernel, by decide +kernel⟩, tb_in (List.mem_of_getElem? (i := 376) (by decide +kernel)) rfl⟩
set_option maxRecDepth 100000 in
theorem cdX11_figureOf : CDS mX11_figureOf 2 := ⟨⟨tb_in (List.mem_of_getElem? (i := 472) rfl) rfl, tb_in (List.mem_of_getElem? (i := 24) (by decide +kernel)) rfl, by decide +kernel, by decide +kernel, by decide +kernel⟩, tb_in (List.mem_of_getElem? (i := 471) (by decide +kernel)) rfl⟩
set_option maxRecDepth 100000 in
theorem cdX12_init : CDI mX12_init 0 := ⟨⟨tb_in (List.mem_of_getElem? (i := 937) rfl) rfl, tb_in (List.mem_of_getElem? (i := 33) (by decide +kernel)) rfl, by decide +kernel, by decide +kernel, by decide +kernel⟩, tb_in (List.mem_of_getElem? (i := 936) (by decide +kernel)) rfl, rfl, rfl⟩
set_option maxRecDepth 100000 in
theorem cdX12_in : CDS mX12_in 3 := ⟨⟨tb_in (List.mem_of_getElem? (i := 1067) rfl) rfl, tb_in (List.mem_of_getElem? (i := 33) (by decide +kernel)) rfl, by decide +kernel, by decide +kernel, by decide +kernel⟩, tb_in (List.mem_of_getElem? (i := 1066) (by decide +kernel)) rfl⟩
set_option maxRecDepth 100000 in
theorem cdX12_isDay : CDS mX12_isDay 1 := ⟨⟨tb_in (List.mem_of_getElem? (i := 1074) rfl) rfl, tb_in (List.mem_of_getElem? (i := 33) (by decide +kernel)) rfl, by decide +kernel, by decide +kernel, by decide +kernel⟩, tb_in (List.mem_of_getElem? (i := 1073) (by decide +kernel)) rfl⟩
set_option maxRecDepth 100000 in
theorem cdX12_isTown : CDS mX12_isTown 1 := ⟨⟨tb_in (List.mem_of_getElem? (i := 1064) rfl) rfl, tb_in (List.mem_of_getElem? (i := 33) (by decide +kernel)) rfl, by decide +kernel, by decide +kernel, by decide +kernel⟩, tb_in (List.mem_of_getElem? (i := 1063) (by decide +kernel)) rfl⟩
set_option maxRecDepth 100000 in
theorem cdX12_isCover : CDS mX12_isCover 1 := ⟨⟨tb_in (List.mem_of_getElem? (i := 1085) rfl) rfl, tb_in (List.mem_of_getElem? (i := 33) (by decide +kernel)) rfl, by decide +kernel, by decide +kernel, by decide +kernel⟩, tb_in (List.mem_of_getElem? (i := 1084) (by decide +kernel)) rfl⟩
set_option maxRecDepth 100000 in
theorem cdX12_isMark : CDV mX12_isMark 1 12 := ⟨⟨tb_in (List.mem_of_getElem? (i := 1097) rfl) rfl, tb_in (List.mem_of_getElem? (i := 33) (by decide +kernel)) rfl, by decide +kernel, by decide +kernel, by decide +kernel⟩, tb_in (List.mem_of_getElem? (i := 1096) (by decide +kernel)) rfl, tb_in (List.mem_of_getElem? (i := 1) (by decide +kernel)) rfl, rfl⟩
set_option maxRecDepth 100000 in
theorem cdX12_town : CDV mX12_town 2 12 := ⟨⟨tb_in (List.mem_of_getElem? (i := 1061) rfl) rfl, tb_in (List.mem_of_getElem? (i := 33) (by decide +kernel)) rfl, by decide +kernel, by decide +kernel, by decide +kernel⟩, tb_in (List.mem_of_getElem? (i := 1059) (by decide +kernel)) rfl, tb_in (List.mem_of_getElem? (i := 1060) (by decide +kernel)) rfl, rfl⟩
set_option maxRecDepth 100000 in
theorem cdX12_office : CDV mX12_office 3 12 := ⟨⟨tb_in (List.mem_of_getElem? (i := 1071) rfl) rfl, tb_in (List.mem_of_getElem? (i := 33) (by decide +kernel)) rfl, by decide +kernel, by decide +kernel, by decide +kernel⟩, tb_in (List.mem_of_getElem? (i := 1069) (by decide +kernel)) rfl, tb_in (List.mem_of_getElem? (i := 1070) (by decide +kernel)) rfl, rfl⟩
set_option maxRecDepth 100000 in
theorem cdX12_die : CDV mX12_die 5 12 := ⟨⟨tb_in (List.mem_of_getElem? (i := 1078) rfl) rfl, tb_in (List.mem_of_getElem? (i := 33) (by decide +kernel)) rfl, by decide +kernel, by decide +kernel, by decide +kernel⟩, tb_in (List.mem_of_getElem? (i := 1076) (by decide +kernel)) rfl, tb_in (List.mem_of_getElem? (i := 1077) (by decide +kernel)) rfl, rfl⟩
set_option maxRecDepth 100000 in
theorem cdX12_isFigure : CDS mX12_isFigure 1 := ⟨⟨tb_in (List.mem_of_getElem? (i := 1089) rfl) rfl, tb_in (List.mem_of_getElem? (i := 33) (by decide +kernel)) rfl, by decide +kernel, by decide +kernel, by decide +kernel⟩, tb_in (List.mem_of_getElem? (i := 1088) (by decide +kernel)) rfl⟩
set_option maxRecDepth 100000 in
theorem cdX12_mark : CDV mX12_mark 8 12 := ⟨⟨tb_in (List.mem_of_getElem? (i := 1082) rfl) rfl, tb_in (List.mem_of_getElem? (i := 33) (by decide +kernel)) rfl, by decide +kernel, by decide +kernel, by decide +kernel⟩, tb_in (List.mem_of_getElem? (i := 1080) (by decide +kernel)) rfl, tb_in (List.mem_of_getElem? (i := 1081) (by decide +kernel)) rfl, rfl⟩
set_option maxRecDepth 100000 in
theorem cdX12_lean : CDV mX12_lean 2 12 := ⟨⟨tb_in (List.mem_of_getElem? (i := 1093) rfl) rfl, tb_in (List.mem_of_getElem? (i := 33) (by decide +kernel)) rfl, by decide +kernel, by decide +kernel, by decide +kernel⟩, tb_in (List.mem_of_getElem? (i := 1091) (by decide +kernel)) rfl, tb_in (List.mem_of_getElem? (i := 1092) (by decide +kernel)) rfl, rfl⟩
set_option maxRecDepth 100000 in
theorem cdX12_about : CDV mX12_about 2 12 := ⟨⟨tb_in (List.mem_of_getElem? (i := 1106) rfl) rfl, tb_in (List.mem_of_getElem? (i := 33) (by decide +kernel)) rfl, by decide +kernel, by decide +kernel, by decide +kernel⟩, tb_in (List.mem_of_getElem? (i := 1104) (by decide +kernel)) rfl, tb_in (List.mem_of_getElem? (i := 1105) (by decide +kernel)) rfl, rfl⟩
set_option maxRecDepth 100000 in
theorem cdX12_canBe : CDV mX12_canBe 2 12 := ⟨⟨tb_in (List.mem_of_getElem? (i := 1118) rfl) rfl, tb_in (List.mem_of_getElem? (i := 33) (by decide +kernel)) rfl, by decide +kernel, by decide +kernel, by decide +kernel⟩, tb_in (List.mem_of_getElem? (i := 1117) (by decide +kernel)) rfl, tb_in (List.mem_of_getElem? (i := 3) (by decide +kernel)) rfl, rfl⟩
set_option maxRecDepth 100000 in
theorem cdX12_spanOf : CDV mX12_spanOf 1 12 := ⟨⟨tb_in (List.mem_of_getElem? (i := 1114) rfl) rfl, tb_in (List.mem_of_getElem? (i := 33) (by decide +kernel)) rfl, by decide +kernel, by decide +kernel, by decide +kernel⟩, tb_in (List.mem_of_getElem? (i := 1113) (by decide +kernel)) rfl, tb_in (List.mem_of_getElem? (i := 2) (by decide +kernel)) rfl, rfl⟩
set_option maxRecDepth 100000 in
theorem cdX12_span : CDV mX12_span 2 12 := ⟨⟨tb_in (List.mem_of_getElem? (i := 1110) rfl) rfl, tb_in (List.mem_of_getElem? (i := 33) (by decide +kernel)) rfl, by decide +kernel, by decide +kernel, by decide +kernel⟩, tb_in (List.mem_of_getElem? (i := 1108) (by decide +kernel)) rfl, tb_in (List.mem_of_getElem? (i := 1109) (by decide +kernel)) rfl, rfl⟩
set_option maxRecDepth 100000 in
theorem cdX12_can : CDV mX12_can 2 12 := ⟨⟨tb_in (List.mem_of_getElem? (i := 1122) rfl) rfl, tb_in (List.mem_of_getElem? (i := 33) (by decide +kernel)) rfl, by decide +kernel, by decide +kernel, by decide +kernel⟩, tb_in (List.mem_of_getElem? (i := 1120) (by decide +kernel)) rfl, tb_in (List.mem_of_getElem? (i := 1121) (by decide +kernel)) rfl, rfl⟩
set_option maxRecDepth 100000 in
theorem cdX12_isOf : CDV mX12_isOf 3 12 := ⟨⟨tb_in (List.mem_of_getElem? (i := 1130) rfl) rfl, tb_in (List.mem_of_getElem? (i := 33) (by decide +kernel)) rfl, by decide +kernel, by decide +kernel, by decide +kernel⟩, tb_in (List.mem_of_getElem? (i := 1129) (by decide +kernel)) rfl, tb_in (List.mem_of_getElem? (i := 4) (by decide +kernel)) rfl, rfl⟩
set_option maxRecDepth 100000 in
theorem cdX12_marks : CDV mX12_marks 2 12 := ⟨⟨tb_in (List.mem_of_getElem? (i := 1126) rfl) rfl, tb_in (List.mem_of_getElem? (i := 33) (by decide +kernel)) rfl, by decide +kernel, by decide +kernel, by decide +kernel⟩, tb_in (List.mem_of_getElem? (i := 1124) (by decide +kernel)) rfl, tb_in (List.mem_of_getElem? (i := 1125) (by decide +kernel)) rfl, rfl⟩
set_option maxRecDepth 100000 in
theorem cdX12_sail : CDV mX12_sail 4 12 := ⟨⟨tb_in (List.mem_of_getElem? (i := 1134) rfl) rfl, tb_in (List.mem_of_getElem? (i := 33) (by decide +kernel)) rfl, by decide +kernel, by decide +kernel, by decide +kernel⟩, tb_in (List.mem_of_getElem? (i := 1132) (by decide +kernel)) rfl, tb_in (List.mem_of_getElem? (i := 1133) (by decide +kernel)) rfl, rfl⟩
set_option maxRecDepth 100000 in
theorem cdX12_late : CDV mX12_late 2 12 := ⟨⟨tb_in (List.mem_of_getElem? (i := 1138) rfl) rfl, tb_in (List.mem_of_getElem? (i := 33) (by decide +kernel)) rfl, by decide +kernel, by decide +kernel, by decide +kernel⟩, tb_in (List.mem_of_getElem? (i := 1136) (by decide +kernel)) rfl, tb_in (List.mem_of_getElem? (i := 1137) (by decide +kernel)) rfl, rfl⟩
set_option maxRecDepth 100000 in
theorem cdX12_road : CDV mX12_road 3 12 := ⟨⟨tb_in (List.mem_of_getElem? (i := 1142) rfl) rfl, tb_in (List.mem_of_getElem? (i := 33) (by decide +kernel)) rfl, by decide +kernel, by decide +kernel, by decide +kernel⟩, tb_in (List.mem_of_getElem? (i := 1140) (by decide +kernel)) rfl, tb_in (List.mem_of_getElem? (i := 1141) (by decide +kernel)) rfl, rfl⟩
set_option maxRecDepth 100000 in
theorem cdX12_soonestOf : CDV mX12_soonestOf 3 12 := ⟨⟨tb_in (List.mem_of_getElem? (i := 1150) rfl) rfl, tb_in (List.mem_of_getElem? (i := 33) (by decide +kernel)) rfl, by decide +kernel, by decide +kernel, by decide +kernel⟩, tb_in (List.mem_of_getElem? (i := 1149) (by decide +kernel)) rfl, tb_in (List.mem_of_getElem? (i := 5) (by decide +kernel)) rfl, rfl⟩
set_option maxRecDepth 100000 in
theorem cdX12_soonest : CDV mX12_soonest 3 12 := ⟨⟨tb_in (List.mem_of_getElem? (i := 1146) rfl) rfl, tb_in (List.mem_of_getElem? (i := 33) (by decide +kernel)) rfl, by decide +kernel, by decide +kernel, by decide +kernel⟩, tb_in (List.mem_of_getElem? (i := 1144) (by decide +kernel)) rfl, tb_in (List.mem_of_getElem? (i := 1145) (by decide +kernel)) rfl, rfl⟩
set_option maxRecDepth 100000 in
theorem cdX12_townOf : CDV mX12_townOf 1 12 := ⟨⟨tb_in (List.mem_of_getElem? (i := 1170) rfl) rfl, tb_in (List.mem_of_getElem? (i := 33) (by decide +kernel)) rfl, by decide +kernel, by decide +kernel, by decide +kernel⟩, tb_in (List.mem_of_getElem? (i := 1169) (by decide +kernel)) rfl, tb_in (List.mem_of_getElem? (i := 9) (by decide +kernel)) rfl, rfl⟩
set_option maxRecDepth 100000 in
theorem cdX12_ways : CDV mX12_ways 2 12 := ⟨⟨tb_in (List.mem_of_getElem? (i := 1162) rfl) rfl, tb_in (List.mem_of_getElem? (i := 33) (by decide +kernel)) rfl, by decide +kernel, by decide +kernel, by decide +kernel⟩, tb_in (List.mem_of_getElem? (i := 1161) (by decide +kernel)) rfl, tb_in (List.mem_of_getElem? (i := 7) (by decide +kernel)) rfl, rfl⟩
set_option maxRecDepth 100000 in
theorem cdX12_isGoing : CDV mX12_isGoing 1 12 := ⟨⟨tb_in (List.mem_of_getElem? (i := 1166) rfl) rfl, tb_in (List.mem_of_getElem? (i := 33) (by decide +kernel)) rfl, by decide +kernel, by decide +kernel, by decide +kernel⟩, tb_in (List.mem_of_getElem? (i := 1165) (by decide +kernel)) rfl, tb_in (List.mem_of_getElem? (i := 8) (by decide +kernel)) rfl, rfl⟩
set_option maxRecDepth 100000 in
theorem cdX12_refuses : CDV mX12_refuses 2 12 := ⟨⟨tb_in (List.mem_of_getElem? (i := 1158) rfl) rfl, tb_in (List.mem_of_getElem? (i := 33) (by decide +kernel)) rfl, by decide +kernel, by decide +kernel, by decide +kernel⟩, tb_in (List.mem_of_getElem? (i := 1157) (by decide +kernel)) rfl, tb_in (List.mem_of_getElem? (i := 6) (by decide +kernel)) rfl, rfl⟩
set_option maxRecDepth 100000 in
theorem cdX12_goes : CDV mX12_goes 3 12 := ⟨⟨tb_in (List.mem_of_getElem? (i := 1154) rfl) rfl, tb_in (List.mem_of_getElem? (i := 33) (by decide +kernel)) rfl, by decide +kernel, by decide +kernel, by decide +kernel⟩, tb_in (List.mem_of_getElem? (i := 1152) (by decide +kernel)) rfl, tb_in (List.mem_of_getElem? (i := 1153) (by decide +kernel)) rfl, rfl⟩
set_option maxRecDepth 100000 in
theorem cdX12_when : CDV mX12_when 4 12 := ⟨⟨tb_in (List.mem_of_getElem? (i := 1174) rfl) rfl, tb_in (List.mem_of_getElem? (i := 33) (by decide +kernel)) rfl, by decide +kernel, by decide +kernel, by decide +kernel⟩, tb_in (List.mem_of_getElem? (i := 1172) (by decide +kernel)) rfl, tb_in (List.mem_of_getElem? (i := 1173) (by decide +kernel)) rfl, rfl⟩
set_option maxRecDepth 100000 in
theorem cdX12_bars : CDV mX12_bars 2 12 := ⟨⟨tb_in (List.mem_of_getElem? (i := 1178) rfl) rfl, tb_in (List.mem_of_getElem? (i := 33) (by decide +kernel)) rfl, by decide +kernel, by decide +kernel, by decide +kernel⟩, tb_in (List.mem_of_getElem? (i := 1176) (by decide +kernel)) rfl, tb_in (List.mem_of_getElem? (i := 1177) (by decide +kernel)) rfl, rfl⟩
set_option maxRecDepth 100000 in
theorem cdX12_ones : CDS mX12_ones 1 := ⟨⟨tb_in (List.mem_of_getElem? (i := 1185) rfl) rfl, tb_in (List.mem_of_getElem? (i := 33) (by decide +kernel)) rfl, by decide +kernel, by decide +kernel, by decide +kernel⟩, tb_in (List.mem_of_getElem? (i := 1184) (by decide +kernel)) rfl⟩
set_option maxRecDepth 100000 in
theorem cdX12_fewest : CDV mX12_fewest 3 12 := ⟨⟨tb_in (List.mem_of_getElem? (i := 1182) rfl) rfl, tb_in (List.mem_of_getElem? (i := 33) (by decide +kernel)) rfl, by decide +kernel, by decide +kernel, by decide +kernel⟩, tb_in (List.mem_of_getElem? (i := 1180) (by decide +kernel)) rfl, tb_in (List.mem_of_getElem? (i := 1181) (by decide +kernel)) rfl, rfl⟩
set_option maxRecDepth 100000 in
theorem cdX12_type : CDV mX12_type 2 12 := ⟨⟨tb_in (List.mem_of_getElem? (i := 1189) rfl) rfl, tb_in (List.mem_of_getElem? (i := 33) (by decide +kernel)) rfl, by decide +kernel, by decide +kernel, by decide +kernel⟩, tb_in (List.mem_of_getElem? (i := 1187) (by decide +kernel)) rfl, tb_in (List.mem_of_getElem? (i := 1188) (by decide +kernel)) rfl, rfl⟩
set_option maxRecDepth 100000 in
theorem cdX12_clear : CDV mX12_clear 0 12 := ⟨⟨tb_in (List.mem_of_getElem? (i := 1194) rfl) rfl, tb_in (List.mem_of_getElem? (i := 33) (by decide +kernel)) rfl, by decide +kernel, by decide +kernel, by decide +kernel⟩, tb_in (List.mem_of_getElem? (i := 1192) (by decide +kernel)) rfl, tb_in (List.mem_of_getElem? (i := 1193) (by decide +kernel)) rfl, rfl⟩
set_option maxRecDepth 100000 in
theorem cdX12_byteAt : CDV mX12_byteAt 1 12 := ⟨⟨tb_in (List.mem_of_getElem? (i := 1206) rfl) rfl, tb_in (List.mem_of_getElem? (i := 33) (by decide +kernel)) rfl, by decide +kernel, by decide +kernel, by decide +kernel⟩, tb_in (List.mem_of_getElem? (i := 1205) (by decide +kernel)) rfl, tb_in (List.mem_of_getElem? (i := 11) (by decide +kernel)) rfl, rfl⟩
set_option maxRecDepth 100000 in
theorem cdX12_name : CDS mX12_name 4 := ⟨⟨tb_in (List.mem_of_getElem? (i := 1212) rfl) rfl, tb_in (List.mem_of_getElem? (i := 33) (by decide +kernel)) rfl, by decide +kernel, by decide +kernel, by decide +kernel⟩, tb_in (List.mem_of_getElem? (i := 1211) (by decide +kernel)) rfl⟩
set_option maxRecDepth 100000 in
theorem cdX12_wordOf : CDS mX12_wordOf 1 := ⟨⟨tb_in (List.mem_of_getElem? (i := 1209) rfl) rfl, tb_in (List.mem_of_getElem? (i := 33) (by decide +kernel)) rfl, by decide +kernel, by decide +kernel, by decide +kernel⟩, tb_in (List.mem_of_getElem? (i := 1208) (by decide +kernel)) rfl⟩
set_option maxRecDepth 100000 in
theorem cdX12_advances : CDV mX12_advances 0 12 := ⟨⟨tb_in (List.mem_of_getElem? (i := 1202) rfl) rfl, tb_in (List.mem_of_getElem? (i := 33) (by decide +kernel)) rfl, by decide +kernel, by decide +kernel, by decide +kernel⟩, tb_in (List.mem_of_getElem? (i := 1201) (by decide +kernel)) rfl, tb_in (List.mem_of_getElem? (i := 10) (by decide +kernel)) rfl, rfl⟩
set_option maxRecDepth 100000 in
theorem cdX12_isWell : CDV mX12_isWell 0 12 := ⟨⟨tb_in (List.mem_of_getElem? (i := 1216) rfl) rfl, tb_in (List.mem_of_getElem? (i := 33) (by decide +kernel)) rfl, by decide +kernel, by decide +kernel, by decide +kernel⟩, tb_in (List.mem_of_getElem? (i := 1215) (by decide +kernel)) rfl, tb_in (List.mem_of_getElem? (i := 12) (by decide +kernel)) rfl, rfl⟩
set_option maxRecDepth 100000 in
theorem cdX12_fails : CDV mX12_fails 0 12 := ⟨⟨tb_in (List.mem_of_getElem? (i := 1220) rfl) rfl, tb_in (List.mem_of_getElem? (i := 33) (by decide +kernel)) rfl, by decide +kernel, by decide +kernel, by decide +kernel⟩, tb_in (List.mem_of_getElem? (i := 1219) (by decide +kernel)) rfl, tb_in (List.mem_of_getElem? (i := 13) (by decide +kernel)) rfl, rfl⟩
set_option maxRecDepth 100000 in
theorem cdX12_isSign : CDV mX12_isSign 1 12 := ⟨⟨tb_in (List.mem_of_getElem? (i := 1244) rfl) rfl, tb_in (List.mem_of_getElem? (i := 33) (by decide +kernel)) rfl, by decide +kernel, by decide +kernel, by decide +kernel⟩, tb_in (List.mem_of_getElem? (i := 1243) (by decide +kernel)) rfl, tb_in (List.mem_of_getElem? (i := 19) (by decide +kernel)) rfl, rfl⟩
set_option maxRecDepth 100000 in
theorem cdX12_isWord : CDV mX12_isWord 1 12 := ⟨⟨tb_in (List.mem_of_getElem? (i := 1232) rfl) rfl, tb_in (List.mem_of_getElem? (i := 33) (by decide +kernel)) rfl, by decide +kernel, by decide +kernel, by decide +kernel⟩, tb_in (List.mem_of_getElem? (i := 1231) (by decide +kernel)) rfl, tb_in (List.mem_of_getElem? (i := 16) (by decide +kernel)) rfl, rfl⟩
set_option maxRecDepth 100000 in
theorem cdX12_takesSign : CDV mX12_takesSign 1 12 := ⟨⟨tb_in (List.mem_of_getElem? (i := 1240) rfl) rfl, tb_in (List.mem_of_getElem? (i := 33) (by decide +kernel)) rfl, by decide +kernel, by decide +kernel, by decide +kernel⟩, tb_in (List.mem_of_getElem? (i := 1239) (by decide +kernel)) rfl, tb_in (List.mem_of_getElem? (i := 18) (by decide +kernel)) rfl, rfl⟩
set_option maxRecDepth 100000 in
theorem cdX12_takesWord : CDV mX12_takesWord 1 12 := ⟨⟨tb_in (List.mem_of_getElem? (i := 1228) rfl) rfl, tb_in (List.mem_of_getElem? (i := 33) (by decide +kernel)) rfl, by decide +kernel, by decide +kernel, by decide +kernel⟩, tb_in (List.mem_of_getElem? (i := 1227) (by decide +kernel)) rfl, tb_in (List.mem_of_getElem? (i := 15) (by decide +kernel)) rfl, rfl⟩
set_option maxRecDepth 100000 in
theorem cdX12_takesNumber : CDV mX12_takesNumber 2 12 := ⟨⟨tb_in (List.mem_of_getElem? (i := 1236) rfl) rfl, tb_in (List.mem_of_getElem? (i := 33) (by decide +kernel)) rfl, by decide +kernel, by decide +kernel, by decide +kernel⟩, tb_in (List.mem_of_getElem? (i := 1235) (by decide +kernel)) rfl, tb_in (List.mem_of_getElem? (i := 17) (by decide +kernel)) rfl, rfl⟩
set_option maxRecDepth 100000 in
theorem cdX12_readsRule : CDV mX12_readsRule 1 12 := ⟨⟨tb_in (List.mem_of_getElem? (i := 1224) rfl) rfl, tb_in (List.mem_of_getElem? (i := 33) (by decide +kernel)) rfl, by decide +kernel, by decide +kernel, by decide +kernel⟩, tb_in (List.mem_of_getElem? (i := 1223) (by decide +kernel)) rfl, tb_in (List.mem_of_getElem? (i := 14) (by decide +kernel)) rfl, rfl⟩
set_option maxRecDepth 100000 in
theorem cdX12_rates : CDV mX12_rates 0 12 := ⟨⟨tb_in (List.mem_of_getElem? (i := 1198) rfl) rfl, tb_in (List.mem_of_getElem? (i := 33) (by decide +kernel)) rfl, by decide +kernel, by decide +kernel, by decide +kernel⟩, tb_in (List.mem_of_getElem? (i := 1196) (by decide +kernel)) rfl, tb_in (List.mem_of_getElem? (i := 1197) (by decide +kernel)) rfl, rfl⟩
set_option maxRecDepth 100000 in
theorem cdX12_ruleOf : CDV mX12_ruleOf 3 12 := ⟨⟨tb_in (List.mem_of_getElem? (i := 1255) rfl) rfl, tb_in (List.mem_of_getElem? (i := 33) (by decide +kernel)) rfl, by decide +kernel, by decide +kernel, by decide +kernel⟩, tb_in (List.mem_of_getElem? (i := 1254) (by decide +kernel)) rfl, tb_in (List.mem_of_getElem? (i := 20) (by decide +kernel)) rfl, rfl⟩
set_option maxRecDepth 100000 in
theorem cdX12_owedBy : CDV mX12_owedBy 2 12 := ⟨⟨tb_in (List.mem_of_getElem? (i := 1259) rfl) rfl, tb_in (List.mem_of_getElem? (i := 33) (by decide +kernel)) rfl, by decide +kernel, by decide +kernel, by decide +kernel⟩, tb_in (List.mem_of_getElem? (i := 1258) (by decide +kernel)) rfl, tb_in (List.mem_of_getElem? (i := 21) (by decide +kernel)) rfl, rfl⟩
set_option maxRecDepth 100000 in
theorem cdX12_isLand : CDS mX12_isLand 1 := ⟨⟨tb_in (List.mem_of_getElem? (i := 1251) rfl) rfl, tb_in (List.mem_of_getElem? (i := 33) (by decide +kernel)) rfl, by decide +kernel, by decide +kernel, by decide +kernel⟩, tb_in (List.mem_of_getElem? (i := 1250) (by decide +kernel)) rfl⟩
set_option maxRecDepth 100000 in
theorem cdX12_owed : CDV mX12_owed 5 12 := ⟨⟨tb_in (List.mem_of_getElem? (i := 1248) rfl) rfl, tb_in (List.mem_of_getElem? (i := 33) (by decide +kernel)) rfl, by decide +kernel, by decide +kernel, by decide +kernel⟩, tb_in (List.mem_of_getElem? (i := 1246) (by decide +kernel)) rfl, tb_in (List.mem_of_getElem? (i := 1247) (by decide +kernel)) rfl, rfl⟩
set_option maxRecDepth 100000 in
theorem cdX12_weights : CDV mX12_weights 5 12 := ⟨⟨tb_in (List.mem_of_getElem? (i := 1263) rfl) rfl, tb_in (List.mem_of_getElem? (i := 33) (by decide +kernel)) rfl, by decide +kernel, by decide +kernel, by decide +kernel⟩, tb_in (List.mem_of_getElem? (i := 1261) (by decide +kernel)) rfl, tb_in (List.mem_of_getElem? (i := 1262) (by decide +kernel)) rfl, rfl⟩
set_option maxRecDepth 100000 in
theorem cdX12_isMail : CDV mX12_isMail 3 12 := ⟨⟨tb_in (List.mem_of_getElem? (i := 1272) rfl) rfl, tb_in (List.mem_of_getElem? (i := 33) (by decide +kernel)) rfl, by decide +kernel, by decide +kernel, by decide +kernel⟩, tb_in (List.mem_of_getElem? (i := 1271) (by decide +kernel)) rfl, tb_in (List.mem_of_getElem? (i := 22) (by decide +kernel)) rfl, rfl⟩
set_option maxRecDepth 100000 in
theorem cdX12_mail : CDV mX12_mail 3 12 := ⟨⟨tb_in (List.mem_of_getElem? (i := 1268) rfl) rfl, tb_in (List.mem_of_getElem? (i := 33) (by decide +kernel)) rfl, by decide +kernel, by decide +kernel, by decide +kernel⟩, tb_in (List.mem_of_getElem? (i := 1266) (by decide +kernel)) rfl, tb_in (List.mem_of_getElem? (i := 1267) (by decide +kernel)) rfl, rfl⟩
set_option maxRecDepth 100000 in
theorem cdX12_heap : CDV mX12_heap 2 12 := ⟨⟨tb_in (List.mem_of_getElem? (i := 1276) rfl) rfl, tb_in (List.mem_of_getElem? (i := 33) (by decide +kernel)) rfl, by decide +kernel, by decide +kernel, by decide +kernel⟩, tb_in (List.mem_of_getElem? (i := 1274) (by decide +kernel)) rfl, tb_in (List.mem_of_getElem? (i := 1275) (by decide +kernel)) rfl, rfl⟩
set_option maxRecDepth 100000 in
theorem cdX12_many : CDV mX12_many 2 12 := ⟨⟨tb_in (List.mem_of_getElem? (i := 1280) rfl) rfl, tb_in (List.mem_of_getElem? (i := 33) (by decide +kernel)) rfl, by decide +kernel, by decide +kernel, by decide +kernel⟩, tb_in (List.mem_of_getElem? (i := 1278) (by decide +kernel)) rfl, tb_in (List.mem_of_getElem? (i := 1279) (by decide +kernel)) rfl, rfl⟩
set_option maxRecDepth 100000 in
theorem cdX12_look : CDV mX12_look 2 12 := ⟨⟨tb_in (List.mem_of_getElem? (i := 1284) rfl) rfl, tb_in (List.mem_of_getElem? (i := 33) (by decide +kernel)) rfl, by decide +kernel, by decide +kernel, by decide +kernel⟩, tb_in (List.mem_of_getElem? (i := 1282) (by decide +kernel)) rfl, tb_in (List.mem_of_getElem? (i := 1283) (by decide +kernel)) rfl, rfl⟩
set_option maxRecDepth 100000 in
theorem cdX12_count : CDV mX12_count 1 12 := ⟨⟨tb_in (List.mem_of_getElem? (i := 1288) rfl) rfl, tb_in (List.mem_of_getElem? (i := 33) (by decide +kernel)) rfl, by decide +kernel, by decide +kernel, by decide +kernel⟩, tb_in (List.mem_of_getElem? (i := 1286) (by decide +kernel)) rfl, tb_in (List.mem_of_getElem? (i := 1287) (by decide +kernel)) rfl, rfl⟩
set_option maxRecDepth 100000 in
theorem cdX12_trace : CDV mX12_trace 0 12 := ⟨⟨tb_in (List.mem_of_getElem? (i := 1292) rfl) rfl, tb_in (List.mem_of_getElem? (i := 33) (by decide +kernel)) rfl, by decide +kernel, by decide +kernel, by decide +kernel⟩, tb_in (List.mem_of_getElem? (i := 1290) (by decide +kernel)) rfl, tb_in (List.mem_of_getElem? (i := 1291) (by decide +kernel)) rfl, rfl⟩
set_option maxRecDepth 100000 in
theorem cdJ6_bitCount_0f7a4 : CDS mJ6_bitCount_0f7a4 1 := ⟨⟨tb_in (List.mem_of_getElem? (i := 704) rfl) rfl, tb_in (List.mem_of_getElem? (i := 40) (by decide +kernel)) rfl, by decide +kernel, by decide +kernel, by decide +kernel⟩, tb_in (List.mem_of_getElem? (i := 703) (by decide +kernel)) rfl⟩
set_option maxRecDepth 100000 in
theorem cdJ13_bitCount_95d88 : CDS mJ13_bitCount_95d88 1 := ⟨⟨tb_in (List.mem_of_getElem? (i := 501) rfl) rfl, tb_in (List.mem_of_getElem? (i := 38) (by decide +kernel)) rfl, by decide +kernel, by decide +kernel, by decide +kernel⟩, tb_in (List.mem_of_getElem? (i := 500) (by decide +kernel)) rfl⟩
set_option maxRecDepth 100000 in
theorem cdJ9_max_7cf53 : CDS mJ9_max_7cf53 2 := ⟨⟨tb_in (List.mem_of_getElem? (i := 517) rfl) rfl, tb_in (List.mem_of_getElem? (i := 39) (by decide +kernel)) rfl, by decide +kernel, by decide +kernel, by decide +kernel⟩, tb_in (List.mem_of_getElem? (i := 516) (by decide +kernel)) rfl⟩
set_option maxRecDepth 100000 in
theorem cdJ9_min_7cf53 : CDS mJ9_min_7cf53 2 := ⟨⟨tb_in (List.mem_of_getElem? (i := 592) rfl) rfl, tb_in (List.mem_of_getElem? (i := 39) (by decide +kernel)) rfl, by decide +kernel, by decide +kernel, by decide +kernel⟩, tb_in (List.mem_of_getElem? (i := 591) (by decide +kernel)) rfl⟩
set_option maxRecDepth 100000 in
theorem cdJ0_checkIndex_df160 : CDS mJ0_checkIndex_df160 2 := ⟨⟨tb_in (List.mem_of_getElem? (i := 775) rfl) rfl, tb_in (List.mem_of_getElem? (i := 41) (by decide +kernel)) rfl, by decide +kernel, by decide +kernel, by decide +kernel⟩, tb_in (List.mem_of_getElem? (i := 774) (by decide +kernel)) rfl⟩
set_option maxRecDepth 100000 in
theorem cdJ1_charAt_3b067 : CDS mJ1_charAt_3b067 2 := ⟨⟨tb_in (List.mem_of_getElem? (i := 772) rfl) rfl, tb_in (List.mem_of_getElem? (i := 42) (by decide +kernel)) rfl, by decide +kernel, by decide +kernel, by decide +kernel⟩, tb_in (List.mem_of_getElem? (i := 771) (by decide +kernel)) rfl⟩
set_option maxRecDepth 100000 in
theorem cdJ2_getChar_3b067 : CDS mJ2_getChar_3b067 2 := ⟨⟨tb_in (List.mem_of_getElem? (i := 793) rfl) rfl, tb_in (List.mem_of_getElem? (i := 44) (by decide +kernel)) rfl, by decide +kernel, by decide +kernel, by decide +kernel⟩, tb_in (List.mem_of_getElem? (i := 792) (by decide +kernel)) rfl⟩
set_option maxRecDepth 100000 in
theorem cdJ2_length_9d52b : CDS mJ2_length_9d52b 1 := ⟨⟨tb_in (List.mem_of_getElem? (i := 789) rfl) rfl, tb_in (List.mem_of_getElem? (i := 44) (by decide +kernel)) rfl, by decide +kernel, by decide +kernel, by decide +kernel⟩, tb_in (List.mem_of_getElem? (i := 788) (by decide +kernel)) rfl⟩
set_option maxRecDepth 100000 in
theorem cdJ2_charAt_3b067 : CDS mJ2_charAt_3b067 2 := ⟨⟨tb_in (List.mem_of_getElem? (i := 783) rfl) rfl, tb_in (List.mem_of_getElem? (i := 44) (by decide +kernel)) rfl, by decide +kernel, by decide +kernel, by decide +kernel⟩, tb_in (List.mem_of_getElem? (i := 782) (by decide +kernel)) rfl⟩
set_option maxRecDepth 100000 in
theorem cdJ2_checkIndex_2214a : CDS mJ2_checkIndex_2214a 2 := ⟨⟨tb_in (List.mem_of_getElem? (i := 786) rfl) rfl, tb_in (List.mem_of_getElem? (i := 44) (by decide +kernel)) rfl, by decide +kernel, by decide +kernel, by decide +kernel⟩, tb_in (List.mem_of_getElem? (i := 785) (by decide +kernel)) rfl⟩
set_option maxRecDepth 100000 in
theorem cdJ7_fill_53178 : CDS mJ7_fill_53178 2 := ⟨⟨tb_in (List.mem_of_getElem? (i := 98) rfl) rfl, tb_in (List.mem_of_getElem? (i := 28) (by decide +kernel)) rfl, by decide +kernel, by decide +kernel, by decide +kernel⟩, tb_in (List.mem_of_getElem? (i := 97) (by decide +kernel)) rfl⟩
set_option maxRecDepth 100000 in
theorem cdJ3_checkIndex_8e157 : CDS mJ3_checkIndex_8e157 3 := ⟨⟨tb_in (List.mem_of_getElem? (i := 780) rfl) rfl, tb_in (List.mem_of_getElem? (i := 43) (by decide +kernel)) rfl, by decide +kernel, by decide +kernel, by decide +kernel⟩, tb_in (List.mem_of_getElem? (i := 779) (by decide +kernel)) rfl⟩
set_option maxRecDepth 100000 in
theorem oiX11_1 : Cond.methodLink RX11 1 objectInit ∈ tb ∧ Cond.instanceMethod objectInit ∈ tb ∧ Cond.code objectInit ⟨#[0xb1]⟩ 1 none ∈ tb := ⟨tb_in (List.mem_of_getElem? (i := 50) (by decide +kernel)) rfl, tb_in (List.mem_of_getElem? (i := 51) (by decide +kernel)) rfl, tb_in (List.mem_of_getElem? (i := 52) rfl) rfl⟩
set_option maxRecDepth 100000 in
theorem oiX0_3 : Cond.methodLink RX0 3 objectInit ∈ tb ∧ Cond.instanceMethod objectInit ∈ tb ∧ Cond.code objectInit ⟨#[0xb1]⟩ 1 none ∈ tb := ⟨tb_in (List.mem_of_getElem? (i := 62) (by decide +kernel)) rfl, tb_in (List.mem_of_getElem? (i := 51) (by decide +kernel)) rfl, tb_in (List.mem_of_getElem? (i := 52) rfl) rfl⟩
set_option maxRecDepth 100000 in
theorem oiX1_3 : Cond.methodLink RX1 3 objectInit ∈ tb ∧ Cond.instanceMethod objectInit ∈ tb ∧ Cond.code objectInit ⟨#[0xb1]⟩ 1 none ∈ tb := ⟨tb_in (List.mem_of_getElem? (i := 389) (by decide +kernel)) rfl, tb_in (List.mem_of_getElem? (i := 51) (by decide +kernel)) rfl, tb_in (List.mem_of_getElem? (i := 52) rfl) rfl⟩
set_option maxRecDepth 100000 in
theorem oiX2_3 : Cond.methodLink RX2 3 objectInit ∈ tb ∧ Cond.instanceMethod objectInit ∈ tb ∧ Cond.code objectInit ⟨#[0xb1]⟩ 1 none ∈ tb := ⟨tb_in (List.mem_of_getElem? (i := 346) (by decide +kernel)) rfl, tb_in (List.mem_of_getElem? (i := 51) (by decide +kernel)) rfl, tb_in (List.mem_of_getElem? (i := 52) rfl) rfl⟩
set_option maxRecDepth 100000 in
theorem oiX3_3 : Cond.methodLink RX3 3 objectInit ∈ tb ∧ Cond.instanceMethod objectInit ∈ tb ∧ Cond.code objectInit ⟨#[0xb1]⟩ 1 none ∈ tb := ⟨tb_in (List.mem_of_getElem? (i := 136) (by decide +kernel)) rfl, tb_in (List.mem_of_getElem? (i := 51) (by decide +kernel)) rfl, tb_in (List.mem_of_getElem? (i := 52) rfl) rfl⟩
set_option maxRecDepth 100000 in
theorem oiX4_3 : Cond.methodLink RX4 3 objectInit ∈ tb ∧ Cond.instanceMethod objectInit ∈ tb ∧ Cond.code objectInit ⟨#[0xb1]⟩ 1 none ∈ tb := ⟨tb_in (List.mem_of_getElem? (i := 82) (by decide +kernel)) rfl, tb_in (List.mem_of_getElem? (i := 51) (by decide +kernel)) rfl, tb_in (List.mem_of_getElem? (i := 52) rfl) rfl⟩
set_option maxRecDepth 100000 in
theorem oiX5_3 : Cond.methodLink RX5 3 objectInit ∈ tb ∧ Cond.instanceMethod objectInit ∈ tb ∧ Cond.code objectInit ⟨#[0xb1]⟩ 1 none ∈ tb := ⟨tb_in (List.mem_of_getElem? (i := 383) (by decide +kernel)) rfl, tb_in (List.mem_of_getElem? (i := 51) (by decide +kernel)) rfl, tb_in (List.mem_of_getElem? (i := 52) rfl) rfl⟩
set_option maxRecDepth 100000 in
theorem oiX6_1 : Cond.methodLink RX6 1 objectInit ∈ tb ∧ Cond.instanceMethod objectInit ∈ tb ∧ Cond.code objectInit ⟨#[0xb1]⟩ 1 none ∈ tb := ⟨tb_in (List.mem_of_getElem? (i := 321) (by decide +kernel)) rfl, tb_in (List.mem_of_getElem? (i := 51) (by decide +kernel)) rfl, tb_in (List.mem_of_getElem? (i := 52) rfl) rfl⟩
set_option maxRecDepth 100000 in
theorem oiX7_3 : Cond.methodLink RX7 3 objectInit ∈ tb ∧ Cond.instanceMethod objectInit ∈ tb ∧ Cond.code objectInit ⟨#[0xb1]⟩ 1 none ∈ tb := ⟨tb_in (List.mem_of_getElem? (i := 203) (by decide +kernel)) rfl, tb_in (List.mem_of_getElem? (i := 51) (by decide +kernel)) rfl, tb_in (List.mem_of_getElem? (i := 52) rfl) rfl⟩
set_option maxRecDepth 100000 in
theorem oiX8_3 : Cond.methodLink RX8 3 objectInit ∈ tb ∧ Cond.instanceMethod objectInit ∈ tb ∧ Cond.code objectInit ⟨#[0xb1]⟩ 1 none ∈ tb := ⟨tb_in (List.mem_of_getElem? (i := 173) (by decide +kernel)) rfl, tb_in (List.mem_of_getElem? (i := 51) (by decide +kernel)) rfl, tb_in (List.mem_of_getElem? (i := 52) rfl) rfl⟩
set_option maxRecDepth 100000 in
theorem oiX9_1 : Cond.methodLink RX9 1 objectInit ∈ tb ∧ Cond.instanceMethod objectInit ∈ tb ∧ Cond.code objectInit ⟨#[0xb1]⟩ 1 none ∈ tb := ⟨tb_in (List.mem_of_getElem? (i := 210) (by decide +kernel)) rfl, tb_in (List.mem_of_getElem? (i := 51) (by decide +kernel)) rfl, tb_in (List.mem_of_getElem? (i := 52) rfl) rfl⟩
set_option maxRecDepth 100000 in
theorem oiX10_3 : Cond.methodLink RX10 3 objectInit ∈ tb ∧ Cond.instanceMethod objectInit ∈ tb ∧ Cond.code objectInit ⟨#[0xb1]⟩ 1 none ∈ tb := ⟨tb_in (List.mem_of_getElem? (i := 93) (by decide +kernel)) rfl, tb_in (List.mem_of_getElem? (i := 51) (by decide +kernel)) rfl, tb_in (List.mem_of_getElem? (i := 52) rfl) rfl⟩
set_option maxRecDepth 100000 in
theorem oiX12_1 : Cond.methodLink RX12 1 objectInit ∈ tb ∧ Cond.instanceMethod objectInit ∈ tb ∧ Cond.code objectInit ⟨#[0xb1]⟩ 1 none ∈ tb := ⟨tb_in (List.mem_of_getElem? (i := 938) (by decide +kernel)) rfl, tb_in (List.mem_of_getElem? (i := 51) (by decide +kernel)) rfl, tb_in (List.mem_of_getElem? (i := 52) rfl) rfl⟩
