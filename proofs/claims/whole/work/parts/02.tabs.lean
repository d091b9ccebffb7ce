/-! TABLES: the methods (name, bytes, locals, type, class), the constant pools by class number and index. Written by gen_tabs.py -/
abbrev MI : Type := MethodName × ByteArray × Nat × Option FieldType × Nat
def meths_0 : List MI := [(yX0_init, cX0_init, 3, none, 0), (yX0_longest, cX0_longest, 2, (some FieldType.int), 0), (yX0_firstDeed, cX0_firstDeed, 5, (some FieldType.int), 0), (yX0_solve, cX0_solve, 6, none, 0), (yX0_meet, cX0_meet, 2, none, 0), (yX0_meetAll, cX0_meetAll, 8, none, 0), (yX0_holds, cX0_holds, 4, (some FieldType.boolean), 0), (yX0_sweep, cX0_sweep, 7, (some FieldType.boolean), 0), (yX0_newWitness, cX0_newWitness, 5, (some FieldType.int), 0), (yX1_init, cX1_init, 2, none, 1), (yX1_start, cX1_start, 4, none, 1), (yX1_searchOn, cX1_searchOn, 6, none, 1), (yX1_find, cX1_find, 6, (some FieldType.int), 1), (yX1_bits, cX1_bits, 7, (some FieldType.int), 1), (yX1_all, cX1_all, 3, (some FieldType.int), 1), (yX1_length, cX1_length, 4, (some FieldType.int), 1), (yX1_deedAt, cX1_deedAt, 5, (some FieldType.int), 1), (yX2_init, cX2_init, 7, none, 2), (yX2_stand, cX2_stand, 4, (some FieldType.int), 2), (yX2_bearerOf, cX2_bearerOf, 3, (some FieldType.int), 2), (yX2_placingOf, cX2_placingOf, 2, (some FieldType.int), 2), (yX2_placeOf, cX2_placeOf, 3, (some FieldType.int), 2), (yX2_strengthOf, cX2_strengthOf, 3, (some FieldType.int), 2), (yX2_strengthsOf, cX2_strengthsOf, 2, (some FieldType.int), 2), (yX2_bearing, cX2_bearing, 2, (some FieldType.int), 2), (yX2_isDown, cX2_isDown, 2, (some FieldType.boolean), 2), (yX2_where, cX2_where, 3, (some FieldType.int), 2), (yX2_kinAt, cX2_kinAt, 5, (some FieldType.int), 2), (yX2_together, cX2_together, 4, (some FieldType.int), 2), (yX2_fed, cX2_fed, 3, (some FieldType.int), 2), (yX2_weakened, cX2_weakened, 3, (some FieldType.int), 2), (yX3_init, cX3_init, 1, none, 3), (yX3_fit, cX3_fit, 2, none, 3), (yX3_turn, cX3_turn, 2, none, 3), (yX3_clearMarks, cX3_clearMarks, 2, none, 3), (yX4_init, cX4_init, 2, none, 4), (yX4_use, cX4_use, 3, none, 4), (yX4_tells, cX4_tells, 3, (some FieldType.boolean), 4), (yX4_whyNot, cX4_whyNot, 8, (some FieldType.int), 4), (yX4_after, cX4_after, 5, (some FieldType.int), 4), (yX4_spread, cX4_spread, 13, none, 4), (yX4_add, cX4_add, 3, none, 4), (yX4_with, cX4_with, 4, (some FieldType.int), 4), (yX4_tire, cX4_tire, 9, (some FieldType.int), 4), (yX4_mayGo, cX4_mayGo, 9, (some FieldType.boolean), 4), (yX4_setFacts, cX4_setFacts, 6, none, 4), (yX4_tell, cX4_tell, 6, (some FieldType.int), 4), (yX4_join, cX4_join, 8, (some FieldType.int), 4), (yX5_init, cX5_init, 3, none, 5), (yX5_prepare, cX5_prepare, 2, none, 5)]
def meths_1 : List MI := [(yX5_longest, cX5_longest, 3, (some FieldType.int), 5), (yX5_longestWithout, cX5_longestWithout, 4, (some FieldType.int), 5), (yX5_deedAt, cX5_deedAt, 11, (some FieldType.int), 5), (yX5_solve, cX5_solve, 12, none, 5), (yX5_look, cX5_look, 9, (some FieldType.int), 5), (yX5_needs, cX5_needs, 3, (some FieldType.boolean), 5), (yX6_init, cX6_init, 2, none, 6), (yX6_begin, cX6_begin, 2, none, 6), (yX6_take, cX6_take, 2, none, 6), (yX6_isDown, cX6_isDown, 1, (some FieldType.boolean), 6), (yX6_act, cX6_act, 5, (some FieldType.int), 6), (yX7_init, cX7_init, 2, none, 7), (yX7_read, cX7_read, 3, (some FieldType.int), 7), (yX7_clear, cX7_clear, 1, none, 7), (yX7_line, cX7_line, 5, none, 7), (yX7_kinLine, cX7_kinLine, 2, none, 7), (yX7_law, cX7_law, 3, none, 7), (yX7_number, cX7_number, 5, (some FieldType.int), 7), (yX7_emit, cX7_emit, 2, none, 7), (yX7_goesDeeper, cX7_goesDeeper, 2, (some FieldType.boolean), 7), (yX7_truth, cX7_truth, 3, none, 7), (yX7_both, cX7_both, 3, none, 7), (yX7_unit, cX7_unit, 3, none, 7), (yX7_sum, cX7_sum, 4, none, 7), (yX7_term, cX7_term, 3, none, 7), (yX7_atom, cX7_atom, 3, none, 7), (yX7_factOf, cX7_factOf, 2, (some FieldType.int), 7), (yX8_init, cX8_init, 2, none, 8), (yX8_expectAny, cX8_expectAny, 2, none, 8), (yX8_expect, cX8_expect, 3, none, 8), (yX8_fits, cX8_fits, 4, (some FieldType.boolean), 8), (yX8_total, cX8_total, 7, (some FieldType.long), 8), (yX8_forget, cX8_forget, 3, none, 8), (yX8_goOn, cX8_goOn, 7, (some FieldType.int), 8), (yX8_goOneHour, cX8_goOneHour, 11, (some FieldType.int), 8), (yX8_deedAt, cX8_deedAt, 8, (some FieldType.int), 8), (yX8_firstStep, cX8_firstStep, 7, (some FieldType.int), 8), (yX8_canGoOn, cX8_canGoOn, 9, (some FieldType.boolean), 8), (yX8_bearersAt, cX8_bearersAt, 9, (some FieldType.int), 8), (yX9_init, cX9_init, 1, none, 9), (yX9_hasRoom, cX9_hasRoom, 2, (some FieldType.boolean), 9), (yX9_put, cX9_put, 3, none, 9), (yX9_open, cX9_open, 2, none, 9), (yX9_refuse, cX9_refuse, 2, none, 9), (yX9_expect, cX9_expect, 2, none, 9), (yX9_step, cX9_step, 1, none, 9), (yX9_takeNumber, cX9_takeNumber, 1, none, 9), (yX9_takeWord, cX9_takeWord, 5, none, 9), (yX10_init, cX10_init, 1, none, 10), (yX10_expectMany, cX10_expectMany, 2, none, 10)]
def meths_2 : List MI := [(yX10_expect, cX10_expect, 3, none, 10), (yX10_sow, cX10_sow, 2, none, 10), (yX10_draw, cX10_draw, 2, (some FieldType.int), 10), (yX10_drawDeed, cX10_drawDeed, 2, (some FieldType.int), 10), (yX10_skies, cX10_skies, 5, (some FieldType.int), 10), (yX10_tiresSo, cX10_tiresSo, 6, (some FieldType.boolean), 10), (yX10_bestTrial, cX10_bestTrial, 8, (some FieldType.int), 10), (yX10_mostAlike, cX10_mostAlike, 10, (some FieldType.int), 10), (yX10_drawAll, cX10_drawAll, 4, none, 10), (yX10_weigh, cX10_weigh, 8, none, 10), (yX10_settle, cX10_settle, 4, none, 10), (yX10_inLowestTerms, cX10_inLowestTerms, 11, (some FieldType.int), 10), (yX11_init, cX11_init, 3, none, 11), (yX11_feed, cX11_feed, 6, (some FieldType.int), 11), (yX11_county, cX11_county, 2, (some FieldType.int), 11), (yX11_fault, cX11_fault, 2, (some FieldType.int), 11), (yX11_place, cX11_place, 3, (some FieldType.int), 11), (yX11_kin, cX11_kin, 3, (some FieldType.int), 11), (yX11_why, cX11_why, 2, (some FieldType.int), 11), (yX11_by, cX11_by, 4, (some FieldType.int), 11), (yX11_hour, cX11_hour, 3, (some FieldType.int), 11), (yX11_meal, cX11_meal, 3, (some FieldType.int), 11), (yX11_weather, cX11_weather, 3, (some FieldType.int), 11), (yX11_undo, cX11_undo, 3, (some FieldType.int), 11), (yX11_judge, cX11_judge, 5, (some FieldType.int), 11), (yX11_perform, cX11_perform, 3, (some FieldType.int), 11), (yX11_century, cX11_century, 5, (some FieldType.int), 11), (yX11_up, cX11_up, 1, (some FieldType.int), 11), (yX11_keeping, cX11_keeping, 2, (some FieldType.int), 11), (yX11_rows, cX11_rows, 2, (some FieldType.long), 11), (yX11_needed, cX11_needed, 6, (some FieldType.int), 11), (yX11_soonest, cX11_soonest, 4, (some FieldType.int), 11), (yX11_way, cX11_way, 5, (some FieldType.int), 11), (yX11_reach, cX11_reach, 1, (some FieldType.int), 11), (yX11_bearers, cX11_bearers, 1, (some FieldType.int), 11), (yX11_stands, cX11_stands, 1, (some FieldType.int), 11), (yX11_seen, cX11_seen, 3, (some FieldType.long), 11), (yX11_seenBy, cX11_seenBy, 4, (some FieldType.int), 11), (yX11_suspects, cX11_suspects, 4, (some FieldType.int), 11), (yX11_weathers, cX11_weathers, 3, (some FieldType.int), 11), (yX11_attempt, cX11_attempt, 4, (some FieldType.int), 11), (yX11_lasts, cX11_lasts, 1, (some FieldType.int), 11), (yX11_best, cX11_best, 1, (some FieldType.int), 11), (yX11_chance, cX11_chance, 4, (some FieldType.int), 11), (yX11_mean, cX11_mean, 4, (some FieldType.int), 11), (yX11_numbers, cX11_numbers, 5, (some FieldType.int), 11), (yX11_write, cX11_write, 5, (some FieldType.long), 11), (yX11_lists, cX11_lists, 7, (some FieldType.int), 11), (yX11_image, cX11_image, 3, (some FieldType.int), 11), (yX11_restore, cX11_restore, 3, (some FieldType.int), 11)]
def meths_3 : List MI := [(yX11_count, cX11_count, 2, (some FieldType.int), 11), (yX11_isPlace, cX11_isPlace, 2, (some FieldType.boolean), 11), (yX11_isKin, cX11_isKin, 2, (some FieldType.boolean), 11), (yX11_isTray, cX11_isTray, 2, (some FieldType.boolean), 11), (yX11_isAim, cX11_isAim, 3, (some FieldType.boolean), 11), (yX11_come, cX11_come, 3, (some FieldType.int), 11), (yX11_numberOf, cX11_numberOf, 3, (some FieldType.long), 11), (yX11_store, cX11_store, 7, (some FieldType.long), 11), (yX11_actAll, cX11_actAll, 4, (some FieldType.int), 11), (yX11_remember, cX11_remember, 3, none, 11), (yX11_refuseTray, cX11_refuseTray, 6, (some FieldType.int), 11), (yX11_expectSeen, cX11_expectSeen, 5, (some FieldType.int), 11), (yX11_expectTired, cX11_expectTired, 4, (some FieldType.int), 11), (yX11_expectLots, cX11_expectLots, 5, (some FieldType.int), 11), (yX12_within, cX12_within, 6, (some FieldType.boolean), 12), (yX12_init, cX12_init, 1, none, 12), (yX12_plain, cX12_plain, 2, none, 12), (yX12_feed, cX12_feed, 8, (some FieldType.int), 12), (yX12_see, cX12_see, 2, (some FieldType.int), 12), (yX12_isSmall, cX12_isSmall, 1, (some FieldType.boolean), 12), (yX12_isDigit, cX12_isDigit, 1, (some FieldType.boolean), 12), (yX12_keyAt, cX12_keyAt, 4, (some FieldType.int), 12), (yX12_next, cX12_next, 2, none, 12), (yX12_fails, cX12_fails, 2, none, 12), (yX12_is, cX12_is, 2, (some FieldType.boolean), 12), (yX12_eats, cX12_eats, 2, (some FieldType.boolean), 12), (yX12_takes, cX12_takes, 4, (some FieldType.int), 12), (yX12_isIn, cX12_isIn, 3, (some FieldType.boolean), 12), (yX12_wordOf, cX12_wordOf, 2, (some FieldType.int), 12), (yX12_codes, cX12_codes, 2, none, 12), (yX12_goesIn, cX12_goesIn, 2, (some FieldType.boolean), 12), (yX12_readAtom, cX12_readAtom, 2, none, 12), (yX12_readIf, cX12_readIf, 2, none, 12), (yX12_readTerm, cX12_readTerm, 2, none, 12), (yX12_readSum, cX12_readSum, 3, none, 12), (yX12_readUnit, cX12_readUnit, 3, none, 12), (yX12_readBoth, cX12_readBoth, 2, none, 12), (yX12_readTruth, cX12_readTruth, 2, none, 12), (yX12_readHeight, cX12_readHeight, 3, none, 12), (yX12_readWay, cX12_readWay, 3, none, 12), (yX12_readFlag, cX12_readFlag, 2, (some FieldType.boolean), 12), (yX12_readKin, cX12_readKin, 2, none, 12), (yX12_readLaw, cX12_readLaw, 3, none, 12), (yX12_readLine, cX12_readLine, 1, none, 12), (yX12_ends, cX12_ends, 1, none, 12), (yX12_county, cX12_county, 3, (some FieldType.int), 12), (yX12_fault, cX12_fault, 2, (some FieldType.int), 12), (yX12_isKin, cX12_isKin, 3, (some FieldType.boolean), 12), (yX12_isPlace, cX12_isPlace, 3, (some FieldType.boolean), 12), (yX12_placeIn, cX12_placeIn, 2, (some FieldType.int), 12)]
def meths_4 : List MI := [(yX12_strengthIn, cX12_strengthIn, 2, (some FieldType.int), 12), (yX12_bearerIn, cX12_bearerIn, 1, (some FieldType.int), 12), (yX12_withStrength, cX12_withStrength, 3, (some FieldType.int), 12), (yX12_withPlace, cX12_withPlace, 3, (some FieldType.int), 12), (yX12_standNow, cX12_standNow, 3, (some FieldType.int), 12), (yX12_isStand, cX12_isStand, 3, none, 12), (yX12_isDown, cX12_isDown, 2, (some FieldType.boolean), 12), (yX12_sumIn, cX12_sumIn, 4, (some FieldType.int), 12), (yX12_between, cX12_between, 5, (some FieldType.int), 12), (yX12_reckons, cX12_reckons, 10, (some FieldType.int), 12), (yX12_mayGo, cX12_mayGo, 5, (some FieldType.boolean), 12), (yX12_tiredTo, cX12_tiredTo, 8, (some FieldType.int), 12), (yX12_toldMove, cX12_toldMove, 1, (some FieldType.int), 12), (yX12_moveOf, cX12_moveOf, 3, (some FieldType.int), 12), (yX12_isMove, cX12_isMove, 2, (some FieldType.boolean), 12), (yX12_whyBy, cX12_whyBy, 6, (some FieldType.int), 12), (yX12_hourTo, cX12_hourTo, 8, (some FieldType.int), 12), (yX12_place, cX12_place, 5, (some FieldType.int), 12), (yX12_kin, cX12_kin, 3, (some FieldType.int), 12), (yX12_whyHour, cX12_whyHour, 4, (some FieldType.int), 12), (yX12_why, cX12_why, 2, (some FieldType.int), 12), (yX12_by, cX12_by, 3, (some FieldType.int), 12), (yX12_keeps, cX12_keeps, 2, none, 12), (yX12_isAgain, cX12_isAgain, 2, none, 12), (yX12_notes, cX12_notes, 2, none, 12), (yX12_goesHour, cX12_goesHour, 2, none, 12), (yX12_hour, cX12_hour, 3, (some FieldType.int), 12), (yX12_meal, cX12_meal, 2, (some FieldType.int), 12), (yX12_weather, cX12_weather, 2, (some FieldType.int), 12), (yX12_undo, cX12_undo, 3, (some FieldType.int), 12), (yX12_whyNot, cX12_whyNot, 3, (some FieldType.int), 12), (yX12_does, cX12_does, 2, none, 12), (yX12_tells, cX12_tells, 3, (some FieldType.int), 12), (yX12_noTray, cX12_noTray, 2, (some FieldType.int), 12), (yX12_whereNow, cX12_whereNow, 1, (some FieldType.int), 12), (yX12_judge, cX12_judge, 7, (some FieldType.int), 12), (yX12_perform, cX12_perform, 4, (some FieldType.int), 12), (yX12_draw, cX12_draw, 2, (some FieldType.int), 12), (yX12_drawn, cX12_drawn, 3, (some FieldType.int), 12), (yX12_century, cX12_century, 6, (some FieldType.int), 12), (yX12_adds, cX12_adds, 2, (some FieldType.int), 12), (yX12_weaker, cX12_weaker, 3, (some FieldType.int), 12), (yX12_laysStands, cX12_laysStands, 8, none, 12), (yX12_isUp, cX12_isUp, 2, (some FieldType.boolean), 12), (yX12_downNow, cX12_downNow, 1, (some FieldType.boolean), 12), (yX12_farNow, cX12_farNow, 2, (some FieldType.int), 12), (yX12_upBy, cX12_upBy, 8, (some FieldType.int), 12), (yX12_laysUp, cX12_laysUp, 7, (some FieldType.int), 12), (yX12_toldFar, cX12_toldFar, 1, (some FieldType.int), 12), (yX12_up, cX12_up, 1, (some FieldType.int), 12)]
def meths_5 : List MI := [(yX12_keeping, cX12_keeping, 5, (some FieldType.int), 12), (yX12_beginsMany, cX12_beginsMany, 2, none, 12), (yX12_isThen, cX12_isThen, 2, none, 12), (yX12_rows, cX12_rows, 5, (some FieldType.long), 12), (yX12_canKeep, cX12_canKeep, 8, (some FieldType.boolean), 12), (yX12_needed, cX12_needed, 4, (some FieldType.int), 12), (yX12_isGoal, cX12_isGoal, 5, (some FieldType.boolean), 12), (yX12_farBy, cX12_farBy, 4, (some FieldType.int), 12), (yX12_laysFar, cX12_laysFar, 6, (some FieldType.int), 12), (yX12_isAim, cX12_isAim, 3, (some FieldType.boolean), 12), (yX12_deedAt, cX12_deedAt, 5, (some FieldType.int), 12), (yX12_soonest, cX12_soonest, 3, (some FieldType.int), 12), (yX12_way, cX12_way, 4, (some FieldType.int), 12), (yX12_reach, cX12_reach, 3, (some FieldType.int), 12), (yX12_bearers, cX12_bearers, 3, (some FieldType.int), 12), (yX12_stands, cX12_stands, 1, (some FieldType.int), 12), (yX12_noSeen, cX12_noSeen, 4, (some FieldType.int), 12), (yX12_isSeen, cX12_isSeen, 6, (some FieldType.boolean), 12), (yX12_laysSeen, cX12_laysSeen, 9, (some FieldType.long), 12), (yX12_seen, cX12_seen, 3, (some FieldType.long), 12), (yX12_seenBy, cX12_seenBy, 7, (some FieldType.int), 12), (yX12_suspects, cX12_suspects, 9, (some FieldType.int), 12), (yX12_noTired, cX12_noTired, 4, (some FieldType.int), 12), (yX12_weathersOf, cX12_weathersOf, 7, (some FieldType.int), 12), (yX12_weathers, cX12_weathers, 3, (some FieldType.int), 12), (yX12_strengthsIn, cX12_strengthsIn, 4, (some FieldType.int), 12), (yX12_mostAlike, cX12_mostAlike, 8, (some FieldType.int), 12), (yX12_attempt, cX12_attempt, 8, (some FieldType.int), 12), (yX12_lasts, cX12_lasts, 1, (some FieldType.int), 12), (yX12_best, cX12_best, 3, (some FieldType.int), 12), (yX12_noChance, cX12_noChance, 5, (some FieldType.int), 12), (yX12_wholeOf, cX12_wholeOf, 4, (some FieldType.long), 12), (yX12_goesLots, cX12_goesLots, 10, none, 12), (yX12_common, cX12_common, 4, (some FieldType.long), 12), (yX12_part, cX12_part, 5, (some FieldType.int), 12), (yX12_laysLots, cX12_laysLots, 2, none, 12), (yX12_chance, cX12_chance, 4, (some FieldType.int), 12), (yX12_mean, cX12_mean, 4, (some FieldType.int), 12), (yX12_cut, cX12_cut, 3, (some FieldType.long), 12), (yX12_numbers, cX12_numbers, 5, (some FieldType.int), 12), (yX12_write, cX12_write, 6, (some FieldType.long), 12), (yX12_lists, cX12_lists, 8, (some FieldType.int), 12), (yX12_image, cX12_image, 3, (some FieldType.int), 12), (yX12_restore, cX12_restore, 3, (some FieldType.int), 12), (yX12_count, cX12_count, 2, (some FieldType.int), 12), (yJ11_isValidCodePoint_9a6ad, cJ11_isValidCodePoint_9a6ad, 2, (some FieldType.boolean), 14), (yJ11_highSurrogate_5068e, cJ11_highSurrogate_5068e, 1, (some FieldType.char), 14), (yJ11_lowSurrogate_5068e, cJ11_lowSurrogate_5068e, 1, (some FieldType.char), 14), (yJ9_max_7cf53, cJ9_max_7cf53, 2, (some FieldType.int), 15), (yJ9_max_f86c9, cJ9_max_f86c9, 4, (some FieldType.long), 15)]
def meths_6 : List MI := [(yJ9_min_7cf53, cJ9_min_7cf53, 2, (some FieldType.int), 15), (yJ9_min_f86c9, cJ9_min_f86c9, 4, (some FieldType.long), 15), (yJ0_length_8abf5, cJ0_length_8abf5, 1, (some FieldType.int), 13), (yJ0_charAt_5068e, cJ0_charAt_5068e, 2, (some FieldType.char), 13), (yJ0_indexOf_0f7a4, cJ0_indexOf_0f7a4, 2, (some FieldType.int), 13), (yJ0_indexOf_7cf53, cJ0_indexOf_7cf53, 3, (some FieldType.int), 13), (yJ0_coder_7d493, cJ0_coder_7d493, 1, (some FieldType.byte), 13), (yJ0_isLatin1_aae02, cJ0_isLatin1_aae02, 1, (some FieldType.boolean), 13), (yJ0_checkIndex_df160, cJ0_checkIndex_df160, 2, none, 13), (yJ0_checkBoundsBeginEnd_23922, cJ0_checkBoundsBeginEnd_23922, 3, none, 13), (yJ1_charAt_3b067, cJ1_charAt_3b067, 2, (some FieldType.char), 16), (yJ1_canEncode_9a6ad, cJ1_canEncode_9a6ad, 1, (some FieldType.boolean), 16), (yJ1_indexOf_4cfef, cJ1_indexOf_4cfef, 4, (some FieldType.int), 16), (yJ1_indexOfChar_4cfef, cJ1_indexOfChar_4cfef, 6, (some FieldType.int), 16), (yJ2_getChar_3b067, cJ2_getChar_3b067, 2, (some FieldType.char), 17), (yJ2_length_9d52b, cJ2_length_9d52b, 1, (some FieldType.int), 17), (yJ2_indexOf_4cfef, cJ2_indexOf_4cfef, 4, (some FieldType.int), 17), (yJ2_indexOfChar_4cfef, cJ2_indexOfChar_4cfef, 4, (some FieldType.int), 17), (yJ2_indexOfCharUnsafe_4cfef, cJ2_indexOfCharUnsafe_4cfef, 5, (some FieldType.int), 17), (yJ2_indexOfSupplementary_4cfef, cJ2_indexOfSupplementary_4cfef, 7, (some FieldType.int), 17), (yJ2_charAt_3b067, cJ2_charAt_3b067, 2, (some FieldType.char), 17), (yJ2_checkIndex_2214a, cJ2_checkIndex_2214a, 2, none, 17), (yJ2_checkBoundsBeginEnd_d044e, cJ2_checkBoundsBeginEnd_d044e, 3, none, 17), (yJ7_rangeCheck_23922, cJ7_rangeCheck_23922, 3, none, 18), (yJ7_fill_bad5a, cJ7_fill_bad5a, 6, none, 18), (yJ7_fill_53178, cJ7_fill_53178, 4, none, 18), (yJ7_fill_fda19, cJ7_fill_fda19, 5, none, 18), (yJ7_copyOf_59c91, cJ7_copyOf_59c91, 3, (some (FieldType.array FieldType.int)), 18), (yJ3_checkIndex_8e157, cJ3_checkIndex_8e157, 3, (some FieldType.int), 19), (yJ3_checkFromToIndex_8c36e, cJ3_checkFromToIndex_8c36e, 4, (some FieldType.int), 19), (yL_law, cL_law, 4, (some .boolean), 20)]
def meths : List MI := meths_0 ++ meths_1 ++ meths_2 ++ meths_3 ++ meths_4 ++ meths_5 ++ meths_6
def flds : List (List (Nat × Nat × Nat)) := [[(92, 2, 1), (51, 2, 16), (46, 4, 0), (50, 4, 1), (43, 4, 7), (36, 4, 8), (32, 4, 9), (79, 3, 0), (85, 3, 1), (17, 0, 0), (21, 0, 1), (47, 0, 2), (11, 0, 3), (76, 0, 4)], [(75, 2, 0), (72, 2, 1), (36, 2, 16), (22, 4, 0), (29, 4, 1), (54, 4, 7), (51, 4, 8), (48, 4, 9), (18, 1, 0), (25, 1, 1), (30, 1, 2), (9, 1, 3), (15, 1, 4), (33, 1, 5), (41, 1, 6)], [(48, 7, 1), (51, 7, 2), (9, 7, 3), (18, 7, 4), (30, 7, 5), (40, 7, 6), (83, 7, 7), (44, 7, 8), (86, 7, 9), (104, 7, 10), (26, 7, 11), (22, 7, 12), (61, 7, 13), (65, 7, 14), (69, 7, 15), (73, 7, 16), (15, 2, 0), (21, 2, 1), (25, 2, 2), (29, 2, 3), (39, 2, 4), (43, 2, 5), (47, 2, 6), (60, 2, 7), (64, 2, 8), (68, 2, 9), (72, 2, 10), (76, 2, 11), (77, 2, 12), (89, 2, 13), (92, 2, 14), (80, 2, 15), (101, 2, 16), (107, 2, 17)], [(7, 3, 0), (13, 3, 1), (16, 3, 2)], [(54, 2, 0), (49, 2, 1), (138, 2, 4), (76, 2, 5), (144, 2, 6), (147, 2, 7), (114, 2, 8), (121, 2, 9), (135, 2, 10), (141, 2, 11), (93, 2, 14), (111, 2, 15), (36, 4, 0), (40, 4, 1), (9, 4, 2), (15, 4, 3), (19, 4, 4), (24, 4, 5), (27, 4, 6), (30, 4, 7), (33, 4, 8), (87, 4, 9)], [(34, 2, 16), (33, 4, 0), (49, 4, 1), (77, 4, 7), (84, 4, 8), (74, 4, 9), (89, 3, 0), (68, 3, 2), (25, 5, 0), (29, 5, 1), (46, 5, 2), (11, 5, 3), (96, 5, 4), (19, 5, 5), (22, 5, 6)], [(39, 2, 1), (24, 2, 3), (15, 2, 17), (9, 6, 0), (21, 6, 1), (27, 6, 2), (28, 6, 3)], [(63, 9, 5), (117, 9, 6), (69, 9, 7), (42, 7, 0), (11, 7, 1), (72, 7, 2), (17, 7, 3), (75, 7, 4), (21, 7, 5), (24, 7, 6), (27, 7, 7), (30, 7, 8), (33, 7, 9), (84, 7, 10), (87, 7, 11), (60, 7, 12), (36, 7, 13), (108, 7, 14), (39, 7, 15), (114, 7, 16), (102, 7, 17)], [(79, 2, 16), (75, 4, 0), (113, 4, 7), (94, 4, 8), (91, 4, 9), (66, 3, 0), (101, 3, 1), (124, 3, 2), (32, 8, 0), (9, 8, 1), (15, 8, 2), (18, 8, 3), (42, 8, 4), (26, 8, 5), (29, 8, 6)], [(11, 9, 0), (19, 9, 1), (32, 9, 2), (44, 9, 3), (35, 9, 4), (47, 9, 5), (68, 9, 6), (38, 9, 7), (15, 9, 8)], [(95, 2, 1), (36, 4, 0), (9, 10, 0), (24, 10, 1), (76, 10, 2), (80, 10, 3), (73, 10, 4), (15, 10, 5), (28, 10, 6)], [(127, 9, 1), (137, 9, 8), (345, 2, 0), (256, 2, 1), (148, 2, 2), (154, 2, 4), (157, 2, 5), (173, 2, 6), (316, 10, 2), (324, 10, 3), (144, 6, 0), (160, 6, 1), (182, 6, 2), (208, 6, 3), (10, 11, 0), (21, 11, 1), (35, 11, 2), (45, 11, 3), (54, 11, 4), (63, 11, 5), (70, 11, 6), (77, 11, 7), (84, 11, 8), (88, 11, 9), (91, 11, 10), (95, 11, 11), (141, 11, 12), (99, 11, 13), (103, 11, 14), (112, 11, 15), (134, 11, 16), (115, 11, 17)], [(1, 12, 0), (13, 12, 1), (17, 12, 2), (21, 12, 3), (24, 12, 4), (84, 12, 5), (102, 12, 6), (105, 12, 7), (87, 12, 8), (112, 12, 9), (125, 12, 10), (130, 12, 11), (133, 12, 12), (211, 12, 13), (27, 12, 14), (150, 12, 15), (30, 12, 16), (33, 12, 17), (36, 12, 18), (309, 12, 19), (333, 12, 20), (39, 12, 21), (43, 12, 22), (46, 12, 23), (50, 12, 24), (344, 12, 25), (54, 12, 26), (57, 12, 27), (61, 12, 28), (65, 12, 29), (68, 12, 30), (454, 12, 31), (447, 12, 32), (71, 12, 33), (74, 12, 34), (77, 12, 35)], [(9, 13, 0), (15, 13, 1)], [], [], [], [], [], [], []]
def mths : List (List (Nat × Nat × Nat × Nat)) := [[(5, 3, 0, 0), (56, 0, 32, 1), (61, 2, 326, 4), (67, 0, 5, 2), (82, 0, 4, 1), (26, 0, 40, 1), (88, 0, 24, 1), (95, 0, 30, 2), (72, 0, 7, 2), (39, 0, 6, 2), (99, 0, 8, 3)], [(3, 3, 0, 0), (57, 0, 25, 1), (61, 0, 26, 1), (65, 0, 19, 1), (68, 0, 11, 2), (44, 0, 40, 1), (78, 0, 15, 1)], [(3, 3, 0, 0), (34, 4, 0, 0), (54, 2, 327, 2), (95, 2, 298, 2), (120, 0, 21, 2), (114, 0, 20, 1), (110, 0, 19, 1), (117, 0, 22, 2)], [(1, 3, 0, 0), (19, 2, 300, 2), (25, 2, 326, 4)], [(3, 3, 0, 0), (57, 0, 37, 1), (61, 0, 25, 1), (65, 0, 19, 1), (69, 0, 21, 2), (73, 0, 22, 2), (79, 0, 44, 5), (117, 0, 45, 5), (124, 0, 46, 2), (150, 0, 47, 3), (158, 2, 301, 2), (161, 2, 299, 2), (83, 0, 40, 1), (90, 0, 20, 1), (96, 0, 43, 5), (127, 2, 300, 2), (132, 2, 298, 2), (100, 0, 18, 3), (104, 0, 41, 2), (108, 0, 42, 3)], [(5, 3, 0, 0), (56, 0, 49, 1), (40, 0, 32, 1), (50, 2, 326, 4), (60, 0, 53, 4), (92, 0, 54, 4), (71, 0, 40, 1), (85, 0, 25, 1), (99, 0, 55, 2), (103, 2, 298, 2), (78, 5, 0, 0), (65, 0, 34, 1)], [(3, 3, 0, 0), (42, 0, 29, 2), (48, 0, 36, 2), (54, 0, 38, 2), (58, 0, 39, 2), (31, 0, 25, 1)], [(3, 3, 0, 0), (46, 0, 63, 0), (78, 2, 325, 2), (49, 0, 92, 1), (53, 0, 94, 1), (56, 0, 67, 3), (99, 0, 93, 1), (90, 0, 95, 0), (66, 0, 64, 0), (93, 0, 65, 0), (96, 0, 66, 1), (105, 0, 73, 1), (133, 0, 74, 1), (136, 0, 75, 1), (123, 0, 68, 1), (129, 0, 69, 1), (111, 0, 70, 1), (120, 0, 71, 1), (126, 0, 72, 1), (139, 0, 76, 1)], [(3, 3, 0, 0), (36, 2, 300, 2), (46, 2, 325, 2), (62, 0, 83, 3), (82, 0, 32, 1), (52, 0, 25, 1), (85, 0, 84, 3), (88, 0, 40, 1), (97, 0, 80, 3), (58, 0, 26, 1), (104, 0, 33, 0), (71, 0, 82, 1), (107, 0, 34, 1), (110, 0, 86, 3), (114, 5, 0, 0), (120, 0, 87, 3), (127, 0, 19, 1)], [(3, 3, 0, 0), (22, 0, 90, 1), (26, 2, 300, 2), (41, 0, 95, 0), (54, 0, 97, 0), (73, 0, 302, 0), (76, 0, 303, 1), (57, 0, 96, 0), (50, 0, 93, 1), (62, 0, 304, 1)], [(3, 3, 0, 0), (32, 0, 102, 1), (18, 2, 300, 2), (42, 0, 36, 2), (46, 0, 105, 2), (50, 0, 39, 2), (54, 0, 24, 1), (59, 0, 37, 1), (63, 0, 107, 4), (67, 0, 23, 1), (70, 2, 298, 2), (83, 0, 109, 4), (87, 0, 25, 1), (91, 0, 110, 3), (101, 0, 28, 1), (98, 0, 30, 2)], [(1, 3, 0, 0), (9, 1, 89, 0), (18, 1, 61, 1), (27, 1, 17, 1), (32, 1, 35, 1), (41, 1, 31, 0), (44, 1, 9, 1), (51, 1, 48, 2), (60, 1, 77, 1), (69, 1, 0, 2), (76, 1, 98, 0), (83, 1, 56, 1), (106, 2, 325, 2), (119, 0, 90, 1), (123, 0, 91, 1), (130, 0, 62, 1), (138, 0, 57, 1), (151, 0, 151, 1), (163, 0, 27, 2), (167, 0, 152, 1), (170, 0, 21, 2), (176, 0, 22, 2), (179, 0, 19, 1), (185, 0, 36, 2), (189, 0, 38, 2), (193, 0, 39, 2), (196, 0, 159, 1), (354, 5, 0, 0), (200, 0, 60, 2), (204, 0, 59, 0), (210, 0, 153, 1), (213, 0, 58, 1), (216, 0, 158, 2), (220, 0, 156, 2), (224, 0, 26, 1), (227, 0, 24, 1), (230, 0, 101, 1), (233, 0, 103, 0), (237, 0, 50, 2), (241, 0, 52, 3), (249, 0, 78, 1), (252, 0, 81, 2), (259, 0, 51, 3), (262, 0, 154, 2), (266, 0, 155, 2), (274, 0, 10, 2), (351, 0, 12, 3), (269, 0, 15, 1), (272, 0, 16, 2), (278, 0, 13, 2), (282, 0, 14, 1), (286, 0, 161, 2), (360, 0, 160, 4), (364, 0, 79, 2), (289, 0, 85, 3), (290, 0, 88, 3), (293, 0, 162, 1), (368, 0, 99, 1), (371, 0, 100, 2), (296, 0, 104, 2), (299, 0, 106, 3), (302, 0, 3, 2), (305, 0, 1, 1), (307, 0, 2, 2), (310, 0, 163, 2), (372, 0, 37, 1), (313, 0, 108, 2), (320, 0, 111, 2), (327, 2, 324, 4), (336, 0, 157, 3), (340, 2, 300, 2), (348, 0, 28, 1)], [(7, 3, 0, 0), (80, 2, 166, 1), (146, 2, 164, 3), (139, 0, 172, 0), (108, 0, 168, 1), (115, 2, 169, 1), (119, 0, 171, 0), (92, 0, 302, 0), (98, 0, 303, 1), (122, 2, 170, 1), (165, 0, 175, 1), (136, 0, 174, 1), (142, 0, 173, 1), (186, 0, 176, 2), (205, 0, 194, 0), (208, 0, 193, 0), (193, 0, 188, 0), (196, 0, 189, 0), (199, 0, 191, 0), (190, 0, 190, 1), (202, 0, 192, 1), (162, 0, 184, 1), (177, 0, 183, 1), (174, 0, 181, 1), (153, 0, 179, 1), (156, 0, 178, 1), (159, 0, 180, 1), (168, 0, 182, 1), (171, 0, 187, 1), (183, 0, 186, 1), (180, 0, 185, 1), (247, 0, 198, 1), (239, 0, 197, 1), (281, 0, 219, 1), (271, 0, 213, 1), (275, 0, 204, 0), (278, 0, 215, 3), (250, 0, 206, 1), (220, 2, 201, 1), (217, 2, 200, 2), (214, 2, 199, 2), (253, 2, 177, 2), (257, 0, 210, 4), (231, 0, 209, 6), (227, 2, 208, 3), (284, 0, 216, 3), (261, 2, 203, 3), (264, 0, 211, 4), (268, 2, 202, 3), (290, 0, 222, 0), (293, 0, 225, 1), (287, 0, 205, 1), (296, 0, 224, 0), (320, 0, 233, 1), (323, 0, 232, 1), (312, 0, 230, 1), (315, 0, 231, 1), (326, 0, 234, 0), (329, 0, 223, 0), (341, 0, 238, 0), (336, 0, 237, 1), (370, 0, 244, 0), (374, 0, 247, 1), (362, 0, 242, 2), (347, 0, 240, 1), (350, 0, 214, 1), (353, 0, 241, 2), (366, 0, 246, 3), (356, 0, 243, 1), (359, 0, 245, 1), (378, 2, 248, 1), (383, 2, 212, 1), (392, 0, 251, 0), (395, 0, 252, 0), (398, 0, 254, 2), (409, 0, 259, 2), (412, 0, 258, 2), (402, 0, 256, 3), (406, 0, 257, 2), (415, 0, 260, 1), (423, 0, 266, 1), (426, 0, 268, 1), (420, 0, 267, 3), (430, 0, 272, 1), (433, 0, 273, 1), (439, 0, 276, 2), (436, 0, 275, 1), (465, 0, 280, 2), (468, 0, 285, 1), (457, 0, 282, 4), (444, 2, 281, 1), (451, 0, 207, 1), (471, 2, 284, 3), (461, 2, 283, 2), (477, 2, 288, 2)], [(335, 0, 306, 0), (492, 0, 307, 0), (495, 2, 310, 2), (1059, 2, 328, 3), (498, 2, 320, 2), (633, 0, 305, 2), (505, 0, 302, 0), (637, 2, 312, 4), (640, 2, 316, 4), (1062, 2, 329, 4)], [], [], [(9, 2, 308, 2), (88, 2, 311, 1), (92, 2, 298, 2), (38, 2, 300, 2), (95, 2, 313, 4)], [(67, 2, 321, 2), (48, 2, 315, 1), (414, 2, 308, 2), (71, 2, 314, 2), (224, 2, 298, 2), (183, 2, 300, 2), (228, 2, 317, 4), (96, 2, 322, 3), (241, 2, 309, 3), (244, 2, 318, 4), (232, 2, 319, 4), (164, 2, 295, 1), (157, 2, 296, 1), (161, 2, 297, 1)], [(316, 4, 0, 0), (304, 2, 300, 2), (150, 5, 0, 0), (13, 2, 323, 3)], [], [(9, 1, 112, 0), (13, 0, 113, 5), (18, 0, 114, 1), (23, 0, 115, 1), (27, 0, 116, 2), (32, 0, 117, 2), (36, 0, 118, 1), (40, 0, 119, 2), (44, 0, 120, 1), (48, 0, 121, 1), (52, 0, 122, 1), (56, 0, 123, 1), (60, 0, 124, 2), (64, 0, 125, 1), (68, 0, 126, 2), (72, 0, 127, 0), (77, 0, 128, 1), (81, 0, 129, 1), (86, 0, 130, 1), (90, 0, 131, 2), (94, 0, 132, 3), (99, 0, 133, 0), (103, 0, 134, 0), (107, 0, 135, 0), (111, 0, 136, 1), (115, 0, 137, 2), (119, 0, 138, 2), (123, 0, 139, 1), (127, 0, 140, 1), (131, 0, 141, 0), (135, 0, 142, 0), (139, 0, 143, 2), (143, 0, 144, 2), (147, 0, 145, 3), (153, 0, 146, 3), (158, 0, 147, 3), (162, 0, 148, 1), (166, 0, 149, 1), (170, 0, 150, 1), (12, 1, 165, 0), (17, 0, 167, 5), (22, 0, 195, 1), (26, 0, 196, 1), (31, 0, 217, 2), (35, 0, 218, 2), (39, 0, 220, 1), (43, 0, 221, 2), (47, 0, 226, 1), (51, 0, 227, 1), (55, 0, 228, 1), (59, 0, 229, 1), (63, 0, 235, 2), (67, 0, 236, 1), (71, 0, 239, 2), (76, 0, 249, 0), (80, 0, 250, 1), (85, 0, 253, 1), (89, 0, 255, 1), (93, 0, 261, 2), (98, 0, 262, 3), (102, 0, 263, 0), (106, 0, 264, 0), (110, 0, 265, 0), (114, 0, 269, 1), (118, 0, 270, 2), (122, 0, 271, 2), (126, 0, 274, 1), (130, 0, 277, 1), (134, 0, 278, 0), (138, 0, 279, 0), (142, 0, 286, 2), (146, 0, 287, 2), (150, 0, 289, 3), (157, 0, 290, 3), (161, 0, 291, 3), (165, 0, 292, 1), (169, 0, 293, 1), (173, 0, 294, 1)]]
def clss : List (List (Nat × Nat)) := [[], [], [(35, 101)], [], [], [], [], [], [(24, 100)], [], [], [(7, 9), (16, 7), (25, 2), (30, 4), (39, 3), (42, 1), (49, 5), (58, 8), (67, 0), (74, 10), (81, 6)], [], [], [], [], [], [], [(317, 101)], [], [(7, 11), (10, 12)]]
def kst2s : List (List (Nat × Int)) := [[], [], [], [], [(43, 100), (45, 199), (47, 10), (154, -1000000), (156, 1000000)], [], [(35, 20), (37, 30), (46, 40)], [], [], [], [], [(245, -3), (247, -5), (330, -2), (332, -6), (334, -7)], [(235, 10), (237, 19), (243, 100), (245, 199), (223, 1000000), (225, -1000000), (299, 9), (318, 3), (301, 20), (303, 29), (305, 30), (307, 39), (339, 40), (381, 99), (386, 8), (388, -3), (390, -5), (418, -1), (442, 6), (475, -7)], [], [], [], [], [], [], [], [(151, 4294967295)]]
def ftys : List (List Nat) := [[2, 2, 0, 2, 0], [2, 0, 0, 2, 2, 0, 0], [0, 0, 0, 0, 2, 2, 2, 2, 0, 0, 0, 0, 0, 0, 2, 2, 0, 0], [2, 2, 2], [2, 0, 0, 2, 2, 2, 2, 2, 2, 0], [2, 2, 0, 2, 0, 2, 2], [2, 0, 0, 0], [2, 2, 0, 0, 0, 2, 2, 2, 2, 2, 0, 0, 0, 0, 0, 0, 0, 0], [2, 2, 2, 2, 0, 2, 2], [2, 0, 0, 0, 0, 0, 0, 0, 0], [2, 0, 1, 1, 0, 2, 0], [2, 2, 2, 2, 2, 2, 2, 2, 2, 2, 2, 2, 0, 2, 2, 2, 0, 0], [0, 2, 2, 2, 2, 0, 0, 0, 0, 0, 0, 0, 0, 0, 0, 0, 2, 2, 2, 0, 0, 2, 2, 2, 2, 0, 0, 2, 2, 2, 2, 1, 1, 2, 2, 2]]
def ffins : List (List Bool) := [[true, false, false, false, false], [false, false, false, false, false, false, false], [true, true, true, true, true, true, true, true, true, true, true, true, true, true, true, true, true, true], [false, false, false], [false, false, false, true, true, true, true, true, true, false], [true, false, false, false, false, true, true], [false, false, false, false], [true, true, false, false, false, true, true, true, true, true, false, false, false, false, false, false, false, false], [true, false, false, true, false, true, true], [true, false, false, false, false, false, false, false, false], [true, false, false, false, false, true, false], [true, true, true, true, true, true, true, true, true, true, true, true, false, true, true, true, false, false], [false, true, true, true, true, false, false, false, false, false, false, false, false, false, false, false, true, true, true, false, false, true, true, true, true, false, false, true, true, true, true, false, false, true, true, true]]
def ksts : List (List (Nat × Nat × Int)) := [[(25, 0, (2147483647)), (71, 0, (1000000))], [], [], [], [], [(64, 0, (2147483647))], [], [], [], [(71, 1, 1), (60, 1, 2)], [(31, 0, (1103515245))], [], [(42, 0, (456000)), (49, 0, (98304)), (53, 0, (268435456)), (64, 0, (216000)), (90, 1, 3), (128, 1, 4), (332, 0, (1103515245))], [], [(110, 0, (55232)), (76, 0, (56320))], [], [], [(227, 0, (65536))], [], [], []]
def stas : List (List (Nat × Nat × Int)) := [[], [], [], [], [], [], [], [], [], [], [], [], [], [(38, 0, 1), (1053, 1, 9)], [], [], [], [], [], [], []]
def fld (o k : Nat) : Option (Nat × Nat) := (flds.getD o []).lookup k
def mth (o k : Nat) : Option (Nat × Nat × Nat) := (mths.getD o []).lookup k
def cls (o k : Nat) : Option Nat := (clss.getD o []).lookup k
def kst2 (o k : Nat) : Option Int := (kst2s.getD o []).lookup k
def fty (ci k : Nat) : Nat := (ftys.getD ci []).getD k 9
def ffin (ci k : Nat) : Bool := (ffins.getD ci []).getD k true
def kstr (o k : Nat) : Option (Nat × Int) := (ksts.getD o []).lookup k
def star (o k : Nat) : Option (Nat × Int) := (stas.getD o []).lookup k
set_option maxRecDepth 100000 in
theorem m_0 : meths[0]? = some (yX0_init, cX0_init, 3, none, 0) := rfl
set_option maxRecDepth 100000 in
theorem m_1 : meths[1]? = some (yX0_longest, cX0_longest, 2, (some FieldType.int), 0) := rfl
set_option maxRecDepth 100000 in
theorem m_2 : meths[2]? = some (yX0_firstDeed, cX0_firstDeed, 5, (some FieldType.int), 0) := rfl
set_option maxRecDepth 100000 in
theorem m_3 : meths[3]? = some (yX0_solve, cX0_solve, 6, none, 0) := rfl
set_option maxRecDepth 100000 in
theorem m_4 : meths[4]? = some (yX0_meet, cX0_meet, 2, none, 0) := rfl
set_option maxRecDepth 100000 in
theorem m_5 : meths[5]? = some (yX0_meetAll, cX0_meetAll, 8, none, 0) := rfl
set_option maxRecDepth 100000 in
theorem m_6 : meths[6]? = some (yX0_holds, cX0_holds, 4, (some FieldType.boolean), 0) := rfl
set_option maxRecDepth 100000 in
theorem m_7 : meths[7]? = some (yX0_sweep, cX0_sweep, 7, (some FieldType.boolean), 0) := rfl
set_option maxRecDepth 100000 in
theorem m_8 : meths[8]? = some (yX0_newWitness, cX0_newWitness, 5, (some FieldType.int), 0) := rfl
set_option maxRecDepth 100000 in
theorem m_9 : meths[9]? = some (yX1_init, cX1_init, 2, none, 1) := rfl
set_option maxRecDepth 100000 in
theorem m_10 : meths[10]? = some (yX1_start, cX1_start, 4, none, 1) := rfl
set_option maxRecDepth 100000 in
theorem m_11 : meths[11]? = some (yX1_searchOn, cX1_searchOn, 6, none, 1) := rfl
set_option maxRecDepth 100000 in
theorem m_12 : meths[12]? = some (yX1_find, cX1_find, 6, (some FieldType.int), 1) := rfl
set_option maxRecDepth 100000 in
theorem m_13 : meths[13]? = some (yX1_bits, cX1_bits, 7, (some FieldType.int), 1) := rfl
set_option maxRecDepth 100000 in
theorem m_14 : meths[14]? = some (yX1_all, cX1_all, 3, (some FieldType.int), 1) := rfl
set_option maxRecDepth 100000 in
theorem m_15 : meths[15]? = some (yX1_length, cX1_length, 4, (some FieldType.int), 1) := rfl
set_option maxRecDepth 100000 in
theorem m_16 : meths[16]? = some (yX1_deedAt, cX1_deedAt, 5, (some FieldType.int), 1) := rfl
set_option maxRecDepth 100000 in
theorem m_17 : meths[17]? = some (yX2_init, cX2_init, 7, none, 2) := rfl
set_option maxRecDepth 100000 in
theorem m_18 : meths[18]? = some (yX2_stand, cX2_stand, 4, (some FieldType.int), 2) := rfl
set_option maxRecDepth 100000 in
theorem m_19 : meths[19]? = some (yX2_bearerOf, cX2_bearerOf, 3, (some FieldType.int), 2) := rfl
set_option maxRecDepth 100000 in
theorem m_20 : meths[20]? = some (yX2_placingOf, cX2_placingOf, 2, (some FieldType.int), 2) := rfl
set_option maxRecDepth 100000 in
theorem m_21 : meths[21]? = some (yX2_placeOf, cX2_placeOf, 3, (some FieldType.int), 2) := rfl
set_option maxRecDepth 100000 in
theorem m_22 : meths[22]? = some (yX2_strengthOf, cX2_strengthOf, 3, (some FieldType.int), 2) := rfl
set_option maxRecDepth 100000 in
theorem m_23 : meths[23]? = some (yX2_strengthsOf, cX2_strengthsOf, 2, (some FieldType.int), 2) := rfl
set_option maxRecDepth 100000 in
theorem m_24 : meths[24]? = some (yX2_bearing, cX2_bearing, 2, (some FieldType.int), 2) := rfl
set_option maxRecDepth 100000 in
theorem m_25 : meths[25]? = some (yX2_isDown, cX2_isDown, 2, (some FieldType.boolean), 2) := rfl
set_option maxRecDepth 100000 in
theorem m_26 : meths[26]? = some (yX2_where, cX2_where, 3, (some FieldType.int), 2) := rfl
set_option maxRecDepth 100000 in
theorem m_27 : meths[27]? = some (yX2_kinAt, cX2_kinAt, 5, (some FieldType.int), 2) := rfl
set_option maxRecDepth 100000 in
theorem m_28 : meths[28]? = some (yX2_together, cX2_together, 4, (some FieldType.int), 2) := rfl
set_option maxRecDepth 100000 in
theorem m_29 : meths[29]? = some (yX2_fed, cX2_fed, 3, (some FieldType.int), 2) := rfl
set_option maxRecDepth 100000 in
theorem m_30 : meths[30]? = some (yX2_weakened, cX2_weakened, 3, (some FieldType.int), 2) := rfl
set_option maxRecDepth 100000 in
theorem m_31 : meths[31]? = some (yX3_init, cX3_init, 1, none, 3) := rfl
set_option maxRecDepth 100000 in
theorem m_32 : meths[32]? = some (yX3_fit, cX3_fit, 2, none, 3) := rfl
set_option maxRecDepth 100000 in
theorem m_33 : meths[33]? = some (yX3_turn, cX3_turn, 2, none, 3) := rfl
set_option maxRecDepth 100000 in
theorem m_34 : meths[34]? = some (yX3_clearMarks, cX3_clearMarks, 2, none, 3) := rfl
set_option maxRecDepth 100000 in
theorem m_35 : meths[35]? = some (yX4_init, cX4_init, 2, none, 4) := rfl
set_option maxRecDepth 100000 in
theorem m_36 : meths[36]? = some (yX4_use, cX4_use, 3, none, 4) := rfl
set_option maxRecDepth 100000 in
theorem m_37 : meths[37]? = some (yX4_tells, cX4_tells, 3, (some FieldType.boolean), 4) := rfl
set_option maxRecDepth 100000 in
theorem m_38 : meths[38]? = some (yX4_whyNot, cX4_whyNot, 8, (some FieldType.int), 4) := rfl
set_option maxRecDepth 100000 in
theorem m_39 : meths[39]? = some (yX4_after, cX4_after, 5, (some FieldType.int), 4) := rfl
set_option maxRecDepth 100000 in
theorem m_40 : meths[40]? = some (yX4_spread, cX4_spread, 13, none, 4) := rfl
set_option maxRecDepth 100000 in
theorem m_41 : meths[41]? = some (yX4_add, cX4_add, 3, none, 4) := rfl
set_option maxRecDepth 100000 in
theorem m_42 : meths[42]? = some (yX4_with, cX4_with, 4, (some FieldType.int), 4) := rfl
set_option maxRecDepth 100000 in
theorem m_43 : meths[43]? = some (yX4_tire, cX4_tire, 9, (some FieldType.int), 4) := rfl
set_option maxRecDepth 100000 in
theorem m_44 : meths[44]? = some (yX4_mayGo, cX4_mayGo, 9, (some FieldType.boolean), 4) := rfl
set_option maxRecDepth 100000 in
theorem m_45 : meths[45]? = some (yX4_setFacts, cX4_setFacts, 6, none, 4) := rfl
set_option maxRecDepth 100000 in
theorem m_46 : meths[46]? = some (yX4_tell, cX4_tell, 6, (some FieldType.int), 4) := rfl
set_option maxRecDepth 100000 in
theorem m_47 : meths[47]? = some (yX4_join, cX4_join, 8, (some FieldType.int), 4) := rfl
set_option maxRecDepth 100000 in
theorem m_48 : meths[48]? = some (yX5_init, cX5_init, 3, none, 5) := rfl
set_option maxRecDepth 100000 in
theorem m_49 : meths[49]? = some (yX5_prepare, cX5_prepare, 2, none, 5) := rfl
set_option maxRecDepth 100000 in
theorem m_50 : meths[50]? = some (yX5_longest, cX5_longest, 3, (some FieldType.int), 5) := rfl
set_option maxRecDepth 100000 in
theorem m_51 : meths[51]? = some (yX5_longestWithout, cX5_longestWithout, 4, (some FieldType.int), 5) := rfl
set_option maxRecDepth 100000 in
theorem m_52 : meths[52]? = some (yX5_deedAt, cX5_deedAt, 11, (some FieldType.int), 5) := rfl
set_option maxRecDepth 100000 in
theorem m_53 : meths[53]? = some (yX5_solve, cX5_solve, 12, none, 5) := rfl
set_option maxRecDepth 100000 in
theorem m_54 : meths[54]? = some (yX5_look, cX5_look, 9, (some FieldType.int), 5) := rfl
set_option maxRecDepth 100000 in
theorem m_55 : meths[55]? = some (yX5_needs, cX5_needs, 3, (some FieldType.boolean), 5) := rfl
set_option maxRecDepth 100000 in
theorem m_56 : meths[56]? = some (yX6_init, cX6_init, 2, none, 6) := rfl
set_option maxRecDepth 100000 in
theorem m_57 : meths[57]? = some (yX6_begin, cX6_begin, 2, none, 6) := rfl
set_option maxRecDepth 100000 in
theorem m_58 : meths[58]? = some (yX6_take, cX6_take, 2, none, 6) := rfl
set_option maxRecDepth 100000 in
theorem m_59 : meths[59]? = some (yX6_isDown, cX6_isDown, 1, (some FieldType.boolean), 6) := rfl
set_option maxRecDepth 100000 in
theorem m_60 : meths[60]? = some (yX6_act, cX6_act, 5, (some FieldType.int), 6) := rfl
set_option maxRecDepth 100000 in
theorem m_61 : meths[61]? = some (yX7_init, cX7_init, 2, none, 7) := rfl
set_option maxRecDepth 100000 in
theorem m_62 : meths[62]? = some (yX7_read, cX7_read, 3, (some FieldType.int), 7) := rfl
set_option maxRecDepth 100000 in
theorem m_63 : meths[63]? = some (yX7_clear, cX7_clear, 1, none, 7) := rfl
set_option maxRecDepth 100000 in
theorem m_64 : meths[64]? = some (yX7_line, cX7_line, 5, none, 7) := rfl
set_option maxRecDepth 100000 in
theorem m_65 : meths[65]? = some (yX7_kinLine, cX7_kinLine, 2, none, 7) := rfl
set_option maxRecDepth 100000 in
theorem m_66 : meths[66]? = some (yX7_law, cX7_law, 3, none, 7) := rfl
set_option maxRecDepth 100000 in
theorem m_67 : meths[67]? = some (yX7_number, cX7_number, 5, (some FieldType.int), 7) := rfl
set_option maxRecDepth 100000 in
theorem m_68 : meths[68]? = some (yX7_emit, cX7_emit, 2, none, 7) := rfl
set_option maxRecDepth 100000 in
theorem m_69 : meths[69]? = some (yX7_goesDeeper, cX7_goesDeeper, 2, (some FieldType.boolean), 7) := rfl
set_option maxRecDepth 100000 in
theorem m_70 : meths[70]? = some (yX7_truth, cX7_truth, 3, none, 7) := rfl
set_option maxRecDepth 100000 in
theorem m_71 : meths[71]? = some (yX7_both, cX7_both, 3, none, 7) := rfl
set_option maxRecDepth 100000 in
theorem m_72 : meths[72]? = some (yX7_unit, cX7_unit, 3, none, 7) := rfl
set_option maxRecDepth 100000 in
theorem m_73 : meths[73]? = some (yX7_sum, cX7_sum, 4, none, 7) := rfl
set_option maxRecDepth 100000 in
theorem m_74 : meths[74]? = some (yX7_term, cX7_term, 3, none, 7) := rfl
set_option maxRecDepth 100000 in
theorem m_75 : meths[75]? = some (yX7_atom, cX7_atom, 3, none, 7) := rfl
set_option maxRecDepth 100000 in
theorem m_76 : meths[76]? = some (yX7_factOf, cX7_factOf, 2, (some FieldType.int), 7) := rfl
set_option maxRecDepth 100000 in
theorem m_77 : meths[77]? = some (yX8_init, cX8_init, 2, none, 8) := rfl
set_option maxRecDepth 100000 in
theorem m_78 : meths[78]? = some (yX8_expectAny, cX8_expectAny, 2, none, 8) := rfl
set_option maxRecDepth 100000 in
theorem m_79 : meths[79]? = some (yX8_expect, cX8_expect, 3, none, 8) := rfl
set_option maxRecDepth 100000 in
theorem m_80 : meths[80]? = some (yX8_fits, cX8_fits, 4, (some FieldType.boolean), 8) := rfl
set_option maxRecDepth 100000 in
theorem m_81 : meths[81]? = some (yX8_total, cX8_total, 7, (some FieldType.long), 8) := rfl
set_option maxRecDepth 100000 in
theorem m_82 : meths[82]? = some (yX8_forget, cX8_forget, 3, none, 8) := rfl
set_option maxRecDepth 100000 in
theorem m_83 : meths[83]? = some (yX8_goOn, cX8_goOn, 7, (some FieldType.int), 8) := rfl
set_option maxRecDepth 100000 in
theorem m_84 : meths[84]? = some (yX8_goOneHour, cX8_goOneHour, 11, (some FieldType.int), 8) := rfl
set_option maxRecDepth 100000 in
theorem m_85 : meths[85]? = some (yX8_deedAt, cX8_deedAt, 8, (some FieldType.int), 8) := rfl
set_option maxRecDepth 100000 in
theorem m_86 : meths[86]? = some (yX8_firstStep, cX8_firstStep, 7, (some FieldType.int), 8) := rfl
set_option maxRecDepth 100000 in
theorem m_87 : meths[87]? = some (yX8_canGoOn, cX8_canGoOn, 9, (some FieldType.boolean), 8) := rfl
set_option maxRecDepth 100000 in
theorem m_88 : meths[88]? = some (yX8_bearersAt, cX8_bearersAt, 9, (some FieldType.int), 8) := rfl
set_option maxRecDepth 100000 in
theorem m_89 : meths[89]? = some (yX9_init, cX9_init, 1, none, 9) := rfl
set_option maxRecDepth 100000 in
theorem m_90 : meths[90]? = some (yX9_hasRoom, cX9_hasRoom, 2, (some FieldType.boolean), 9) := rfl
set_option maxRecDepth 100000 in
theorem m_91 : meths[91]? = some (yX9_put, cX9_put, 3, none, 9) := rfl
set_option maxRecDepth 100000 in
theorem m_92 : meths[92]? = some (yX9_open, cX9_open, 2, none, 9) := rfl
set_option maxRecDepth 100000 in
theorem m_93 : meths[93]? = some (yX9_refuse, cX9_refuse, 2, none, 9) := rfl
set_option maxRecDepth 100000 in
theorem m_94 : meths[94]? = some (yX9_expect, cX9_expect, 2, none, 9) := rfl
set_option maxRecDepth 100000 in
theorem m_95 : meths[95]? = some (yX9_step, cX9_step, 1, none, 9) := rfl
set_option maxRecDepth 100000 in
theorem m_96 : meths[96]? = some (yX9_takeNumber, cX9_takeNumber, 1, none, 9) := rfl
set_option maxRecDepth 100000 in
theorem m_97 : meths[97]? = some (yX9_takeWord, cX9_takeWord, 5, none, 9) := rfl
set_option maxRecDepth 100000 in
theorem m_98 : meths[98]? = some (yX10_init, cX10_init, 1, none, 10) := rfl
set_option maxRecDepth 100000 in
theorem m_99 : meths[99]? = some (yX10_expectMany, cX10_expectMany, 2, none, 10) := rfl
set_option maxRecDepth 100000 in
theorem m_100 : meths[100]? = some (yX10_expect, cX10_expect, 3, none, 10) := rfl
set_option maxRecDepth 100000 in
theorem m_101 : meths[101]? = some (yX10_sow, cX10_sow, 2, none, 10) := rfl
set_option maxRecDepth 100000 in
theorem m_102 : meths[102]? = some (yX10_draw, cX10_draw, 2, (some FieldType.int), 10) := rfl
set_option maxRecDepth 100000 in
theorem m_103 : meths[103]? = some (yX10_drawDeed, cX10_drawDeed, 2, (some FieldType.int), 10) := rfl
set_option maxRecDepth 100000 in
theorem m_104 : meths[104]? = some (yX10_skies, cX10_skies, 5, (some FieldType.int), 10) := rfl
set_option maxRecDepth 100000 in
theorem m_105 : meths[105]? = some (yX10_tiresSo, cX10_tiresSo, 6, (some FieldType.boolean), 10) := rfl
set_option maxRecDepth 100000 in
theorem m_106 : meths[106]? = some (yX10_bestTrial, cX10_bestTrial, 8, (some FieldType.int), 10) := rfl
set_option maxRecDepth 100000 in
theorem m_107 : meths[107]? = some (yX10_mostAlike, cX10_mostAlike, 10, (some FieldType.int), 10) := rfl
set_option maxRecDepth 100000 in
theorem m_108 : meths[108]? = some (yX10_drawAll, cX10_drawAll, 4, none, 10) := rfl
set_option maxRecDepth 100000 in
theorem m_109 : meths[109]? = some (yX10_weigh, cX10_weigh, 8, none, 10) := rfl
set_option maxRecDepth 100000 in
theorem m_110 : meths[110]? = some (yX10_settle, cX10_settle, 4, none, 10) := rfl
set_option maxRecDepth 100000 in
theorem m_111 : meths[111]? = some (yX10_inLowestTerms, cX10_inLowestTerms, 11, (some FieldType.int), 10) := rfl
set_option maxRecDepth 100000 in
theorem m_112 : meths[112]? = some (yX11_init, cX11_init, 3, none, 11) := rfl
set_option maxRecDepth 100000 in
theorem m_113 : meths[113]? = some (yX11_feed, cX11_feed, 6, (some FieldType.int), 11) := rfl
set_option maxRecDepth 100000 in
theorem m_114 : meths[114]? = some (yX11_county, cX11_county, 2, (some FieldType.int), 11) := rfl
set_option maxRecDepth 100000 in
theorem m_115 : meths[115]? = some (yX11_fault, cX11_fault, 2, (some FieldType.int), 11) := rfl
set_option maxRecDepth 100000 in
theorem m_116 : meths[116]? = some (yX11_place, cX11_place, 3, (some FieldType.int), 11) := rfl
set_option maxRecDepth 100000 in
theorem m_117 : meths[117]? = some (yX11_kin, cX11_kin, 3, (some FieldType.int), 11) := rfl
set_option maxRecDepth 100000 in
theorem m_118 : meths[118]? = some (yX11_why, cX11_why, 2, (some FieldType.int), 11) := rfl
set_option maxRecDepth 100000 in
theorem m_119 : meths[119]? = some (yX11_by, cX11_by, 4, (some FieldType.int), 11) := rfl
set_option maxRecDepth 100000 in
theorem m_120 : meths[120]? = some (yX11_hour, cX11_hour, 3, (some FieldType.int), 11) := rfl
set_option maxRecDepth 100000 in
theorem m_121 : meths[121]? = some (yX11_meal, cX11_meal, 3, (some FieldType.int), 11) := rfl
set_option maxRecDepth 100000 in
theorem m_122 : meths[122]? = some (yX11_weather, cX11_weather, 3, (some FieldType.int), 11) := rfl
set_option maxRecDepth 100000 in
theorem m_123 : meths[123]? = some (yX11_undo, cX11_undo, 3, (some FieldType.int), 11) := rfl
set_option maxRecDepth 100000 in
theorem m_124 : meths[124]? = some (yX11_judge, cX11_judge, 5, (some FieldType.int), 11) := rfl
set_option maxRecDepth 100000 in
theorem m_125 : meths[125]? = some (yX11_perform, cX11_perform, 3, (some FieldType.int), 11) := rfl
set_option maxRecDepth 100000 in
theorem m_126 : meths[126]? = some (yX11_century, cX11_century, 5, (some FieldType.int), 11) := rfl
set_option maxRecDepth 100000 in
theorem m_127 : meths[127]? = some (yX11_up, cX11_up, 1, (some FieldType.int), 11) := rfl
set_option maxRecDepth 100000 in
theorem m_128 : meths[128]? = some (yX11_keeping, cX11_keeping, 2, (some FieldType.int), 11) := rfl
set_option maxRecDepth 100000 in
theorem m_129 : meths[129]? = some (yX11_rows, cX11_rows, 2, (some FieldType.long), 11) := rfl
set_option maxRecDepth 100000 in
theorem m_130 : meths[130]? = some (yX11_needed, cX11_needed, 6, (some FieldType.int), 11) := rfl
set_option maxRecDepth 100000 in
theorem m_131 : meths[131]? = some (yX11_soonest, cX11_soonest, 4, (some FieldType.int), 11) := rfl
set_option maxRecDepth 100000 in
theorem m_132 : meths[132]? = some (yX11_way, cX11_way, 5, (some FieldType.int), 11) := rfl
set_option maxRecDepth 100000 in
theorem m_133 : meths[133]? = some (yX11_reach, cX11_reach, 1, (some FieldType.int), 11) := rfl
set_option maxRecDepth 100000 in
theorem m_134 : meths[134]? = some (yX11_bearers, cX11_bearers, 1, (some FieldType.int), 11) := rfl
set_option maxRecDepth 100000 in
theorem m_135 : meths[135]? = some (yX11_stands, cX11_stands, 1, (some FieldType.int), 11) := rfl
set_option maxRecDepth 100000 in
theorem m_136 : meths[136]? = some (yX11_seen, cX11_seen, 3, (some FieldType.long), 11) := rfl
set_option maxRecDepth 100000 in
theorem m_137 : meths[137]? = some (yX11_seenBy, cX11_seenBy, 4, (some FieldType.int), 11) := rfl
set_option maxRecDepth 100000 in
theorem m_138 : meths[138]? = some (yX11_suspects, cX11_suspects, 4, (some FieldType.int), 11) := rfl
set_option maxRecDepth 100000 in
theorem m_139 : meths[139]? = some (yX11_weathers, cX11_weathers, 3, (some FieldType.int), 11) := rfl
set_option maxRecDepth 100000 in
theorem m_140 : meths[140]? = some (yX11_attempt, cX11_attempt, 4, (some FieldType.int), 11) := rfl
set_option maxRecDepth 100000 in
theorem m_141 : meths[141]? = some (yX11_lasts, cX11_lasts, 1, (some FieldType.int), 11) := rfl
set_option maxRecDepth 100000 in
theorem m_142 : meths[142]? = some (yX11_best, cX11_best, 1, (some FieldType.int), 11) := rfl
set_option maxRecDepth 100000 in
theorem m_143 : meths[143]? = some (yX11_chance, cX11_chance, 4, (some FieldType.int), 11) := rfl
set_option maxRecDepth 100000 in
theorem m_144 : meths[144]? = some (yX11_mean, cX11_mean, 4, (some FieldType.int), 11) := rfl
set_option maxRecDepth 100000 in
theorem m_145 : meths[145]? = some (yX11_numbers, cX11_numbers, 5, (some FieldType.int), 11) := rfl
set_option maxRecDepth 100000 in
theorem m_146 : meths[146]? = some (yX11_write, cX11_write, 5, (some FieldType.long), 11) := rfl
set_option maxRecDepth 100000 in
theorem m_147 : meths[147]? = some (yX11_lists, cX11_lists, 7, (some FieldType.int), 11) := rfl
set_option maxRecDepth 100000 in
theorem m_148 : meths[148]? = some (yX11_image, cX11_image, 3, (some FieldType.int), 11) := rfl
set_option maxRecDepth 100000 in
theorem m_149 : meths[149]? = some (yX11_restore, cX11_restore, 3, (some FieldType.int), 11) := rfl
set_option maxRecDepth 100000 in
theorem m_150 : meths[150]? = some (yX11_count, cX11_count, 2, (some FieldType.int), 11) := rfl
set_option maxRecDepth 100000 in
theorem m_151 : meths[151]? = some (yX11_isPlace, cX11_isPlace, 2, (some FieldType.boolean), 11) := rfl
set_option maxRecDepth 100000 in
theorem m_152 : meths[152]? = some (yX11_isKin, cX11_isKin, 2, (some FieldType.boolean), 11) := rfl
set_option maxRecDepth 100000 in
theorem m_153 : meths[153]? = some (yX11_isTray, cX11_isTray, 2, (some FieldType.boolean), 11) := rfl
set_option maxRecDepth 100000 in
theorem m_154 : meths[154]? = some (yX11_isAim, cX11_isAim, 3, (some FieldType.boolean), 11) := rfl
set_option maxRecDepth 100000 in
theorem m_155 : meths[155]? = some (yX11_come, cX11_come, 3, (some FieldType.int), 11) := rfl
set_option maxRecDepth 100000 in
theorem m_156 : meths[156]? = some (yX11_numberOf, cX11_numberOf, 3, (some FieldType.long), 11) := rfl
set_option maxRecDepth 100000 in
theorem m_157 : meths[157]? = some (yX11_store, cX11_store, 7, (some FieldType.long), 11) := rfl
set_option maxRecDepth 100000 in
theorem m_158 : meths[158]? = some (yX11_actAll, cX11_actAll, 4, (some FieldType.int), 11) := rfl
set_option maxRecDepth 100000 in
theorem m_159 : meths[159]? = some (yX11_remember, cX11_remember, 3, none, 11) := rfl
set_option maxRecDepth 100000 in
theorem m_160 : meths[160]? = some (yX11_refuseTray, cX11_refuseTray, 6, (some FieldType.int), 11) := rfl
set_option maxRecDepth 100000 in
theorem m_161 : meths[161]? = some (yX11_expectSeen, cX11_expectSeen, 5, (some FieldType.int), 11) := rfl
set_option maxRecDepth 100000 in
theorem m_162 : meths[162]? = some (yX11_expectTired, cX11_expectTired, 4, (some FieldType.int), 11) := rfl
set_option maxRecDepth 100000 in
theorem m_163 : meths[163]? = some (yX11_expectLots, cX11_expectLots, 5, (some FieldType.int), 11) := rfl
set_option maxRecDepth 100000 in
theorem m_164 : meths[164]? = some (yX12_within, cX12_within, 6, (some FieldType.boolean), 12) := rfl
set_option maxRecDepth 100000 in
theorem m_165 : meths[165]? = some (yX12_init, cX12_init, 1, none, 12) := rfl
set_option maxRecDepth 100000 in
theorem m_166 : meths[166]? = some (yX12_plain, cX12_plain, 2, none, 12) := rfl
set_option maxRecDepth 100000 in
theorem m_167 : meths[167]? = some (yX12_feed, cX12_feed, 8, (some FieldType.int), 12) := rfl
set_option maxRecDepth 100000 in
theorem m_168 : meths[168]? = some (yX12_see, cX12_see, 2, (some FieldType.int), 12) := rfl
set_option maxRecDepth 100000 in
theorem m_169 : meths[169]? = some (yX12_isSmall, cX12_isSmall, 1, (some FieldType.boolean), 12) := rfl
set_option maxRecDepth 100000 in
theorem m_170 : meths[170]? = some (yX12_isDigit, cX12_isDigit, 1, (some FieldType.boolean), 12) := rfl
set_option maxRecDepth 100000 in
theorem m_171 : meths[171]? = some (yX12_keyAt, cX12_keyAt, 4, (some FieldType.int), 12) := rfl
set_option maxRecDepth 100000 in
theorem m_172 : meths[172]? = some (yX12_next, cX12_next, 2, none, 12) := rfl
set_option maxRecDepth 100000 in
theorem m_173 : meths[173]? = some (yX12_fails, cX12_fails, 2, none, 12) := rfl
set_option maxRecDepth 100000 in
theorem m_174 : meths[174]? = some (yX12_is, cX12_is, 2, (some FieldType.boolean), 12) := rfl
set_option maxRecDepth 100000 in
theorem m_175 : meths[175]? = some (yX12_eats, cX12_eats, 2, (some FieldType.boolean), 12) := rfl
set_option maxRecDepth 100000 in
theorem m_176 : meths[176]? = some (yX12_takes, cX12_takes, 4, (some FieldType.int), 12) := rfl
set_option maxRecDepth 100000 in
theorem m_177 : meths[177]? = some (yX12_isIn, cX12_isIn, 3, (some FieldType.boolean), 12) := rfl
set_option maxRecDepth 100000 in
theorem m_178 : meths[178]? = some (yX12_wordOf, cX12_wordOf, 2, (some FieldType.int), 12) := rfl
set_option maxRecDepth 100000 in
theorem m_179 : meths[179]? = some (yX12_codes, cX12_codes, 2, none, 12) := rfl
set_option maxRecDepth 100000 in
theorem m_180 : meths[180]? = some (yX12_goesIn, cX12_goesIn, 2, (some FieldType.boolean), 12) := rfl
set_option maxRecDepth 100000 in
theorem m_181 : meths[181]? = some (yX12_readAtom, cX12_readAtom, 2, none, 12) := rfl
set_option maxRecDepth 100000 in
theorem m_182 : meths[182]? = some (yX12_readIf, cX12_readIf, 2, none, 12) := rfl
set_option maxRecDepth 100000 in
theorem m_183 : meths[183]? = some (yX12_readTerm, cX12_readTerm, 2, none, 12) := rfl
set_option maxRecDepth 100000 in
theorem m_184 : meths[184]? = some (yX12_readSum, cX12_readSum, 3, none, 12) := rfl
set_option maxRecDepth 100000 in
theorem m_185 : meths[185]? = some (yX12_readUnit, cX12_readUnit, 3, none, 12) := rfl
set_option maxRecDepth 100000 in
theorem m_186 : meths[186]? = some (yX12_readBoth, cX12_readBoth, 2, none, 12) := rfl
set_option maxRecDepth 100000 in
theorem m_187 : meths[187]? = some (yX12_readTruth, cX12_readTruth, 2, none, 12) := rfl
set_option maxRecDepth 100000 in
theorem m_188 : meths[188]? = some (yX12_readHeight, cX12_readHeight, 3, none, 12) := rfl
set_option maxRecDepth 100000 in
theorem m_189 : meths[189]? = some (yX12_readWay, cX12_readWay, 3, none, 12) := rfl
set_option maxRecDepth 100000 in
theorem m_190 : meths[190]? = some (yX12_readFlag, cX12_readFlag, 2, (some FieldType.boolean), 12) := rfl
set_option maxRecDepth 100000 in
theorem m_191 : meths[191]? = some (yX12_readKin, cX12_readKin, 2, none, 12) := rfl
set_option maxRecDepth 100000 in
theorem m_192 : meths[192]? = some (yX12_readLaw, cX12_readLaw, 3, none, 12) := rfl
set_option maxRecDepth 100000 in
theorem m_193 : meths[193]? = some (yX12_readLine, cX12_readLine, 1, none, 12) := rfl
set_option maxRecDepth 100000 in
theorem m_194 : meths[194]? = some (yX12_ends, cX12_ends, 1, none, 12) := rfl
set_option maxRecDepth 100000 in
theorem m_195 : meths[195]? = some (yX12_county, cX12_county, 3, (some FieldType.int), 12) := rfl
set_option maxRecDepth 100000 in
theorem m_196 : meths[196]? = some (yX12_fault, cX12_fault, 2, (some FieldType.int), 12) := rfl
set_option maxRecDepth 100000 in
theorem m_197 : meths[197]? = some (yX12_isKin, cX12_isKin, 3, (some FieldType.boolean), 12) := rfl
set_option maxRecDepth 100000 in
theorem m_198 : meths[198]? = some (yX12_isPlace, cX12_isPlace, 3, (some FieldType.boolean), 12) := rfl
set_option maxRecDepth 100000 in
theorem m_199 : meths[199]? = some (yX12_placeIn, cX12_placeIn, 2, (some FieldType.int), 12) := rfl
set_option maxRecDepth 100000 in
theorem m_200 : meths[200]? = some (yX12_strengthIn, cX12_strengthIn, 2, (some FieldType.int), 12) := rfl
set_option maxRecDepth 100000 in
theorem m_201 : meths[201]? = some (yX12_bearerIn, cX12_bearerIn, 1, (some FieldType.int), 12) := rfl
set_option maxRecDepth 100000 in
theorem m_202 : meths[202]? = some (yX12_withStrength, cX12_withStrength, 3, (some FieldType.int), 12) := rfl
set_option maxRecDepth 100000 in
theorem m_203 : meths[203]? = some (yX12_withPlace, cX12_withPlace, 3, (some FieldType.int), 12) := rfl
set_option maxRecDepth 100000 in
theorem m_204 : meths[204]? = some (yX12_standNow, cX12_standNow, 3, (some FieldType.int), 12) := rfl
set_option maxRecDepth 100000 in
theorem m_205 : meths[205]? = some (yX12_isStand, cX12_isStand, 3, none, 12) := rfl
set_option maxRecDepth 100000 in
theorem m_206 : meths[206]? = some (yX12_isDown, cX12_isDown, 2, (some FieldType.boolean), 12) := rfl
set_option maxRecDepth 100000 in
theorem m_207 : meths[207]? = some (yX12_sumIn, cX12_sumIn, 4, (some FieldType.int), 12) := rfl
set_option maxRecDepth 100000 in
theorem m_208 : meths[208]? = some (yX12_between, cX12_between, 5, (some FieldType.int), 12) := rfl
set_option maxRecDepth 100000 in
theorem m_209 : meths[209]? = some (yX12_reckons, cX12_reckons, 10, (some FieldType.int), 12) := rfl
set_option maxRecDepth 100000 in
theorem m_210 : meths[210]? = some (yX12_mayGo, cX12_mayGo, 5, (some FieldType.boolean), 12) := rfl
set_option maxRecDepth 100000 in
theorem m_211 : meths[211]? = some (yX12_tiredTo, cX12_tiredTo, 8, (some FieldType.int), 12) := rfl
set_option maxRecDepth 100000 in
theorem m_212 : meths[212]? = some (yX12_toldMove, cX12_toldMove, 1, (some FieldType.int), 12) := rfl
set_option maxRecDepth 100000 in
theorem m_213 : meths[213]? = some (yX12_moveOf, cX12_moveOf, 3, (some FieldType.int), 12) := rfl
set_option maxRecDepth 100000 in
theorem m_214 : meths[214]? = some (yX12_isMove, cX12_isMove, 2, (some FieldType.boolean), 12) := rfl
set_option maxRecDepth 100000 in
theorem m_215 : meths[215]? = some (yX12_whyBy, cX12_whyBy, 6, (some FieldType.int), 12) := rfl
set_option maxRecDepth 100000 in
theorem m_216 : meths[216]? = some (yX12_hourTo, cX12_hourTo, 8, (some FieldType.int), 12) := rfl
set_option maxRecDepth 100000 in
theorem m_217 : meths[217]? = some (yX12_place, cX12_place, 5, (some FieldType.int), 12) := rfl
set_option maxRecDepth 100000 in
theorem m_218 : meths[218]? = some (yX12_kin, cX12_kin, 3, (some FieldType.int), 12) := rfl
set_option maxRecDepth 100000 in
theorem m_219 : meths[219]? = some (yX12_whyHour, cX12_whyHour, 4, (some FieldType.int), 12) := rfl
set_option maxRecDepth 100000 in
theorem m_220 : meths[220]? = some (yX12_why, cX12_why, 2, (some FieldType.int), 12) := rfl
set_option maxRecDepth 100000 in
theorem m_221 : meths[221]? = some (yX12_by, cX12_by, 3, (some FieldType.int), 12) := rfl
set_option maxRecDepth 100000 in
theorem m_222 : meths[222]? = some (yX12_keeps, cX12_keeps, 2, none, 12) := rfl
set_option maxRecDepth 100000 in
theorem m_223 : meths[223]? = some (yX12_isAgain, cX12_isAgain, 2, none, 12) := rfl
set_option maxRecDepth 100000 in
theorem m_224 : meths[224]? = some (yX12_notes, cX12_notes, 2, none, 12) := rfl
set_option maxRecDepth 100000 in
theorem m_225 : meths[225]? = some (yX12_goesHour, cX12_goesHour, 2, none, 12) := rfl
set_option maxRecDepth 100000 in
theorem m_226 : meths[226]? = some (yX12_hour, cX12_hour, 3, (some FieldType.int), 12) := rfl
set_option maxRecDepth 100000 in
theorem m_227 : meths[227]? = some (yX12_meal, cX12_meal, 2, (some FieldType.int), 12) := rfl
set_option maxRecDepth 100000 in
theorem m_228 : meths[228]? = some (yX12_weather, cX12_weather, 2, (some FieldType.int), 12) := rfl
set_option maxRecDepth 100000 in
theorem m_229 : meths[229]? = some (yX12_undo, cX12_undo, 3, (some FieldType.int), 12) := rfl
set_option maxRecDepth 100000 in
theorem m_230 : meths[230]? = some (yX12_whyNot, cX12_whyNot, 3, (some FieldType.int), 12) := rfl
set_option maxRecDepth 100000 in
theorem m_231 : meths[231]? = some (yX12_does, cX12_does, 2, none, 12) := rfl
set_option maxRecDepth 100000 in
theorem m_232 : meths[232]? = some (yX12_tells, cX12_tells, 3, (some FieldType.int), 12) := rfl
set_option maxRecDepth 100000 in
theorem m_233 : meths[233]? = some (yX12_noTray, cX12_noTray, 2, (some FieldType.int), 12) := rfl
set_option maxRecDepth 100000 in
theorem m_234 : meths[234]? = some (yX12_whereNow, cX12_whereNow, 1, (some FieldType.int), 12) := rfl
set_option maxRecDepth 100000 in
theorem m_235 : meths[235]? = some (yX12_judge, cX12_judge, 7, (some FieldType.int), 12) := rfl
set_option maxRecDepth 100000 in
theorem m_236 : meths[236]? = some (yX12_perform, cX12_perform, 4, (some FieldType.int), 12) := rfl
set_option maxRecDepth 100000 in
theorem m_237 : meths[237]? = some (yX12_draw, cX12_draw, 2, (some FieldType.int), 12) := rfl
set_option maxRecDepth 100000 in
theorem m_238 : meths[238]? = some (yX12_drawn, cX12_drawn, 3, (some FieldType.int), 12) := rfl
set_option maxRecDepth 100000 in
theorem m_239 : meths[239]? = some (yX12_century, cX12_century, 6, (some FieldType.int), 12) := rfl
set_option maxRecDepth 100000 in
theorem m_240 : meths[240]? = some (yX12_adds, cX12_adds, 2, (some FieldType.int), 12) := rfl
set_option maxRecDepth 100000 in
theorem m_241 : meths[241]? = some (yX12_weaker, cX12_weaker, 3, (some FieldType.int), 12) := rfl
set_option maxRecDepth 100000 in
theorem m_242 : meths[242]? = some (yX12_laysStands, cX12_laysStands, 8, none, 12) := rfl
set_option maxRecDepth 100000 in
theorem m_243 : meths[243]? = some (yX12_isUp, cX12_isUp, 2, (some FieldType.boolean), 12) := rfl
set_option maxRecDepth 100000 in
theorem m_244 : meths[244]? = some (yX12_downNow, cX12_downNow, 1, (some FieldType.boolean), 12) := rfl
set_option maxRecDepth 100000 in
theorem m_245 : meths[245]? = some (yX12_farNow, cX12_farNow, 2, (some FieldType.int), 12) := rfl
set_option maxRecDepth 100000 in
theorem m_246 : meths[246]? = some (yX12_upBy, cX12_upBy, 8, (some FieldType.int), 12) := rfl
set_option maxRecDepth 100000 in
theorem m_247 : meths[247]? = some (yX12_laysUp, cX12_laysUp, 7, (some FieldType.int), 12) := rfl
set_option maxRecDepth 100000 in
theorem m_248 : meths[248]? = some (yX12_toldFar, cX12_toldFar, 1, (some FieldType.int), 12) := rfl
set_option maxRecDepth 100000 in
theorem m_249 : meths[249]? = some (yX12_up, cX12_up, 1, (some FieldType.int), 12) := rfl
set_option maxRecDepth 100000 in
theorem m_250 : meths[250]? = some (yX12_keeping, cX12_keeping, 5, (some FieldType.int), 12) := rfl
set_option maxRecDepth 100000 in
theorem m_251 : meths[251]? = some (yX12_beginsMany, cX12_beginsMany, 2, none, 12) := rfl
set_option maxRecDepth 100000 in
theorem m_252 : meths[252]? = some (yX12_isThen, cX12_isThen, 2, none, 12) := rfl
set_option maxRecDepth 100000 in
theorem m_253 : meths[253]? = some (yX12_rows, cX12_rows, 5, (some FieldType.long), 12) := rfl
set_option maxRecDepth 100000 in
theorem m_254 : meths[254]? = some (yX12_canKeep, cX12_canKeep, 8, (some FieldType.boolean), 12) := rfl
set_option maxRecDepth 100000 in
theorem m_255 : meths[255]? = some (yX12_needed, cX12_needed, 4, (some FieldType.int), 12) := rfl
set_option maxRecDepth 100000 in
theorem m_256 : meths[256]? = some (yX12_isGoal, cX12_isGoal, 5, (some FieldType.boolean), 12) := rfl
set_option maxRecDepth 100000 in
theorem m_257 : meths[257]? = some (yX12_farBy, cX12_farBy, 4, (some FieldType.int), 12) := rfl
set_option maxRecDepth 100000 in
theorem m_258 : meths[258]? = some (yX12_laysFar, cX12_laysFar, 6, (some FieldType.int), 12) := rfl
set_option maxRecDepth 100000 in
theorem m_259 : meths[259]? = some (yX12_isAim, cX12_isAim, 3, (some FieldType.boolean), 12) := rfl
set_option maxRecDepth 100000 in
theorem m_260 : meths[260]? = some (yX12_deedAt, cX12_deedAt, 5, (some FieldType.int), 12) := rfl
set_option maxRecDepth 100000 in
theorem m_261 : meths[261]? = some (yX12_soonest, cX12_soonest, 3, (some FieldType.int), 12) := rfl
set_option maxRecDepth 100000 in
theorem m_262 : meths[262]? = some (yX12_way, cX12_way, 4, (some FieldType.int), 12) := rfl
set_option maxRecDepth 100000 in
theorem m_263 : meths[263]? = some (yX12_reach, cX12_reach, 3, (some FieldType.int), 12) := rfl
set_option maxRecDepth 100000 in
theorem m_264 : meths[264]? = some (yX12_bearers, cX12_bearers, 3, (some FieldType.int), 12) := rfl
set_option maxRecDepth 100000 in
theorem m_265 : meths[265]? = some (yX12_stands, cX12_stands, 1, (some FieldType.int), 12) := rfl
set_option maxRecDepth 100000 in
theorem m_266 : meths[266]? = some (yX12_noSeen, cX12_noSeen, 4, (some FieldType.int), 12) := rfl
set_option maxRecDepth 100000 in
theorem m_267 : meths[267]? = some (yX12_isSeen, cX12_isSeen, 6, (some FieldType.boolean), 12) := rfl
set_option maxRecDepth 100000 in
theorem m_268 : meths[268]? = some (yX12_laysSeen, cX12_laysSeen, 9, (some FieldType.long), 12) := rfl
set_option maxRecDepth 100000 in
theorem m_269 : meths[269]? = some (yX12_seen, cX12_seen, 3, (some FieldType.long), 12) := rfl
set_option maxRecDepth 100000 in
theorem m_270 : meths[270]? = some (yX12_seenBy, cX12_seenBy, 7, (some FieldType.int), 12) := rfl
set_option maxRecDepth 100000 in
theorem m_271 : meths[271]? = some (yX12_suspects, cX12_suspects, 9, (some FieldType.int), 12) := rfl
set_option maxRecDepth 100000 in
theorem m_272 : meths[272]? = some (yX12_noTired, cX12_noTired, 4, (some FieldType.int), 12) := rfl
set_option maxRecDepth 100000 in
theorem m_273 : meths[273]? = some (yX12_weathersOf, cX12_weathersOf, 7, (some FieldType.int), 12) := rfl
set_option maxRecDepth 100000 in
theorem m_274 : meths[274]? = some (yX12_weathers, cX12_weathers, 3, (some FieldType.int), 12) := rfl
set_option maxRecDepth 100000 in
theorem m_275 : meths[275]? = some (yX12_strengthsIn, cX12_strengthsIn, 4, (some FieldType.int), 12) := rfl
set_option maxRecDepth 100000 in
theorem m_276 : meths[276]? = some (yX12_mostAlike, cX12_mostAlike, 8, (some FieldType.int), 12) := rfl
set_option maxRecDepth 100000 in
theorem m_277 : meths[277]? = some (yX12_attempt, cX12_attempt, 8, (some FieldType.int), 12) := rfl
set_option maxRecDepth 100000 in
theorem m_278 : meths[278]? = some (yX12_lasts, cX12_lasts, 1, (some FieldType.int), 12) := rfl
set_option maxRecDepth 100000 in
theorem m_279 : meths[279]? = some (yX12_best, cX12_best, 3, (some FieldType.int), 12) := rfl
set_option maxRecDepth 100000 in
theorem m_280 : meths[280]? = some (yX12_noChance, cX12_noChance, 5, (some FieldType.int), 12) := rfl
set_option maxRecDepth 100000 in
theorem m_281 : meths[281]? = some (yX12_wholeOf, cX12_wholeOf, 4, (some FieldType.long), 12) := rfl
set_option maxRecDepth 100000 in
theorem m_282 : meths[282]? = some (yX12_goesLots, cX12_goesLots, 10, none, 12) := rfl
set_option maxRecDepth 100000 in
theorem m_283 : meths[283]? = some (yX12_common, cX12_common, 4, (some FieldType.long), 12) := rfl
set_option maxRecDepth 100000 in
theorem m_284 : meths[284]? = some (yX12_part, cX12_part, 5, (some FieldType.int), 12) := rfl
set_option maxRecDepth 100000 in
theorem m_285 : meths[285]? = some (yX12_laysLots, cX12_laysLots, 2, none, 12) := rfl
set_option maxRecDepth 100000 in
theorem m_286 : meths[286]? = some (yX12_chance, cX12_chance, 4, (some FieldType.int), 12) := rfl
set_option maxRecDepth 100000 in
theorem m_287 : meths[287]? = some (yX12_mean, cX12_mean, 4, (some FieldType.int), 12) := rfl
set_option maxRecDepth 100000 in
theorem m_288 : meths[288]? = some (yX12_cut, cX12_cut, 3, (some FieldType.long), 12) := rfl
set_option maxRecDepth 100000 in
theorem m_289 : meths[289]? = some (yX12_numbers, cX12_numbers, 5, (some FieldType.int), 12) := rfl
set_option maxRecDepth 100000 in
theorem m_290 : meths[290]? = some (yX12_write, cX12_write, 6, (some FieldType.long), 12) := rfl
set_option maxRecDepth 100000 in
theorem m_291 : meths[291]? = some (yX12_lists, cX12_lists, 8, (some FieldType.int), 12) := rfl
set_option maxRecDepth 100000 in
theorem m_292 : meths[292]? = some (yX12_image, cX12_image, 3, (some FieldType.int), 12) := rfl
set_option maxRecDepth 100000 in
theorem m_293 : meths[293]? = some (yX12_restore, cX12_restore, 3, (some FieldType.int), 12) := rfl
set_option maxRecDepth 100000 in
theorem m_294 : meths[294]? = some (yX12_count, cX12_count, 2, (some FieldType.int), 12) := rfl
set_option maxRecDepth 100000 in
theorem m_295 : meths[295]? = some (yJ11_isValidCodePoint_9a6ad, cJ11_isValidCodePoint_9a6ad, 2, (some FieldType.boolean), 14) := rfl
set_option maxRecDepth 100000 in
theorem m_296 : meths[296]? = some (yJ11_highSurrogate_5068e, cJ11_highSurrogate_5068e, 1, (some FieldType.char), 14) := rfl
set_option maxRecDepth 100000 in
theorem m_297 : meths[297]? = some (yJ11_lowSurrogate_5068e, cJ11_lowSurrogate_5068e, 1, (some FieldType.char), 14) := rfl
set_option maxRecDepth 100000 in
theorem m_298 : meths[298]? = some (yJ9_max_7cf53, cJ9_max_7cf53, 2, (some FieldType.int), 15) := rfl
set_option maxRecDepth 100000 in
theorem m_299 : meths[299]? = some (yJ9_max_f86c9, cJ9_max_f86c9, 4, (some FieldType.long), 15) := rfl
set_option maxRecDepth 100000 in
theorem m_300 : meths[300]? = some (yJ9_min_7cf53, cJ9_min_7cf53, 2, (some FieldType.int), 15) := rfl
set_option maxRecDepth 100000 in
theorem m_301 : meths[301]? = some (yJ9_min_f86c9, cJ9_min_f86c9, 4, (some FieldType.long), 15) := rfl
set_option maxRecDepth 100000 in
theorem m_302 : meths[302]? = some (yJ0_length_8abf5, cJ0_length_8abf5, 1, (some FieldType.int), 13) := rfl
set_option maxRecDepth 100000 in
theorem m_303 : meths[303]? = some (yJ0_charAt_5068e, cJ0_charAt_5068e, 2, (some FieldType.char), 13) := rfl
set_option maxRecDepth 100000 in
theorem m_304 : meths[304]? = some (yJ0_indexOf_0f7a4, cJ0_indexOf_0f7a4, 2, (some FieldType.int), 13) := rfl
set_option maxRecDepth 100000 in
theorem m_305 : meths[305]? = some (yJ0_indexOf_7cf53, cJ0_indexOf_7cf53, 3, (some FieldType.int), 13) := rfl
set_option maxRecDepth 100000 in
theorem m_306 : meths[306]? = some (yJ0_coder_7d493, cJ0_coder_7d493, 1, (some FieldType.byte), 13) := rfl
set_option maxRecDepth 100000 in
theorem m_307 : meths[307]? = some (yJ0_isLatin1_aae02, cJ0_isLatin1_aae02, 1, (some FieldType.boolean), 13) := rfl
set_option maxRecDepth 100000 in
theorem m_308 : meths[308]? = some (yJ0_checkIndex_df160, cJ0_checkIndex_df160, 2, none, 13) := rfl
set_option maxRecDepth 100000 in
theorem m_309 : meths[309]? = some (yJ0_checkBoundsBeginEnd_23922, cJ0_checkBoundsBeginEnd_23922, 3, none, 13) := rfl
set_option maxRecDepth 100000 in
theorem m_310 : meths[310]? = some (yJ1_charAt_3b067, cJ1_charAt_3b067, 2, (some FieldType.char), 16) := rfl
set_option maxRecDepth 100000 in
theorem m_311 : meths[311]? = some (yJ1_canEncode_9a6ad, cJ1_canEncode_9a6ad, 1, (some FieldType.boolean), 16) := rfl
set_option maxRecDepth 100000 in
theorem m_312 : meths[312]? = some (yJ1_indexOf_4cfef, cJ1_indexOf_4cfef, 4, (some FieldType.int), 16) := rfl
set_option maxRecDepth 100000 in
theorem m_313 : meths[313]? = some (yJ1_indexOfChar_4cfef, cJ1_indexOfChar_4cfef, 6, (some FieldType.int), 16) := rfl
set_option maxRecDepth 100000 in
theorem m_314 : meths[314]? = some (yJ2_getChar_3b067, cJ2_getChar_3b067, 2, (some FieldType.char), 17) := rfl
set_option maxRecDepth 100000 in
theorem m_315 : meths[315]? = some (yJ2_length_9d52b, cJ2_length_9d52b, 1, (some FieldType.int), 17) := rfl
set_option maxRecDepth 100000 in
theorem m_316 : meths[316]? = some (yJ2_indexOf_4cfef, cJ2_indexOf_4cfef, 4, (some FieldType.int), 17) := rfl
set_option maxRecDepth 100000 in
theorem m_317 : meths[317]? = some (yJ2_indexOfChar_4cfef, cJ2_indexOfChar_4cfef, 4, (some FieldType.int), 17) := rfl
set_option maxRecDepth 100000 in
theorem m_318 : meths[318]? = some (yJ2_indexOfCharUnsafe_4cfef, cJ2_indexOfCharUnsafe_4cfef, 5, (some FieldType.int), 17) := rfl
set_option maxRecDepth 100000 in
theorem m_319 : meths[319]? = some (yJ2_indexOfSupplementary_4cfef, cJ2_indexOfSupplementary_4cfef, 7, (some FieldType.int), 17) := rfl
set_option maxRecDepth 100000 in
theorem m_320 : meths[320]? = some (yJ2_charAt_3b067, cJ2_charAt_3b067, 2, (some FieldType.char), 17) := rfl
set_option maxRecDepth 100000 in
theorem m_321 : meths[321]? = some (yJ2_checkIndex_2214a, cJ2_checkIndex_2214a, 2, none, 17) := rfl
set_option maxRecDepth 100000 in
theorem m_322 : meths[322]? = some (yJ2_checkBoundsBeginEnd_d044e, cJ2_checkBoundsBeginEnd_d044e, 3, none, 17) := rfl
set_option maxRecDepth 100000 in
theorem m_323 : meths[323]? = some (yJ7_rangeCheck_23922, cJ7_rangeCheck_23922, 3, none, 18) := rfl
set_option maxRecDepth 100000 in
theorem m_324 : meths[324]? = some (yJ7_fill_bad5a, cJ7_fill_bad5a, 6, none, 18) := rfl
set_option maxRecDepth 100000 in
theorem m_325 : meths[325]? = some (yJ7_fill_53178, cJ7_fill_53178, 4, none, 18) := rfl
set_option maxRecDepth 100000 in
theorem m_326 : meths[326]? = some (yJ7_fill_fda19, cJ7_fill_fda19, 5, none, 18) := rfl
set_option maxRecDepth 100000 in
theorem m_327 : meths[327]? = some (yJ7_copyOf_59c91, cJ7_copyOf_59c91, 3, (some (FieldType.array FieldType.int)), 18) := rfl
set_option maxRecDepth 100000 in
theorem m_328 : meths[328]? = some (yJ3_checkIndex_8e157, cJ3_checkIndex_8e157, 3, (some FieldType.int), 19) := rfl
set_option maxRecDepth 100000 in
theorem m_329 : meths[329]? = some (yJ3_checkFromToIndex_8c36e, cJ3_checkFromToIndex_8c36e, 4, (some FieldType.int), 19) := rfl
set_option maxRecDepth 100000 in
theorem m_330 : meths[330]? = some (yL_law, cL_law, 4, (some .boolean), 20) := rfl
