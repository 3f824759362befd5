abbrev MX0_init : bq_M := (yX0_init, cX0_init, 1, none, 2, 42)
abbrev MX0_tellNothing : bq_M := (yX0_tellNothing, cX0_tellNothing, 2, none, 1, 21)
abbrev MX0_copyFrom : bq_M := (yX0_copyFrom, cX0_copyFrom, 3, none, 1, 22)
abbrev MX0_tellSetting : bq_M := (yX0_tellSetting, cX0_tellSetting, 3, none, 0, 0)
abbrev MX0_tellBroom : bq_M := (yX0_tellBroom, cX0_tellBroom, 4, none, 1, 24)
abbrev MX0_begin : bq_M := (yX0_begin, cX0_begin, 1, none, 1, 22)
abbrev MX0_heightOf : bq_M := (yX0_heightOf, cX0_heightOf, 3, (some .int), 0, 0)
abbrev MX0_isAboveMark : bq_M := (yX0_isAboveMark, cX0_isAboveMark, 2, (some .boolean), 1, 22)
abbrev MX0_stairWidth : bq_M := (yX0_stairWidth, cX0_stairWidth, 1, (some .int), 0, 0)
abbrev MX0_drainCups : bq_M := (yX0_drainCups, cX0_drainCups, 1, (some .int), 0, 0)
abbrev MX1_init : bq_M := (yX1_init, cX1_init, 1, none, 1, 20)
abbrev MX1_become : bq_M := (yX1_become, cX1_become, 7, none, 1, 30)
abbrev MX1_plus : bq_M := (yX1_plus, cX1_plus, 5, none, 2, 56)
abbrev MX1_part : bq_M := (yX1_part, cX1_part, 2, (some .long), 0, 0)
abbrev MX1_commonDivisor : bq_M := (yX1_commonDivisor, cX1_commonDivisor, 11, (some .long), 0, 0)
abbrev MX2_init : bq_M := (yX2_init, cX2_init, 1, none, 1, 20)
abbrev MX2_asBroom : bq_M := (yX2_asBroom, cX2_asBroom, 2, (some .int), 0, 0)
abbrev MX2_asWet : bq_M := (yX2_asWet, cX2_asWet, 3, (some .int), 1, 21)
abbrev MX2_asHalf : bq_M := (yX2_asHalf, cX2_asHalf, 3, (some .int), 1, 21)
abbrev MX2_asBored : bq_M := (yX2_asBored, cX2_asBored, 3, (some .int), 2, 43)
abbrev MX2_asBurning : bq_M := (yX2_asBurning, cX2_asBurning, 4, (some .int), 2, 43)
abbrev MX2_asTeaching : bq_M := (yX2_asTeaching, cX2_asTeaching, 3, (some .int), 1, 21)
abbrev MX3_init : bq_M := (yX3_init, cX3_init, 1, none, 1, 20)
abbrev MX3_add : bq_M := (yX3_add, cX3_add, 2, (some .boolean), 0, 0)
abbrev MX3_at : bq_M := (yX3_at, cX3_at, 2, (some .int), 0, 0)
abbrev MX4_init : bq_M := (yX4_init, cX4_init, 1, none, 1, 20)
abbrev MX4_add : bq_M := (yX4_add, cX4_add, 3, (some .boolean), 0, 0)
abbrev MX4_allowWater : bq_M := (yX4_allowWater, cX4_allowWater, 4, (some .boolean), 0, 0)
abbrev MX5_init : bq_M := (yX5_init, cX5_init, 1, none, 1, 20)
abbrev MX5_copyFrom : bq_M := (yX5_copyFrom, cX5_copyFrom, 3, none, 0, 0)
abbrev MX5_empty : bq_M := (yX5_empty, cX5_empty, 2, none, 0, 0)
abbrev MX5_place : bq_M := (yX5_place, cX5_place, 5, none, 0, 0)
abbrev MX5_isThere : bq_M := (yX5_isThere, cX5_isThere, 2, (some .boolean), 1, 21)
abbrev MX5_loadOf : bq_M := (yX5_loadOf, cX5_loadOf, 2, (some .int), 1, 21)
abbrev MX5_pass : bq_M := (yX5_pass, cX5_pass, 5, none, 3, 63)
abbrev MX5_comes : bq_M := (yX5_comes, cX5_comes, 2, none, 2, 42)
abbrev MX5_firstFree : bq_M := (yX5_firstFree, cX5_firstFree, 2, (some .int), 2, 42)
abbrev MX5_canSplit : bq_M := (yX5_canSplit, cX5_canSplit, 2, (some .boolean), 3, 63)
abbrev MX5_split : bq_M := (yX5_split, cX5_split, 3, (some .int), 4, 84)
abbrev MX5_alike : bq_M := (yX5_alike, cX5_alike, 3, (some .int), 1, 21)
abbrev MX5_comings : bq_M := (yX5_comings, cX5_comings, 4, (some .int), 2, 42)
abbrev MX6_init : bq_M := (yX6_init, cX6_init, 2, none, 2, 40)
abbrev MX6_remember : bq_M := (yX6_remember, cX6_remember, 3, none, 1, 22)
abbrev MX6_bringBack : bq_M := (yX6_bringBack, cX6_bringBack, 3, none, 1, 22)
abbrev MX7_init : bq_M := (yX7_init, cX7_init, 1, none, 1, 20)
abbrev MX7_read : bq_M := (yX7_read, cX7_read, 6, (some .int), 7, 159)
abbrev MX7_isOneTooMany : bq_M := (yX7_isOneTooMany, cX7_isOneTooMany, 3, (some .boolean), 1, 21)
abbrev MX7_readItem : bq_M := (yX7_readItem, cX7_readItem, 6, (some .boolean), 3, 66)
abbrev MX7_isWithin : bq_M := (yX7_isWithin, cX7_isWithin, 2, (some .boolean), 0, 0)
abbrev MX7_step : bq_M := (yX7_step, cX7_step, 3, none, 2, 44)
abbrev MX7_stepOverNumber : bq_M := (yX7_stepOverNumber, cX7_stepOverNumber, 4, none, 1, 21)
abbrev MX7_isDigit : bq_M := (yX7_isDigit, cX7_isDigit, 1, (some .boolean), 0, 0)
abbrev MX8_init : bq_M := (yX8_init, cX8_init, 2, none, 3, 62)
abbrev MX8_type : bq_M := (yX8_type, cX8_type, 2, (some .int), 1, 21)
abbrev MX8_clear : bq_M := (yX8_clear, cX8_clear, 2, (some .int), 0, 0)
abbrev MX8_cellar : bq_M := (yX8_cellar, cX8_cellar, 3, (some .int), 8, 184)
abbrev MX8_broom : bq_M := (yX8_broom, cX8_broom, 3, (some .int), 1, 21)
abbrev MX8_now : bq_M := (yX8_now, cX8_now, 2, (some .int), 1, 22)
abbrev MX8_minute : bq_M := (yX8_minute, cX8_minute, 2, (some .int), 4, 87)
abbrev MX8_splits : bq_M := (yX8_splits, cX8_splits, 2, (some .int), 5, 106)
abbrev MX8_teaches : bq_M := (yX8_teaches, cX8_teaches, 2, (some .int), 2, 44)
abbrev MX8_bores : bq_M := (yX8_bores, cX8_bores, 2, (some .int), 2, 44)
abbrev MX8_burns : bq_M := (yX8_burns, cX8_burns, 2, (some .int), 3, 65)
abbrev MX8_halts : bq_M := (yX8_halts, cX8_halts, 2, (some .int), 3, 65)
abbrev MX8_undo : bq_M := (yX8_undo, cX8_undo, 1, (some .int), 2, 44)
abbrev MX8_takeAway : bq_M := (yX8_takeAway, cX8_takeAway, 2, (some .int), 2, 44)
abbrev MX8_stands : bq_M := (yX8_stands, cX8_stands, 3, (some .int), 4, 87)
abbrev MX8_above : bq_M := (yX8_above, cX8_above, 2, (some .int), 4, 87)
abbrev MX8_most : bq_M := (yX8_most, cX8_most, 4, (some .int), 4, 87)
abbrev MX8_lookAhead : bq_M := (yX8_lookAhead, cX8_lookAhead, 1, none, 1, 22)
abbrev MX8_teach : bq_M := (yX8_teach, cX8_teach, 2, (some .int), 7, 162)
abbrev MX8_burn : bq_M := (yX8_burn, cX8_burn, 2, (some .int), 7, 162)
abbrev MX8_stair : bq_M := (yX8_stair, cX8_stair, 3, (some .int), 5, 112)
abbrev MX8_drain : bq_M := (yX8_drain, cX8_drain, 3, (some .int), 5, 112)
abbrev MX8_isPlanned : bq_M := (yX8_isPlanned, cX8_isPlanned, 1, (some .boolean), 0, 0)
abbrev MX8_fewest : bq_M := (yX8_fewest, cX8_fewest, 8, (some .int), 6, 135)
abbrev MX8_helps : bq_M := (yX8_helps, cX8_helps, 4, (some .boolean), 5, 112)
abbrev MX8_staysAtMark : bq_M := (yX8_staysAtMark, cX8_staysAtMark, 6, (some .boolean), 4, 87)
abbrev MX8_flow : bq_M := (yX8_flow, cX8_flow, 4, (some .long), 3, 80)
abbrev MX8_splitOn : bq_M := (yX8_splitOn, cX8_splitOn, 6, (some .int), 2, 42)
abbrev MX8_price : bq_M := (yX8_price, cX8_price, 5, (some .int), 4, 87)
abbrev MX8_heard : bq_M := (yX8_heard, cX8_heard, 4, (some .int), 4, 87)
abbrev MX8_measured : bq_M := (yX8_measured, cX8_measured, 3, (some .int), 1, 22)
abbrev MX8_forget : bq_M := (yX8_forget, cX8_forget, 2, (some .int), 0, 0)
abbrev MX8_splitFirst : bq_M := (yX8_splitFirst, cX8_splitFirst, 3, (some .int), 5, 109)
abbrev MX8_isAsMeasured : bq_M := (yX8_isAsMeasured, cX8_isAsMeasured, 3, (some .boolean), 4, 87)
abbrev MX8_odds : bq_M := (yX8_odds, cX8_odds, 12, (some .int), 3, 65)
abbrev MX8_countWays : bq_M := (yX8_countWays, cX8_countWays, 7, (some .long), 0, 0)
abbrev MX8_rate : bq_M := (yX8_rate, cX8_rate, 4, (some .int), 3, 66)
abbrev MX8_keep : bq_M := (yX8_keep, cX8_keep, 3, (some .int), 1, 22)
abbrev MX8_back : bq_M := (yX8_back, cX8_back, 3, (some .int), 1, 22)
abbrev MX8_count : bq_M := (yX8_count, cX8_count, 2, (some .int), 1, 20)
abbrev MX8_trace : bq_M := (yX8_trace, cX8_trace, 1, (some .long), 0, 0)
abbrev MX8_bitOf : bq_M := (yX8_bitOf, cX8_bitOf, 2, (some .int), 0, 0)
abbrev MX9_init : bq_M := (yX9_init, cX9_init, 1, none, 6, 130)
abbrev MX9_in : bq_M := (yX9_in, cX9_in, 3, (some .boolean), 0, 0)
abbrev MX9_isNumber : bq_M := (yX9_isNumber, cX9_isNumber, 1, (some .boolean), 1, 22)
abbrev MX9_isThere : bq_M := (yX9_isThere, cX9_isThere, 2, (some .boolean), 2, 42)
abbrev MX9_ones : bq_M := (yX9_ones, cX9_ones, 3, (some .int), 0, 0)
abbrev MX9_type : bq_M := (yX9_type, cX9_type, 2, (some .int), 1, 22)
abbrev MX9_clear : bq_M := (yX9_clear, cX9_clear, 2, (some .int), 0, 0)
abbrev MX9_letterAt : bq_M := (yX9_letterAt, cX9_letterAt, 2, (some .int), 0, 0)
abbrev MX9_isDigit : bq_M := (yX9_isDigit, cX9_isDigit, 1, (some .boolean), 1, 22)
abbrev MX9_itemOf : bq_M := (yX9_itemOf, cX9_itemOf, 1, (some .int), 0, 0)
abbrev MX9_token : bq_M := (yX9_token, cX9_token, 2, none, 2, 42)
abbrev MX9_number : bq_M := (yX9_number, cX9_number, 4, (some .boolean), 3, 63)
abbrev MX9_readsItem : bq_M := (yX9_readsItem, cX9_readsItem, 4, (some .boolean), 4, 86)
abbrev MX9_reads : bq_M := (yX9_reads, cX9_reads, 2, (some .boolean), 5, 109)
abbrev MX9_high : bq_M := (yX9_high, cX9_high, 1, (some .int), 0, 0)
abbrev MX9_begins : bq_M := (yX9_begins, cX9_begins, 2, none, 1, 20)
abbrev MX9_tells : bq_M := (yX9_tells, cX9_tells, 2, none, 2, 41)
abbrev MX9_cellar : bq_M := (yX9_cellar, cX9_cellar, 1, (some .int), 6, 130)
abbrev MX9_broom : bq_M := (yX9_broom, cX9_broom, 3, (some .int), 2, 42)
abbrev MX9_there : bq_M := (yX9_there, cX9_there, 3, (some .int), 0, 0)
abbrev MX9_now : bq_M := (yX9_now, cX9_now, 2, (some .int), 1, 22)
abbrev MX9_keeps : bq_M := (yX9_keeps, cX9_keeps, 2, none, 0, 0)
abbrev MX9_carries : bq_M := (yX9_carries, cX9_carries, 2, (some .int), 0, 0)
abbrev MX9_goes : bq_M := (yX9_goes, cX9_goes, 5, (some .int), 1, 21)
abbrev MX9_asTold : bq_M := (yX9_asTold, cX9_asTold, 1, none, 0, 0)
abbrev MX9_minute : bq_M := (yX9_minute, cX9_minute, 1, (some .int), 2, 45)
abbrev MX9_free : bq_M := (yX9_free, cX9_free, 3, (some .int), 0, 0)
abbrev MX9_splitsNow : bq_M := (yX9_splitsNow, cX9_splitsNow, 4, (some .int), 1, 22)
abbrev MX9_canSplit : bq_M := (yX9_canSplit, cX9_canSplit, 2, (some .boolean), 1, 22)
abbrev MX9_splits : bq_M := (yX9_splits, cX9_splits, 2, (some .int), 3, 63)
abbrev MX9_teaches : bq_M := (yX9_teaches, cX9_teaches, 2, (some .int), 3, 63)
abbrev MX9_bores : bq_M := (yX9_bores, cX9_bores, 2, (some .int), 3, 63)
abbrev MX9_burns : bq_M := (yX9_burns, cX9_burns, 2, (some .int), 3, 63)
abbrev MX9_halts : bq_M := (yX9_halts, cX9_halts, 2, (some .int), 3, 63)
abbrev MX9_undo : bq_M := (yX9_undo, cX9_undo, 2, (some .int), 0, 0)
abbrev MX9_holds : bq_M := (yX9_holds, cX9_holds, 2, none, 1, 20)
abbrev MX9_lets : bq_M := (yX9_lets, cX9_lets, 2, none, 0, 0)
abbrev MX9_stands : bq_M := (yX9_stands, cX9_stands, 3, (some .int), 2, 45)
abbrev MX9_above : bq_M := (yX9_above, cX9_above, 3, (some .int), 2, 45)
abbrev MX9_highest : bq_M := (yX9_highest, cX9_highest, 4, (some .int), 2, 45)
abbrev MX9_most : bq_M := (yX9_most, cX9_most, 3, (some .int), 3, 68)
abbrev MX9_fewest : bq_M := (yX9_fewest, cX9_fewest, 8, (some .int), 3, 68)
abbrev MX9_teach : bq_M := (yX9_teach, cX9_teach, 2, (some .int), 4, 95)
abbrev MX9_burn : bq_M := (yX9_burn, cX9_burn, 2, (some .int), 4, 95)
abbrev MX9_stair : bq_M := (yX9_stair, cX9_stair, 4, (some .int), 3, 68)
abbrev MX9_drain : bq_M := (yX9_drain, cX9_drain, 4, (some .int), 3, 68)
abbrev MX9_common : bq_M := (yX9_common, cX9_common, 10, (some .long), 0, 0)
abbrev MX9_flow : bq_M := (yX9_flow, cX9_flow, 13, (some .long), 1, 29)
abbrev MX9_splitOn : bq_M := (yX9_splitOn, cX9_splitOn, 6, (some .int), 3, 63)
abbrev MX9_price : bq_M := (yX9_price, cX9_price, 5, (some .int), 2, 45)
abbrev MX9_heard : bq_M := (yX9_heard, cX9_heard, 6, (some .int), 3, 63)
abbrev MX9_measured : bq_M := (yX9_measured, cX9_measured, 3, (some .int), 1, 22)
abbrev MX9_forget : bq_M := (yX9_forget, cX9_forget, 2, (some .int), 0, 0)
abbrev MX9_isSo : bq_M := (yX9_isSo, cX9_isSo, 4, (some .boolean), 2, 45)
abbrev MX9_splitFirst : bq_M := (yX9_splitFirst, cX9_splitFirst, 3, (some .int), 3, 68)
abbrev MX9_odds : bq_M := (yX9_odds, cX9_odds, 15, (some .int), 3, 63)
abbrev MX9_rate : bq_M := (yX9_rate, cX9_rate, 6, (some .int), 2, 42)
abbrev MX9_keep : bq_M := (yX9_keep, cX9_keep, 3, (some .int), 1, 22)
abbrev MX9_back : bq_M := (yX9_back, cX9_back, 3, (some .int), 1, 22)
abbrev MX9_count : bq_M := (yX9_count, cX9_count, 2, (some .int), 1, 22)
abbrev MX9_trace : bq_M := (yX9_trace, cX9_trace, 1, (some .long), 0, 0)
abbrev MJ11_isValidCodePoint_9a6ad : bq_M := (yJ11_isValidCodePoint_9a6ad, cJ11_isValidCodePoint_9a6ad, 2, (some .boolean), 0, 0)
abbrev MJ11_highSurrogate_5068e : bq_M := (yJ11_highSurrogate_5068e, cJ11_highSurrogate_5068e, 1, (some .char), 0, 0)
abbrev MJ11_lowSurrogate_5068e : bq_M := (yJ11_lowSurrogate_5068e, cJ11_lowSurrogate_5068e, 1, (some .char), 0, 0)
abbrev MJ6_bitCount_0f7a4 : bq_M := (yJ6_bitCount_0f7a4, cJ6_bitCount_0f7a4, 1, (some .int), 0, 0)
abbrev MJ9_floorMod_7cf53 : bq_M := (yJ9_floorMod_7cf53, cJ9_floorMod_7cf53, 3, (some .int), 0, 0)
abbrev MJ9_abs_067f4 : bq_M := (yJ9_abs_067f4, cJ9_abs_067f4, 2, (some .long), 0, 0)
abbrev MJ9_max_7cf53 : bq_M := (yJ9_max_7cf53, cJ9_max_7cf53, 2, (some .int), 0, 0)
abbrev MJ9_min_7cf53 : bq_M := (yJ9_min_7cf53, cJ9_min_7cf53, 2, (some .int), 0, 0)
abbrev MJ0_length_8abf5 : bq_M := (yJ0_length_8abf5, cJ0_length_8abf5, 1, (some .int), 1, 20)
abbrev MJ0_indexOf_0f7a4 : bq_M := (yJ0_indexOf_0f7a4, cJ0_indexOf_0f7a4, 2, (some .int), 6, 138)
abbrev MJ0_indexOf_7cf53 : bq_M := (yJ0_indexOf_7cf53, cJ0_indexOf_7cf53, 3, (some .int), 5, 116)
abbrev MJ0_coder_7d493 : bq_M := (yJ0_coder_7d493, cJ0_coder_7d493, 1, (some .byte), 0, 0)
abbrev MJ0_isLatin1_aae02 : bq_M := (yJ0_isLatin1_aae02, cJ0_isLatin1_aae02, 1, (some .boolean), 0, 0)
abbrev MJ0_checkBoundsBeginEnd_23922 : bq_M := (yJ0_checkBoundsBeginEnd_23922, cJ0_checkBoundsBeginEnd_23922, 3, none, 1, 23)
abbrev MJ1_canEncode_9a6ad : bq_M := (yJ1_canEncode_9a6ad, cJ1_canEncode_9a6ad, 1, (some .boolean), 0, 0)
abbrev MJ1_indexOf_4cfef : bq_M := (yJ1_indexOf_4cfef, cJ1_indexOf_4cfef, 4, (some .int), 1, 25)
abbrev MJ1_indexOfChar_4cfef : bq_M := (yJ1_indexOfChar_4cfef, cJ1_indexOfChar_4cfef, 6, (some .int), 0, 0)
abbrev MJ2_getChar_3b067 : bq_M := (yJ2_getChar_3b067, cJ2_getChar_3b067, 2, (some .char), 1, 20)
abbrev MJ2_length_9d52b : bq_M := (yJ2_length_9d52b, cJ2_length_9d52b, 1, (some .int), 0, 0)
abbrev MJ2_indexOf_4cfef : bq_M := (yJ2_indexOf_4cfef, cJ2_indexOf_4cfef, 4, (some .int), 4, 93)
abbrev MJ2_indexOfChar_4cfef : bq_M := (yJ2_indexOfChar_4cfef, cJ2_indexOfChar_4cfef, 4, (some .int), 3, 67)
abbrev MJ2_indexOfCharUnsafe_4cfef : bq_M := (yJ2_indexOfCharUnsafe_4cfef, cJ2_indexOfCharUnsafe_4cfef, 5, (some .int), 2, 41)
abbrev MJ2_indexOfSupplementary_4cfef : bq_M := (yJ2_indexOfSupplementary_4cfef, cJ2_indexOfSupplementary_4cfef, 7, (some .int), 3, 67)
abbrev MJ2_checkBoundsBeginEnd_d044e : bq_M := (yJ2_checkBoundsBeginEnd_d044e, cJ2_checkBoundsBeginEnd_d044e, 3, none, 2, 45)
abbrev MJ3_checkFromToIndex_8c36e : bq_M := (yJ3_checkFromToIndex_8c36e, cJ3_checkFromToIndex_8c36e, 4, (some .int), 0, 0)
set_option maxRecDepth 100000 in
theorem wi_L : Cond.initialized RL ∈ bq_tbl := bq_mem (List.mem_of_getElem? (i := 36) (by decide +kernel)) rfl
set_option maxRecDepth 100000 in
theorem wi_X8 : Cond.initialized RX8 ∈ bq_tbl := bq_mem (List.mem_of_getElem? (i := 37) (by decide +kernel)) rfl
set_option maxRecDepth 100000 in
theorem wi_X3 : Cond.initialized RX3 ∈ bq_tbl := bq_mem (List.mem_of_getElem? (i := 38) (by decide +kernel)) rfl
set_option maxRecDepth 100000 in
theorem wi_X7 : Cond.initialized RX7 ∈ bq_tbl := bq_mem (List.mem_of_getElem? (i := 39) (by decide +kernel)) rfl
set_option maxRecDepth 100000 in
theorem wi_X0 : Cond.initialized RX0 ∈ bq_tbl := bq_mem (List.mem_of_getElem? (i := 40) (by decide +kernel)) rfl
set_option maxRecDepth 100000 in
theorem wi_X5 : Cond.initialized RX5 ∈ bq_tbl := bq_mem (List.mem_of_getElem? (i := 41) (by decide +kernel)) rfl
set_option maxRecDepth 100000 in
theorem wi_X6 : Cond.initialized RX6 ∈ bq_tbl := bq_mem (List.mem_of_getElem? (i := 42) (by decide +kernel)) rfl
set_option maxRecDepth 100000 in
theorem wi_X4 : Cond.initialized RX4 ∈ bq_tbl := bq_mem (List.mem_of_getElem? (i := 43) (by decide +kernel)) rfl
set_option maxRecDepth 100000 in
theorem wi_X1 : Cond.initialized RX1 ∈ bq_tbl := bq_mem (List.mem_of_getElem? (i := 44) (by decide +kernel)) rfl
set_option maxRecDepth 100000 in
theorem wi_X2 : Cond.initialized RX2 ∈ bq_tbl := bq_mem (List.mem_of_getElem? (i := 45) (by decide +kernel)) rfl
set_option maxRecDepth 100000 in
theorem wi_X9 : Cond.initialized RX9 ∈ bq_tbl := bq_mem (List.mem_of_getElem? (i := 46) (by decide +kernel)) rfl
set_option maxRecDepth 100000 in
theorem wi_J9 : Cond.initialized RJ9 ∈ bq_tbl := bq_mem (List.mem_of_getElem? (i := 47) (by decide +kernel)) rfl
set_option maxRecDepth 100000 in
theorem wi_J0 : Cond.initialized RJ0 ∈ bq_tbl := bq_mem (List.mem_of_getElem? (i := 48) (by decide +kernel)) rfl
set_option maxRecDepth 100000 in
theorem wi_J1 : Cond.initialized RJ1 ∈ bq_tbl := bq_mem (List.mem_of_getElem? (i := 49) (by decide +kernel)) rfl
set_option maxRecDepth 100000 in
theorem wi_J2 : Cond.initialized RJ2 ∈ bq_tbl := bq_mem (List.mem_of_getElem? (i := 50) (by decide +kernel)) rfl
set_option maxRecDepth 100000 in
theorem wi_J3 : Cond.initialized RJ3 ∈ bq_tbl := bq_mem (List.mem_of_getElem? (i := 51) (by decide +kernel)) rfl
set_option maxRecDepth 100000 in
theorem wi_J11 : Cond.initialized RJ11 ∈ bq_tbl := bq_mem (List.mem_of_getElem? (i := 52) (by decide +kernel)) rfl
set_option maxRecDepth 100000 in
theorem wi_J6 : Cond.initialized RJ6 ∈ bq_tbl := bq_mem (List.mem_of_getElem? (i := 53) (by decide +kernel)) rfl
set_option maxRecDepth 100000 in
theorem wc_X8_init : Cond.code yX8_init cX8_init 2 none ∈ bq_tbl := bq_mem (List.mem_of_getElem? (i := 58) (by decide +kernel)) rfl
set_option maxRecDepth 100000 in
theorem wc_X3_init : Cond.code yX3_init cX3_init 1 none ∈ bq_tbl := bq_mem (List.mem_of_getElem? (i := 66) (by decide +kernel)) rfl
set_option maxRecDepth 100000 in
theorem wc_X7_init : Cond.code yX7_init cX7_init 1 none ∈ bq_tbl := bq_mem (List.mem_of_getElem? (i := 81) (by decide +kernel)) rfl
set_option maxRecDepth 100000 in
theorem wc_X0_init : Cond.code yX0_init cX0_init 1 none ∈ bq_tbl := bq_mem (List.mem_of_getElem? (i := 106) (by decide +kernel)) rfl
set_option maxRecDepth 100000 in
theorem wc_X5_init : Cond.code yX5_init cX5_init 1 none ∈ bq_tbl := bq_mem (List.mem_of_getElem? (i := 112) (by decide +kernel)) rfl
set_option maxRecDepth 100000 in
theorem wc_X0_tellNothing : Cond.code yX0_tellNothing cX0_tellNothing 2 none ∈ bq_tbl := bq_mem (List.mem_of_getElem? (i := 168) (by decide +kernel)) rfl
set_option maxRecDepth 100000 in
theorem wc_X5_empty : Cond.code yX5_empty cX5_empty 2 none ∈ bq_tbl := bq_mem (List.mem_of_getElem? (i := 174) (by decide +kernel)) rfl
set_option maxRecDepth 100000 in
theorem wc_X6_init : Cond.code yX6_init cX6_init 2 none ∈ bq_tbl := bq_mem (List.mem_of_getElem? (i := 195) (by decide +kernel)) rfl
set_option maxRecDepth 100000 in
theorem wc_X4_init : Cond.code yX4_init cX4_init 1 none ∈ bq_tbl := bq_mem (List.mem_of_getElem? (i := 215) (by decide +kernel)) rfl
set_option maxRecDepth 100000 in
theorem wc_X1_init : Cond.code yX1_init cX1_init 1 none ∈ bq_tbl := bq_mem (List.mem_of_getElem? (i := 233) (by decide +kernel)) rfl
set_option maxRecDepth 100000 in
theorem wc_X2_init : Cond.code yX2_init cX2_init 1 none ∈ bq_tbl := bq_mem (List.mem_of_getElem? (i := 246) (by decide +kernel)) rfl
set_option maxRecDepth 100000 in
theorem wc_X8_type : Cond.code yX8_type cX8_type 2 (some .int) ∈ bq_tbl := bq_mem (List.mem_of_getElem? (i := 297) (by decide +kernel)) rfl
set_option maxRecDepth 100000 in
theorem wc_X3_add : Cond.code yX3_add cX3_add 2 (some .boolean) ∈ bq_tbl := bq_mem (List.mem_of_getElem? (i := 301) (by decide +kernel)) rfl
set_option maxRecDepth 100000 in
theorem wc_X8_clear : Cond.code yX8_clear cX8_clear 2 (some .int) ∈ bq_tbl := bq_mem (List.mem_of_getElem? (i := 305) (by decide +kernel)) rfl
set_option maxRecDepth 100000 in
theorem wc_X8_cellar : Cond.code yX8_cellar cX8_cellar 3 (some .int) ∈ bq_tbl := bq_mem (List.mem_of_getElem? (i := 309) (by decide +kernel)) rfl
set_option maxRecDepth 100000 in
theorem wc_X7_read : Cond.code yX7_read cX7_read 6 (some .int) ∈ bq_tbl := bq_mem (List.mem_of_getElem? (i := 313) (by decide +kernel)) rfl
set_option maxRecDepth 100000 in
theorem wc_X7_step : Cond.code yX7_step cX7_step 3 none ∈ bq_tbl := bq_mem (List.mem_of_getElem? (i := 318) (by decide +kernel)) rfl
set_option maxRecDepth 100000 in
theorem wc_X3_at : Cond.code yX3_at cX3_at 2 (some .int) ∈ bq_tbl := bq_mem (List.mem_of_getElem? (i := 322) (by decide +kernel)) rfl
set_option maxRecDepth 100000 in
theorem wc_X7_isDigit : Cond.code yX7_isDigit cX7_isDigit 1 (some .boolean) ∈ bq_tbl := bq_mem (List.mem_of_getElem? (i := 325) (by decide +kernel)) rfl
set_option maxRecDepth 100000 in
theorem wc_X7_stepOverNumber : Cond.code yX7_stepOverNumber cX7_stepOverNumber 4 none ∈ bq_tbl := bq_mem (List.mem_of_getElem? (i := 329) (by decide +kernel)) rfl
set_option maxRecDepth 100000 in
theorem wc_J9_min_7cf53 : Cond.code yJ9_min_7cf53 cJ9_min_7cf53 2 (some .int) ∈ bq_tbl := bq_mem (List.mem_of_getElem? (i := 332) (by decide +kernel)) rfl
set_option maxRecDepth 100000 in
theorem wc_J0_indexOf_0f7a4 : Cond.code yJ0_indexOf_0f7a4 cJ0_indexOf_0f7a4 2 (some .int) ∈ bq_tbl := bq_mem (List.mem_of_getElem? (i := 337) (by decide +kernel)) rfl
set_option maxRecDepth 100000 in
theorem wc_J0_indexOf_7cf53 : Cond.code yJ0_indexOf_7cf53 cJ0_indexOf_7cf53 3 (some .int) ∈ bq_tbl := bq_mem (List.mem_of_getElem? (i := 341) (by decide +kernel)) rfl
set_option maxRecDepth 100000 in
theorem wc_J0_isLatin1_aae02 : Cond.code yJ0_isLatin1_aae02 cJ0_isLatin1_aae02 1 (some .boolean) ∈ bq_tbl := bq_mem (List.mem_of_getElem? (i := 345) (by decide +kernel)) rfl
set_option maxRecDepth 100000 in
theorem wc_J0_length_8abf5 : Cond.code yJ0_length_8abf5 cJ0_length_8abf5 1 (some .int) ∈ bq_tbl := bq_mem (List.mem_of_getElem? (i := 351) (by decide +kernel)) rfl
set_option maxRecDepth 100000 in
theorem wc_J0_coder_7d493 : Cond.code yJ0_coder_7d493 cJ0_coder_7d493 1 (some .byte) ∈ bq_tbl := bq_mem (List.mem_of_getElem? (i := 355) (by decide +kernel)) rfl
set_option maxRecDepth 100000 in
theorem wc_J1_indexOf_4cfef : Cond.code yJ1_indexOf_4cfef cJ1_indexOf_4cfef 4 (some .int) ∈ bq_tbl := bq_mem (List.mem_of_getElem? (i := 358) (by decide +kernel)) rfl
set_option maxRecDepth 100000 in
theorem wc_J1_canEncode_9a6ad : Cond.code yJ1_canEncode_9a6ad cJ1_canEncode_9a6ad 1 (some .boolean) ∈ bq_tbl := bq_mem (List.mem_of_getElem? (i := 361) (by decide +kernel)) rfl
set_option maxRecDepth 100000 in
theorem wc_J9_max_7cf53 : Cond.code yJ9_max_7cf53 cJ9_max_7cf53 2 (some .int) ∈ bq_tbl := bq_mem (List.mem_of_getElem? (i := 364) (by decide +kernel)) rfl
set_option maxRecDepth 100000 in
theorem wc_J1_indexOfChar_4cfef : Cond.code yJ1_indexOfChar_4cfef cJ1_indexOfChar_4cfef 6 (some .int) ∈ bq_tbl := bq_mem (List.mem_of_getElem? (i := 368) (by decide +kernel)) rfl
set_option maxRecDepth 100000 in
theorem wc_J2_indexOf_4cfef : Cond.code yJ2_indexOf_4cfef cJ2_indexOf_4cfef 4 (some .int) ∈ bq_tbl := bq_mem (List.mem_of_getElem? (i := 371) (by decide +kernel)) rfl
set_option maxRecDepth 100000 in
theorem wc_J2_indexOfChar_4cfef : Cond.code yJ2_indexOfChar_4cfef cJ2_indexOfChar_4cfef 4 (some .int) ∈ bq_tbl := bq_mem (List.mem_of_getElem? (i := 377) (by decide +kernel)) rfl
set_option maxRecDepth 100000 in
theorem wc_J2_checkBoundsBeginEnd_d044e : Cond.code yJ2_checkBoundsBeginEnd_d044e cJ2_checkBoundsBeginEnd_d044e 3 none ∈ bq_tbl := bq_mem (List.mem_of_getElem? (i := 380) (by decide +kernel)) rfl
set_option maxRecDepth 100000 in
theorem wc_J2_length_9d52b : Cond.code yJ2_length_9d52b cJ2_length_9d52b 1 (some .int) ∈ bq_tbl := bq_mem (List.mem_of_getElem? (i := 383) (by decide +kernel)) rfl
set_option maxRecDepth 100000 in
theorem wc_J0_checkBoundsBeginEnd_23922 : Cond.code yJ0_checkBoundsBeginEnd_23922 cJ0_checkBoundsBeginEnd_23922 3 none ∈ bq_tbl := bq_mem (List.mem_of_getElem? (i := 386) (by decide +kernel)) rfl
set_option maxRecDepth 100000 in
theorem wc_J3_checkFromToIndex_8c36e : Cond.code yJ3_checkFromToIndex_8c36e cJ3_checkFromToIndex_8c36e 4 (some .int) ∈ bq_tbl := bq_mem (List.mem_of_getElem? (i := 391) (by decide +kernel)) rfl
set_option maxRecDepth 100000 in
theorem wc_J2_indexOfCharUnsafe_4cfef : Cond.code yJ2_indexOfCharUnsafe_4cfef cJ2_indexOfCharUnsafe_4cfef 5 (some .int) ∈ bq_tbl := bq_mem (List.mem_of_getElem? (i := 394) (by decide +kernel)) rfl
set_option maxRecDepth 100000 in
theorem wc_J2_getChar_3b067 : Cond.code yJ2_getChar_3b067 cJ2_getChar_3b067 2 (some .char) ∈ bq_tbl := bq_mem (List.mem_of_getElem? (i := 397) (by decide +kernel)) rfl
set_option maxRecDepth 100000 in
theorem wc_J2_indexOfSupplementary_4cfef : Cond.code yJ2_indexOfSupplementary_4cfef cJ2_indexOfSupplementary_4cfef 7 (some .int) ∈ bq_tbl := bq_mem (List.mem_of_getElem? (i := 406) (by decide +kernel)) rfl
set_option maxRecDepth 100000 in
theorem wc_J11_isValidCodePoint_9a6ad : Cond.code yJ11_isValidCodePoint_9a6ad cJ11_isValidCodePoint_9a6ad 2 (some .boolean) ∈ bq_tbl := bq_mem (List.mem_of_getElem? (i := 409) (by decide +kernel)) rfl
set_option maxRecDepth 100000 in
theorem wc_J11_highSurrogate_5068e : Cond.code yJ11_highSurrogate_5068e cJ11_highSurrogate_5068e 1 (some .char) ∈ bq_tbl := bq_mem (List.mem_of_getElem? (i := 412) (by decide +kernel)) rfl
set_option maxRecDepth 100000 in
theorem wc_J11_lowSurrogate_5068e : Cond.code yJ11_lowSurrogate_5068e cJ11_lowSurrogate_5068e 1 (some .char) ∈ bq_tbl := bq_mem (List.mem_of_getElem? (i := 416) (by decide +kernel)) rfl
set_option maxRecDepth 100000 in
theorem wc_X7_isOneTooMany : Cond.code yX7_isOneTooMany cX7_isOneTooMany 3 (some .boolean) ∈ bq_tbl := bq_mem (List.mem_of_getElem? (i := 421) (by decide +kernel)) rfl
set_option maxRecDepth 100000 in
theorem wc_X8_bitOf : Cond.code yX8_bitOf cX8_bitOf 2 (some .int) ∈ bq_tbl := bq_mem (List.mem_of_getElem? (i := 424) (by decide +kernel)) rfl
set_option maxRecDepth 100000 in
theorem wc_X7_readItem : Cond.code yX7_readItem cX7_readItem 6 (some .boolean) ∈ bq_tbl := bq_mem (List.mem_of_getElem? (i := 428) (by decide +kernel)) rfl
set_option maxRecDepth 100000 in
theorem wc_X7_isWithin : Cond.code yX7_isWithin cX7_isWithin 2 (some .boolean) ∈ bq_tbl := bq_mem (List.mem_of_getElem? (i := 432) (by decide +kernel)) rfl
set_option maxRecDepth 100000 in
theorem wc_X0_tellBroom : Cond.code yX0_tellBroom cX0_tellBroom 4 none ∈ bq_tbl := bq_mem (List.mem_of_getElem? (i := 440) (by decide +kernel)) rfl
set_option maxRecDepth 100000 in
theorem wc_X5_place : Cond.code yX5_place cX5_place 5 none ∈ bq_tbl := bq_mem (List.mem_of_getElem? (i := 444) (by decide +kernel)) rfl
set_option maxRecDepth 100000 in
theorem wc_X0_tellSetting : Cond.code yX0_tellSetting cX0_tellSetting 3 none ∈ bq_tbl := bq_mem (List.mem_of_getElem? (i := 448) (by decide +kernel)) rfl
set_option maxRecDepth 100000 in
theorem wc_X0_begin : Cond.code yX0_begin cX0_begin 1 none ∈ bq_tbl := bq_mem (List.mem_of_getElem? (i := 452) (by decide +kernel)) rfl
set_option maxRecDepth 100000 in
theorem wc_X0_heightOf : Cond.code yX0_heightOf cX0_heightOf 3 (some .int) ∈ bq_tbl := bq_mem (List.mem_of_getElem? (i := 456) (by decide +kernel)) rfl
set_option maxRecDepth 100000 in
theorem wc_X0_copyFrom : Cond.code yX0_copyFrom cX0_copyFrom 3 none ∈ bq_tbl := bq_mem (List.mem_of_getElem? (i := 460) (by decide +kernel)) rfl
set_option maxRecDepth 100000 in
theorem wc_X5_copyFrom : Cond.code yX5_copyFrom cX5_copyFrom 3 none ∈ bq_tbl := bq_mem (List.mem_of_getElem? (i := 464) (by decide +kernel)) rfl
set_option maxRecDepth 100000 in
theorem wc_X8_broom : Cond.code yX8_broom cX8_broom 3 (some .int) ∈ bq_tbl := bq_mem (List.mem_of_getElem? (i := 470) (by decide +kernel)) rfl
set_option maxRecDepth 100000 in
theorem wc_X8_now : Cond.code yX8_now cX8_now 2 (some .int) ∈ bq_tbl := bq_mem (List.mem_of_getElem? (i := 475) (by decide +kernel)) rfl
set_option maxRecDepth 100000 in
theorem wc_X8_minute : Cond.code yX8_minute cX8_minute 2 (some .int) ∈ bq_tbl := bq_mem (List.mem_of_getElem? (i := 480) (by decide +kernel)) rfl
set_option maxRecDepth 100000 in
theorem wc_X6_remember : Cond.code yX6_remember cX6_remember 3 none ∈ bq_tbl := bq_mem (List.mem_of_getElem? (i := 484) (by decide +kernel)) rfl
set_option maxRecDepth 100000 in
theorem wc_J9_floorMod_7cf53 : Cond.code yJ9_floorMod_7cf53 cJ9_floorMod_7cf53 3 (some .int) ∈ bq_tbl := bq_mem (List.mem_of_getElem? (i := 487) (by decide +kernel)) rfl
set_option maxRecDepth 100000 in
theorem wc_X0_stairWidth : Cond.code yX0_stairWidth cX0_stairWidth 1 (some .int) ∈ bq_tbl := bq_mem (List.mem_of_getElem? (i := 493) (by decide +kernel)) rfl
set_option maxRecDepth 100000 in
theorem wc_X0_drainCups : Cond.code yX0_drainCups cX0_drainCups 1 (some .int) ∈ bq_tbl := bq_mem (List.mem_of_getElem? (i := 497) (by decide +kernel)) rfl
set_option maxRecDepth 100000 in
theorem wc_X5_pass : Cond.code yX5_pass cX5_pass 5 none ∈ bq_tbl := bq_mem (List.mem_of_getElem? (i := 501) (by decide +kernel)) rfl
set_option maxRecDepth 100000 in
theorem wc_X5_isThere : Cond.code yX5_isThere cX5_isThere 2 (some .boolean) ∈ bq_tbl := bq_mem (List.mem_of_getElem? (i := 505) (by decide +kernel)) rfl
set_option maxRecDepth 100000 in
theorem wc_X5_comes : Cond.code yX5_comes cX5_comes 2 none ∈ bq_tbl := bq_mem (List.mem_of_getElem? (i := 510) (by decide +kernel)) rfl
set_option maxRecDepth 100000 in
theorem wc_X5_loadOf : Cond.code yX5_loadOf cX5_loadOf 2 (some .int) ∈ bq_tbl := bq_mem (List.mem_of_getElem? (i := 514) (by decide +kernel)) rfl
set_option maxRecDepth 100000 in
theorem wc_X8_splits : Cond.code yX8_splits cX8_splits 2 (some .int) ∈ bq_tbl := bq_mem (List.mem_of_getElem? (i := 522) (by decide +kernel)) rfl
set_option maxRecDepth 100000 in
theorem wc_X5_canSplit : Cond.code yX5_canSplit cX5_canSplit 2 (some .boolean) ∈ bq_tbl := bq_mem (List.mem_of_getElem? (i := 527) (by decide +kernel)) rfl
set_option maxRecDepth 100000 in
theorem wc_X5_firstFree : Cond.code yX5_firstFree cX5_firstFree 2 (some .int) ∈ bq_tbl := bq_mem (List.mem_of_getElem? (i := 531) (by decide +kernel)) rfl
set_option maxRecDepth 100000 in
theorem wc_X5_split : Cond.code yX5_split cX5_split 3 (some .int) ∈ bq_tbl := bq_mem (List.mem_of_getElem? (i := 535) (by decide +kernel)) rfl
set_option maxRecDepth 100000 in
theorem wc_X5_alike : Cond.code yX5_alike cX5_alike 3 (some .int) ∈ bq_tbl := bq_mem (List.mem_of_getElem? (i := 540) (by decide +kernel)) rfl
set_option maxRecDepth 100000 in
theorem wc_X8_teaches : Cond.code yX8_teaches cX8_teaches 2 (some .int) ∈ bq_tbl := bq_mem (List.mem_of_getElem? (i := 544) (by decide +kernel)) rfl
set_option maxRecDepth 100000 in
theorem wc_X8_bores : Cond.code yX8_bores cX8_bores 2 (some .int) ∈ bq_tbl := bq_mem (List.mem_of_getElem? (i := 548) (by decide +kernel)) rfl
set_option maxRecDepth 100000 in
theorem wc_X8_burns : Cond.code yX8_burns cX8_burns 2 (some .int) ∈ bq_tbl := bq_mem (List.mem_of_getElem? (i := 552) (by decide +kernel)) rfl
set_option maxRecDepth 100000 in
theorem wc_X8_takeAway : Cond.code yX8_takeAway cX8_takeAway 2 (some .int) ∈ bq_tbl := bq_mem (List.mem_of_getElem? (i := 556) (by decide +kernel)) rfl
set_option maxRecDepth 100000 in
theorem wc_J6_bitCount_0f7a4 : Cond.code yJ6_bitCount_0f7a4 cJ6_bitCount_0f7a4 1 (some .int) ∈ bq_tbl := bq_mem (List.mem_of_getElem? (i := 559) (by decide +kernel)) rfl
set_option maxRecDepth 100000 in
theorem wc_X8_halts : Cond.code yX8_halts cX8_halts 2 (some .int) ∈ bq_tbl := bq_mem (List.mem_of_getElem? (i := 566) (by decide +kernel)) rfl
set_option maxRecDepth 100000 in
theorem wc_X8_undo : Cond.code yX8_undo cX8_undo 1 (some .int) ∈ bq_tbl := bq_mem (List.mem_of_getElem? (i := 570) (by decide +kernel)) rfl
set_option maxRecDepth 100000 in
theorem wc_X6_bringBack : Cond.code yX6_bringBack cX6_bringBack 3 none ∈ bq_tbl := bq_mem (List.mem_of_getElem? (i := 574) (by decide +kernel)) rfl
set_option maxRecDepth 100000 in
theorem wc_X8_stands : Cond.code yX8_stands cX8_stands 3 (some .int) ∈ bq_tbl := bq_mem (List.mem_of_getElem? (i := 578) (by decide +kernel)) rfl
set_option maxRecDepth 100000 in
theorem wc_X8_lookAhead : Cond.code yX8_lookAhead cX8_lookAhead 1 none ∈ bq_tbl := bq_mem (List.mem_of_getElem? (i := 582) (by decide +kernel)) rfl
set_option maxRecDepth 100000 in
theorem wc_X8_above : Cond.code yX8_above cX8_above 2 (some .int) ∈ bq_tbl := bq_mem (List.mem_of_getElem? (i := 586) (by decide +kernel)) rfl
set_option maxRecDepth 100000 in
theorem wc_X0_isAboveMark : Cond.code yX0_isAboveMark cX0_isAboveMark 2 (some .boolean) ∈ bq_tbl := bq_mem (List.mem_of_getElem? (i := 590) (by decide +kernel)) rfl
set_option maxRecDepth 100000 in
theorem wc_X8_most : Cond.code yX8_most cX8_most 4 (some .int) ∈ bq_tbl := bq_mem (List.mem_of_getElem? (i := 594) (by decide +kernel)) rfl
set_option maxRecDepth 100000 in
theorem wc_X8_teach : Cond.code yX8_teach cX8_teach 2 (some .int) ∈ bq_tbl := bq_mem (List.mem_of_getElem? (i := 598) (by decide +kernel)) rfl
set_option maxRecDepth 100000 in
theorem wc_X8_fewest : Cond.code yX8_fewest cX8_fewest 8 (some .int) ∈ bq_tbl := bq_mem (List.mem_of_getElem? (i := 602) (by decide +kernel)) rfl
set_option maxRecDepth 100000 in
theorem wc_X8_isPlanned : Cond.code yX8_isPlanned cX8_isPlanned 1 (some .boolean) ∈ bq_tbl := bq_mem (List.mem_of_getElem? (i := 605) (by decide +kernel)) rfl
set_option maxRecDepth 100000 in
theorem wc_X8_helps : Cond.code yX8_helps cX8_helps 4 (some .boolean) ∈ bq_tbl := bq_mem (List.mem_of_getElem? (i := 609) (by decide +kernel)) rfl
set_option maxRecDepth 100000 in
theorem wc_X8_staysAtMark : Cond.code yX8_staysAtMark cX8_staysAtMark 6 (some .boolean) ∈ bq_tbl := bq_mem (List.mem_of_getElem? (i := 613) (by decide +kernel)) rfl
set_option maxRecDepth 100000 in
theorem wc_X8_burn : Cond.code yX8_burn cX8_burn 2 (some .int) ∈ bq_tbl := bq_mem (List.mem_of_getElem? (i := 617) (by decide +kernel)) rfl
set_option maxRecDepth 100000 in
theorem wc_X8_stair : Cond.code yX8_stair cX8_stair 3 (some .int) ∈ bq_tbl := bq_mem (List.mem_of_getElem? (i := 621) (by decide +kernel)) rfl
set_option maxRecDepth 100000 in
theorem wc_X8_drain : Cond.code yX8_drain cX8_drain 3 (some .int) ∈ bq_tbl := bq_mem (List.mem_of_getElem? (i := 625) (by decide +kernel)) rfl
set_option maxRecDepth 100000 in
theorem wc_X8_flow : Cond.code yX8_flow cX8_flow 4 (some .long) ∈ bq_tbl := bq_mem (List.mem_of_getElem? (i := 629) (by decide +kernel)) rfl
set_option maxRecDepth 100000 in
theorem wc_X1_become : Cond.code yX1_become cX1_become 7 none ∈ bq_tbl := bq_mem (List.mem_of_getElem? (i := 634) (by decide +kernel)) rfl
set_option maxRecDepth 100000 in
theorem wc_J9_abs_067f4 : Cond.code yJ9_abs_067f4 cJ9_abs_067f4 2 (some .long) ∈ bq_tbl := bq_mem (List.mem_of_getElem? (i := 637) (by decide +kernel)) rfl
set_option maxRecDepth 100000 in
theorem wc_X1_commonDivisor : Cond.code yX1_commonDivisor cX1_commonDivisor 11 (some .long) ∈ bq_tbl := bq_mem (List.mem_of_getElem? (i := 640) (by decide +kernel)) rfl
set_option maxRecDepth 100000 in
theorem wc_X1_plus : Cond.code yX1_plus cX1_plus 5 none ∈ bq_tbl := bq_mem (List.mem_of_getElem? (i := 645) (by decide +kernel)) rfl
set_option maxRecDepth 100000 in
theorem wc_X1_part : Cond.code yX1_part cX1_part 2 (some .long) ∈ bq_tbl := bq_mem (List.mem_of_getElem? (i := 650) (by decide +kernel)) rfl
set_option maxRecDepth 100000 in
theorem wc_X8_splitOn : Cond.code yX8_splitOn cX8_splitOn 6 (some .int) ∈ bq_tbl := bq_mem (List.mem_of_getElem? (i := 654) (by decide +kernel)) rfl
set_option maxRecDepth 100000 in
theorem wc_X8_price : Cond.code yX8_price cX8_price 5 (some .int) ∈ bq_tbl := bq_mem (List.mem_of_getElem? (i := 658) (by decide +kernel)) rfl
set_option maxRecDepth 100000 in
theorem wc_X8_heard : Cond.code yX8_heard cX8_heard 4 (some .int) ∈ bq_tbl := bq_mem (List.mem_of_getElem? (i := 662) (by decide +kernel)) rfl
set_option maxRecDepth 100000 in
theorem wc_X8_measured : Cond.code yX8_measured cX8_measured 3 (some .int) ∈ bq_tbl := bq_mem (List.mem_of_getElem? (i := 666) (by decide +kernel)) rfl
set_option maxRecDepth 100000 in
theorem wc_X4_add : Cond.code yX4_add cX4_add 3 (some .boolean) ∈ bq_tbl := bq_mem (List.mem_of_getElem? (i := 671) (by decide +kernel)) rfl
set_option maxRecDepth 100000 in
theorem wc_X8_forget : Cond.code yX8_forget cX8_forget 2 (some .int) ∈ bq_tbl := bq_mem (List.mem_of_getElem? (i := 675) (by decide +kernel)) rfl
set_option maxRecDepth 100000 in
theorem wc_X8_splitFirst : Cond.code yX8_splitFirst cX8_splitFirst 3 (some .int) ∈ bq_tbl := bq_mem (List.mem_of_getElem? (i := 679) (by decide +kernel)) rfl
set_option maxRecDepth 100000 in
theorem wc_X8_isAsMeasured : Cond.code yX8_isAsMeasured cX8_isAsMeasured 3 (some .boolean) ∈ bq_tbl := bq_mem (List.mem_of_getElem? (i := 683) (by decide +kernel)) rfl
set_option maxRecDepth 100000 in
theorem wc_X4_allowWater : Cond.code yX4_allowWater cX4_allowWater 4 (some .boolean) ∈ bq_tbl := bq_mem (List.mem_of_getElem? (i := 687) (by decide +kernel)) rfl
set_option maxRecDepth 100000 in
theorem wc_X8_odds : Cond.code yX8_odds cX8_odds 12 (some .int) ∈ bq_tbl := bq_mem (List.mem_of_getElem? (i := 691) (by decide +kernel)) rfl
set_option maxRecDepth 100000 in
theorem wc_X5_comings : Cond.code yX5_comings cX5_comings 4 (some .int) ∈ bq_tbl := bq_mem (List.mem_of_getElem? (i := 695) (by decide +kernel)) rfl
set_option maxRecDepth 100000 in
theorem wc_X8_countWays : Cond.code yX8_countWays cX8_countWays 7 (some .long) ∈ bq_tbl := bq_mem (List.mem_of_getElem? (i := 700) (by decide +kernel)) rfl
set_option maxRecDepth 100000 in
theorem wc_X8_rate : Cond.code yX8_rate cX8_rate 4 (some .int) ∈ bq_tbl := bq_mem (List.mem_of_getElem? (i := 705) (by decide +kernel)) rfl
set_option maxRecDepth 100000 in
theorem wc_X2_asBroom : Cond.code yX2_asBroom cX2_asBroom 2 (some .int) ∈ bq_tbl := bq_mem (List.mem_of_getElem? (i := 709) (by decide +kernel)) rfl
set_option maxRecDepth 100000 in
theorem wc_X2_asWet : Cond.code yX2_asWet cX2_asWet 3 (some .int) ∈ bq_tbl := bq_mem (List.mem_of_getElem? (i := 713) (by decide +kernel)) rfl
set_option maxRecDepth 100000 in
theorem wc_X2_asHalf : Cond.code yX2_asHalf cX2_asHalf 3 (some .int) ∈ bq_tbl := bq_mem (List.mem_of_getElem? (i := 719) (by decide +kernel)) rfl
set_option maxRecDepth 100000 in
theorem wc_X2_asBored : Cond.code yX2_asBored cX2_asBored 3 (some .int) ∈ bq_tbl := bq_mem (List.mem_of_getElem? (i := 724) (by decide +kernel)) rfl
set_option maxRecDepth 100000 in
theorem wc_X2_asBurning : Cond.code yX2_asBurning cX2_asBurning 4 (some .int) ∈ bq_tbl := bq_mem (List.mem_of_getElem? (i := 730) (by decide +kernel)) rfl
set_option maxRecDepth 100000 in
theorem wc_X2_asTeaching : Cond.code yX2_asTeaching cX2_asTeaching 3 (some .int) ∈ bq_tbl := bq_mem (List.mem_of_getElem? (i := 736) (by decide +kernel)) rfl
set_option maxRecDepth 100000 in
theorem wc_X8_keep : Cond.code yX8_keep cX8_keep 3 (some .int) ∈ bq_tbl := bq_mem (List.mem_of_getElem? (i := 741) (by decide +kernel)) rfl
set_option maxRecDepth 100000 in
theorem wc_X8_back : Cond.code yX8_back cX8_back 3 (some .int) ∈ bq_tbl := bq_mem (List.mem_of_getElem? (i := 745) (by decide +kernel)) rfl
set_option maxRecDepth 100000 in
theorem wc_X8_count : Cond.code yX8_count cX8_count 2 (some .int) ∈ bq_tbl := bq_mem (List.mem_of_getElem? (i := 749) (by decide +kernel)) rfl
set_option maxRecDepth 100000 in
theorem wc_X8_trace : Cond.code yX8_trace cX8_trace 1 (some .long) ∈ bq_tbl := bq_mem (List.mem_of_getElem? (i := 753) (by decide +kernel)) rfl
set_option maxRecDepth 100000 in
theorem wc_X9_init : Cond.code yX9_init cX9_init 1 none ∈ bq_tbl := bq_mem (List.mem_of_getElem? (i := 758) (by decide +kernel)) rfl
set_option maxRecDepth 100000 in
theorem wc_X9_reads : Cond.code yX9_reads cX9_reads 2 (some .boolean) ∈ bq_tbl := bq_mem (List.mem_of_getElem? (i := 763) (by decide +kernel)) rfl
set_option maxRecDepth 100000 in
theorem wc_X9_token : Cond.code yX9_token cX9_token 2 none ∈ bq_tbl := bq_mem (List.mem_of_getElem? (i := 767) (by decide +kernel)) rfl
set_option maxRecDepth 100000 in
theorem wc_X9_letterAt : Cond.code yX9_letterAt cX9_letterAt 2 (some .int) ∈ bq_tbl := bq_mem (List.mem_of_getElem? (i := 771) (by decide +kernel)) rfl
set_option maxRecDepth 100000 in
theorem wc_X9_itemOf : Cond.code yX9_itemOf cX9_itemOf 1 (some .int) ∈ bq_tbl := bq_mem (List.mem_of_getElem? (i := 774) (by decide +kernel)) rfl
set_option maxRecDepth 100000 in
theorem wc_X9_isDigit : Cond.code yX9_isDigit cX9_isDigit 1 (some .boolean) ∈ bq_tbl := bq_mem (List.mem_of_getElem? (i := 777) (by decide +kernel)) rfl
set_option maxRecDepth 100000 in
theorem wc_X9_in : Cond.code yX9_in cX9_in 3 (some .boolean) ∈ bq_tbl := bq_mem (List.mem_of_getElem? (i := 780) (by decide +kernel)) rfl
set_option maxRecDepth 100000 in
theorem wc_X9_readsItem : Cond.code yX9_readsItem cX9_readsItem 4 (some .boolean) ∈ bq_tbl := bq_mem (List.mem_of_getElem? (i := 784) (by decide +kernel)) rfl
set_option maxRecDepth 100000 in
theorem wc_X9_number : Cond.code yX9_number cX9_number 4 (some .boolean) ∈ bq_tbl := bq_mem (List.mem_of_getElem? (i := 788) (by decide +kernel)) rfl
set_option maxRecDepth 100000 in
theorem wc_X9_tells : Cond.code yX9_tells cX9_tells 2 none ∈ bq_tbl := bq_mem (List.mem_of_getElem? (i := 792) (by decide +kernel)) rfl
set_option maxRecDepth 100000 in
theorem wc_X9_begins : Cond.code yX9_begins cX9_begins 2 none ∈ bq_tbl := bq_mem (List.mem_of_getElem? (i := 796) (by decide +kernel)) rfl
set_option maxRecDepth 100000 in
theorem wc_X9_high : Cond.code yX9_high cX9_high 1 (some .int) ∈ bq_tbl := bq_mem (List.mem_of_getElem? (i := 800) (by decide +kernel)) rfl
set_option maxRecDepth 100000 in
theorem wc_X9_type : Cond.code yX9_type cX9_type 2 (some .int) ∈ bq_tbl := bq_mem (List.mem_of_getElem? (i := 865) (by decide +kernel)) rfl
set_option maxRecDepth 100000 in
theorem wc_X9_clear : Cond.code yX9_clear cX9_clear 2 (some .int) ∈ bq_tbl := bq_mem (List.mem_of_getElem? (i := 869) (by decide +kernel)) rfl
set_option maxRecDepth 100000 in
theorem wc_X9_cellar : Cond.code yX9_cellar cX9_cellar 1 (some .int) ∈ bq_tbl := bq_mem (List.mem_of_getElem? (i := 873) (by decide +kernel)) rfl
set_option maxRecDepth 100000 in
theorem wc_X9_broom : Cond.code yX9_broom cX9_broom 3 (some .int) ∈ bq_tbl := bq_mem (List.mem_of_getElem? (i := 877) (by decide +kernel)) rfl
set_option maxRecDepth 100000 in
theorem wc_X9_isNumber : Cond.code yX9_isNumber cX9_isNumber 1 (some .boolean) ∈ bq_tbl := bq_mem (List.mem_of_getElem? (i := 880) (by decide +kernel)) rfl
set_option maxRecDepth 100000 in
theorem wc_X9_now : Cond.code yX9_now cX9_now 2 (some .int) ∈ bq_tbl := bq_mem (List.mem_of_getElem? (i := 884) (by decide +kernel)) rfl
set_option maxRecDepth 100000 in
theorem wc_X9_there : Cond.code yX9_there cX9_there 3 (some .int) ∈ bq_tbl := bq_mem (List.mem_of_getElem? (i := 888) (by decide +kernel)) rfl
set_option maxRecDepth 100000 in
theorem wc_X9_minute : Cond.code yX9_minute cX9_minute 1 (some .int) ∈ bq_tbl := bq_mem (List.mem_of_getElem? (i := 892) (by decide +kernel)) rfl
set_option maxRecDepth 100000 in
theorem wc_X9_keeps : Cond.code yX9_keeps cX9_keeps 2 none ∈ bq_tbl := bq_mem (List.mem_of_getElem? (i := 896) (by decide +kernel)) rfl
set_option maxRecDepth 100000 in
theorem wc_X9_asTold : Cond.code yX9_asTold cX9_asTold 1 none ∈ bq_tbl := bq_mem (List.mem_of_getElem? (i := 900) (by decide +kernel)) rfl
set_option maxRecDepth 100000 in
theorem wc_X9_goes : Cond.code yX9_goes cX9_goes 5 (some .int) ∈ bq_tbl := bq_mem (List.mem_of_getElem? (i := 904) (by decide +kernel)) rfl
set_option maxRecDepth 100000 in
theorem wc_X9_carries : Cond.code yX9_carries cX9_carries 2 (some .int) ∈ bq_tbl := bq_mem (List.mem_of_getElem? (i := 908) (by decide +kernel)) rfl
set_option maxRecDepth 100000 in
theorem wc_X9_splits : Cond.code yX9_splits cX9_splits 2 (some .int) ∈ bq_tbl := bq_mem (List.mem_of_getElem? (i := 913) (by decide +kernel)) rfl
set_option maxRecDepth 100000 in
theorem wc_X9_isThere : Cond.code yX9_isThere cX9_isThere 2 (some .boolean) ∈ bq_tbl := bq_mem (List.mem_of_getElem? (i := 917) (by decide +kernel)) rfl
set_option maxRecDepth 100000 in
theorem wc_X9_canSplit : Cond.code yX9_canSplit cX9_canSplit 2 (some .boolean) ∈ bq_tbl := bq_mem (List.mem_of_getElem? (i := 921) (by decide +kernel)) rfl
set_option maxRecDepth 100000 in
theorem wc_X9_free : Cond.code yX9_free cX9_free 3 (some .int) ∈ bq_tbl := bq_mem (List.mem_of_getElem? (i := 925) (by decide +kernel)) rfl
set_option maxRecDepth 100000 in
theorem wc_X9_splitsNow : Cond.code yX9_splitsNow cX9_splitsNow 4 (some .int) ∈ bq_tbl := bq_mem (List.mem_of_getElem? (i := 929) (by decide +kernel)) rfl
set_option maxRecDepth 100000 in
theorem wc_X9_teaches : Cond.code yX9_teaches cX9_teaches 2 (some .int) ∈ bq_tbl := bq_mem (List.mem_of_getElem? (i := 933) (by decide +kernel)) rfl
set_option maxRecDepth 100000 in
theorem wc_X9_bores : Cond.code yX9_bores cX9_bores 2 (some .int) ∈ bq_tbl := bq_mem (List.mem_of_getElem? (i := 937) (by decide +kernel)) rfl
set_option maxRecDepth 100000 in
theorem wc_X9_burns : Cond.code yX9_burns cX9_burns 2 (some .int) ∈ bq_tbl := bq_mem (List.mem_of_getElem? (i := 941) (by decide +kernel)) rfl
set_option maxRecDepth 100000 in
theorem wc_X9_ones : Cond.code yX9_ones cX9_ones 3 (some .int) ∈ bq_tbl := bq_mem (List.mem_of_getElem? (i := 944) (by decide +kernel)) rfl
set_option maxRecDepth 100000 in
theorem wc_X9_halts : Cond.code yX9_halts cX9_halts 2 (some .int) ∈ bq_tbl := bq_mem (List.mem_of_getElem? (i := 948) (by decide +kernel)) rfl
set_option maxRecDepth 100000 in
theorem wc_X9_undo : Cond.code yX9_undo cX9_undo 2 (some .int) ∈ bq_tbl := bq_mem (List.mem_of_getElem? (i := 952) (by decide +kernel)) rfl
set_option maxRecDepth 100000 in
theorem wc_X9_stands : Cond.code yX9_stands cX9_stands 3 (some .int) ∈ bq_tbl := bq_mem (List.mem_of_getElem? (i := 956) (by decide +kernel)) rfl
set_option maxRecDepth 100000 in
theorem wc_X9_holds : Cond.code yX9_holds cX9_holds 2 none ∈ bq_tbl := bq_mem (List.mem_of_getElem? (i := 960) (by decide +kernel)) rfl
set_option maxRecDepth 100000 in
theorem wc_X9_lets : Cond.code yX9_lets cX9_lets 2 none ∈ bq_tbl := bq_mem (List.mem_of_getElem? (i := 964) (by decide +kernel)) rfl
set_option maxRecDepth 100000 in
theorem wc_X9_above : Cond.code yX9_above cX9_above 3 (some .int) ∈ bq_tbl := bq_mem (List.mem_of_getElem? (i := 968) (by decide +kernel)) rfl
set_option maxRecDepth 100000 in
theorem wc_X9_most : Cond.code yX9_most cX9_most 3 (some .int) ∈ bq_tbl := bq_mem (List.mem_of_getElem? (i := 972) (by decide +kernel)) rfl
set_option maxRecDepth 100000 in
theorem wc_X9_highest : Cond.code yX9_highest cX9_highest 4 (some .int) ∈ bq_tbl := bq_mem (List.mem_of_getElem? (i := 976) (by decide +kernel)) rfl
set_option maxRecDepth 100000 in
theorem wc_X9_teach : Cond.code yX9_teach cX9_teach 2 (some .int) ∈ bq_tbl := bq_mem (List.mem_of_getElem? (i := 980) (by decide +kernel)) rfl
set_option maxRecDepth 100000 in
theorem wc_X9_fewest : Cond.code yX9_fewest cX9_fewest 8 (some .int) ∈ bq_tbl := bq_mem (List.mem_of_getElem? (i := 984) (by decide +kernel)) rfl
set_option maxRecDepth 100000 in
theorem wc_X9_burn : Cond.code yX9_burn cX9_burn 2 (some .int) ∈ bq_tbl := bq_mem (List.mem_of_getElem? (i := 988) (by decide +kernel)) rfl
set_option maxRecDepth 100000 in
theorem wc_X9_stair : Cond.code yX9_stair cX9_stair 4 (some .int) ∈ bq_tbl := bq_mem (List.mem_of_getElem? (i := 992) (by decide +kernel)) rfl
set_option maxRecDepth 100000 in
theorem wc_X9_drain : Cond.code yX9_drain cX9_drain 4 (some .int) ∈ bq_tbl := bq_mem (List.mem_of_getElem? (i := 996) (by decide +kernel)) rfl
set_option maxRecDepth 100000 in
theorem wc_X9_flow : Cond.code yX9_flow cX9_flow 13 (some .long) ∈ bq_tbl := bq_mem (List.mem_of_getElem? (i := 1000) (by decide +kernel)) rfl
set_option maxRecDepth 100000 in
theorem wc_X9_common : Cond.code yX9_common cX9_common 10 (some .long) ∈ bq_tbl := bq_mem (List.mem_of_getElem? (i := 1004) (by decide +kernel)) rfl
set_option maxRecDepth 100000 in
theorem wc_X9_splitOn : Cond.code yX9_splitOn cX9_splitOn 6 (some .int) ∈ bq_tbl := bq_mem (List.mem_of_getElem? (i := 1008) (by decide +kernel)) rfl
set_option maxRecDepth 100000 in
theorem wc_X9_price : Cond.code yX9_price cX9_price 5 (some .int) ∈ bq_tbl := bq_mem (List.mem_of_getElem? (i := 1012) (by decide +kernel)) rfl
set_option maxRecDepth 100000 in
theorem wc_X9_heard : Cond.code yX9_heard cX9_heard 6 (some .int) ∈ bq_tbl := bq_mem (List.mem_of_getElem? (i := 1016) (by decide +kernel)) rfl
set_option maxRecDepth 100000 in
theorem wc_X9_measured : Cond.code yX9_measured cX9_measured 3 (some .int) ∈ bq_tbl := bq_mem (List.mem_of_getElem? (i := 1020) (by decide +kernel)) rfl
set_option maxRecDepth 100000 in
theorem wc_X9_forget : Cond.code yX9_forget cX9_forget 2 (some .int) ∈ bq_tbl := bq_mem (List.mem_of_getElem? (i := 1024) (by decide +kernel)) rfl
set_option maxRecDepth 100000 in
theorem wc_X9_splitFirst : Cond.code yX9_splitFirst cX9_splitFirst 3 (some .int) ∈ bq_tbl := bq_mem (List.mem_of_getElem? (i := 1028) (by decide +kernel)) rfl
set_option maxRecDepth 100000 in
theorem wc_X9_isSo : Cond.code yX9_isSo cX9_isSo 4 (some .boolean) ∈ bq_tbl := bq_mem (List.mem_of_getElem? (i := 1032) (by decide +kernel)) rfl
set_option maxRecDepth 100000 in
theorem wc_X9_odds : Cond.code yX9_odds cX9_odds 15 (some .int) ∈ bq_tbl := bq_mem (List.mem_of_getElem? (i := 1036) (by decide +kernel)) rfl
set_option maxRecDepth 100000 in
theorem wc_X9_rate : Cond.code yX9_rate cX9_rate 6 (some .int) ∈ bq_tbl := bq_mem (List.mem_of_getElem? (i := 1041) (by decide +kernel)) rfl
set_option maxRecDepth 100000 in
theorem wc_X9_keep : Cond.code yX9_keep cX9_keep 3 (some .int) ∈ bq_tbl := bq_mem (List.mem_of_getElem? (i := 1050) (by decide +kernel)) rfl
set_option maxRecDepth 100000 in
theorem wc_X9_back : Cond.code yX9_back cX9_back 3 (some .int) ∈ bq_tbl := bq_mem (List.mem_of_getElem? (i := 1054) (by decide +kernel)) rfl
set_option maxRecDepth 100000 in
theorem wc_X9_count : Cond.code yX9_count cX9_count 2 (some .int) ∈ bq_tbl := bq_mem (List.mem_of_getElem? (i := 1058) (by decide +kernel)) rfl
set_option maxRecDepth 100000 in
theorem wc_X9_trace : Cond.code yX9_trace cX9_trace 1 (some .long) ∈ bq_tbl := bq_mem (List.mem_of_getElem? (i := 1062) (by decide +kernel)) rfl
set_option maxRecDepth 100000 in
theorem wn_X8_init : Cond.instanceMethod yX8_init ∈ bq_tbl := bq_mem (List.mem_of_getElem? (i := 57) (by decide +kernel)) rfl
set_option maxRecDepth 100000 in
theorem wn_X3_init : Cond.instanceMethod yX3_init ∈ bq_tbl := bq_mem (List.mem_of_getElem? (i := 65) (by decide +kernel)) rfl
set_option maxRecDepth 100000 in
theorem wn_X7_init : Cond.instanceMethod yX7_init ∈ bq_tbl := bq_mem (List.mem_of_getElem? (i := 80) (by decide +kernel)) rfl
set_option maxRecDepth 100000 in
theorem wn_X0_init : Cond.instanceMethod yX0_init ∈ bq_tbl := bq_mem (List.mem_of_getElem? (i := 105) (by decide +kernel)) rfl
set_option maxRecDepth 100000 in
theorem wn_X5_init : Cond.instanceMethod yX5_init ∈ bq_tbl := bq_mem (List.mem_of_getElem? (i := 111) (by decide +kernel)) rfl
set_option maxRecDepth 100000 in
theorem wn_X0_tellNothing : Cond.instanceMethod yX0_tellNothing ∈ bq_tbl := bq_mem (List.mem_of_getElem? (i := 166) (by decide +kernel)) rfl
set_option maxRecDepth 100000 in
theorem wn_X5_empty : Cond.instanceMethod yX5_empty ∈ bq_tbl := bq_mem (List.mem_of_getElem? (i := 172) (by decide +kernel)) rfl
set_option maxRecDepth 100000 in
theorem wn_X6_init : Cond.instanceMethod yX6_init ∈ bq_tbl := bq_mem (List.mem_of_getElem? (i := 194) (by decide +kernel)) rfl
set_option maxRecDepth 100000 in
theorem wn_X4_init : Cond.instanceMethod yX4_init ∈ bq_tbl := bq_mem (List.mem_of_getElem? (i := 214) (by decide +kernel)) rfl
set_option maxRecDepth 100000 in
theorem wn_X1_init : Cond.instanceMethod yX1_init ∈ bq_tbl := bq_mem (List.mem_of_getElem? (i := 232) (by decide +kernel)) rfl
set_option maxRecDepth 100000 in
theorem wn_X2_init : Cond.instanceMethod yX2_init ∈ bq_tbl := bq_mem (List.mem_of_getElem? (i := 245) (by decide +kernel)) rfl
set_option maxRecDepth 100000 in
theorem wn_X8_type : Cond.instanceMethod yX8_type ∈ bq_tbl := bq_mem (List.mem_of_getElem? (i := 295) (by decide +kernel)) rfl
set_option maxRecDepth 100000 in
theorem wn_X3_add : Cond.instanceMethod yX3_add ∈ bq_tbl := bq_mem (List.mem_of_getElem? (i := 299) (by decide +kernel)) rfl
set_option maxRecDepth 100000 in
theorem wn_X8_clear : Cond.instanceMethod yX8_clear ∈ bq_tbl := bq_mem (List.mem_of_getElem? (i := 303) (by decide +kernel)) rfl
set_option maxRecDepth 100000 in
theorem wn_X8_cellar : Cond.instanceMethod yX8_cellar ∈ bq_tbl := bq_mem (List.mem_of_getElem? (i := 307) (by decide +kernel)) rfl
set_option maxRecDepth 100000 in
theorem wn_X7_read : Cond.instanceMethod yX7_read ∈ bq_tbl := bq_mem (List.mem_of_getElem? (i := 311) (by decide +kernel)) rfl
set_option maxRecDepth 100000 in
theorem wn_X7_step : Cond.instanceMethod yX7_step ∈ bq_tbl := bq_mem (List.mem_of_getElem? (i := 317) (by decide +kernel)) rfl
set_option maxRecDepth 100000 in
theorem wn_X3_at : Cond.instanceMethod yX3_at ∈ bq_tbl := bq_mem (List.mem_of_getElem? (i := 320) (by decide +kernel)) rfl
set_option maxRecDepth 100000 in
theorem wn_X7_stepOverNumber : Cond.instanceMethod yX7_stepOverNumber ∈ bq_tbl := bq_mem (List.mem_of_getElem? (i := 328) (by decide +kernel)) rfl
set_option maxRecDepth 100000 in
theorem wn_J0_indexOf_0f7a4 : Cond.instanceMethod yJ0_indexOf_0f7a4 ∈ bq_tbl := bq_mem (List.mem_of_getElem? (i := 335) (by decide +kernel)) rfl
set_option maxRecDepth 100000 in
theorem wn_J0_indexOf_7cf53 : Cond.instanceMethod yJ0_indexOf_7cf53 ∈ bq_tbl := bq_mem (List.mem_of_getElem? (i := 339) (by decide +kernel)) rfl
set_option maxRecDepth 100000 in
theorem wn_J0_isLatin1_aae02 : Cond.instanceMethod yJ0_isLatin1_aae02 ∈ bq_tbl := bq_mem (List.mem_of_getElem? (i := 343) (by decide +kernel)) rfl
set_option maxRecDepth 100000 in
theorem wn_J0_length_8abf5 : Cond.instanceMethod yJ0_length_8abf5 ∈ bq_tbl := bq_mem (List.mem_of_getElem? (i := 349) (by decide +kernel)) rfl
set_option maxRecDepth 100000 in
theorem wn_J0_coder_7d493 : Cond.instanceMethod yJ0_coder_7d493 ∈ bq_tbl := bq_mem (List.mem_of_getElem? (i := 353) (by decide +kernel)) rfl
set_option maxRecDepth 100000 in
theorem wn_X7_isOneTooMany : Cond.instanceMethod yX7_isOneTooMany ∈ bq_tbl := bq_mem (List.mem_of_getElem? (i := 420) (by decide +kernel)) rfl
set_option maxRecDepth 100000 in
theorem wn_X7_readItem : Cond.instanceMethod yX7_readItem ∈ bq_tbl := bq_mem (List.mem_of_getElem? (i := 427) (by decide +kernel)) rfl
set_option maxRecDepth 100000 in
theorem wn_X7_isWithin : Cond.instanceMethod yX7_isWithin ∈ bq_tbl := bq_mem (List.mem_of_getElem? (i := 431) (by decide +kernel)) rfl
set_option maxRecDepth 100000 in
theorem wn_X0_tellBroom : Cond.instanceMethod yX0_tellBroom ∈ bq_tbl := bq_mem (List.mem_of_getElem? (i := 438) (by decide +kernel)) rfl
set_option maxRecDepth 100000 in
theorem wn_X5_place : Cond.instanceMethod yX5_place ∈ bq_tbl := bq_mem (List.mem_of_getElem? (i := 442) (by decide +kernel)) rfl
set_option maxRecDepth 100000 in
theorem wn_X0_tellSetting : Cond.instanceMethod yX0_tellSetting ∈ bq_tbl := bq_mem (List.mem_of_getElem? (i := 446) (by decide +kernel)) rfl
set_option maxRecDepth 100000 in
theorem wn_X0_begin : Cond.instanceMethod yX0_begin ∈ bq_tbl := bq_mem (List.mem_of_getElem? (i := 450) (by decide +kernel)) rfl
set_option maxRecDepth 100000 in
theorem wn_X0_heightOf : Cond.instanceMethod yX0_heightOf ∈ bq_tbl := bq_mem (List.mem_of_getElem? (i := 454) (by decide +kernel)) rfl
set_option maxRecDepth 100000 in
theorem wn_X0_copyFrom : Cond.instanceMethod yX0_copyFrom ∈ bq_tbl := bq_mem (List.mem_of_getElem? (i := 458) (by decide +kernel)) rfl
set_option maxRecDepth 100000 in
theorem wn_X5_copyFrom : Cond.instanceMethod yX5_copyFrom ∈ bq_tbl := bq_mem (List.mem_of_getElem? (i := 462) (by decide +kernel)) rfl
set_option maxRecDepth 100000 in
theorem wn_X8_broom : Cond.instanceMethod yX8_broom ∈ bq_tbl := bq_mem (List.mem_of_getElem? (i := 468) (by decide +kernel)) rfl
set_option maxRecDepth 100000 in
theorem wn_X8_now : Cond.instanceMethod yX8_now ∈ bq_tbl := bq_mem (List.mem_of_getElem? (i := 473) (by decide +kernel)) rfl
set_option maxRecDepth 100000 in
theorem wn_X8_minute : Cond.instanceMethod yX8_minute ∈ bq_tbl := bq_mem (List.mem_of_getElem? (i := 478) (by decide +kernel)) rfl
set_option maxRecDepth 100000 in
theorem wn_X6_remember : Cond.instanceMethod yX6_remember ∈ bq_tbl := bq_mem (List.mem_of_getElem? (i := 482) (by decide +kernel)) rfl
set_option maxRecDepth 100000 in
theorem wn_X0_stairWidth : Cond.instanceMethod yX0_stairWidth ∈ bq_tbl := bq_mem (List.mem_of_getElem? (i := 491) (by decide +kernel)) rfl
set_option maxRecDepth 100000 in
theorem wn_X0_drainCups : Cond.instanceMethod yX0_drainCups ∈ bq_tbl := bq_mem (List.mem_of_getElem? (i := 495) (by decide +kernel)) rfl
set_option maxRecDepth 100000 in
theorem wn_X5_pass : Cond.instanceMethod yX5_pass ∈ bq_tbl := bq_mem (List.mem_of_getElem? (i := 499) (by decide +kernel)) rfl
set_option maxRecDepth 100000 in
theorem wn_X5_isThere : Cond.instanceMethod yX5_isThere ∈ bq_tbl := bq_mem (List.mem_of_getElem? (i := 503) (by decide +kernel)) rfl
set_option maxRecDepth 100000 in
theorem wn_X5_comes : Cond.instanceMethod yX5_comes ∈ bq_tbl := bq_mem (List.mem_of_getElem? (i := 509) (by decide +kernel)) rfl
set_option maxRecDepth 100000 in
theorem wn_X5_loadOf : Cond.instanceMethod yX5_loadOf ∈ bq_tbl := bq_mem (List.mem_of_getElem? (i := 512) (by decide +kernel)) rfl
set_option maxRecDepth 100000 in
theorem wn_X8_splits : Cond.instanceMethod yX8_splits ∈ bq_tbl := bq_mem (List.mem_of_getElem? (i := 520) (by decide +kernel)) rfl
set_option maxRecDepth 100000 in
theorem wn_X5_canSplit : Cond.instanceMethod yX5_canSplit ∈ bq_tbl := bq_mem (List.mem_of_getElem? (i := 525) (by decide +kernel)) rfl
set_option maxRecDepth 100000 in
theorem wn_X5_firstFree : Cond.instanceMethod yX5_firstFree ∈ bq_tbl := bq_mem (List.mem_of_getElem? (i := 530) (by decide +kernel)) rfl
set_option maxRecDepth 100000 in
theorem wn_X5_split : Cond.instanceMethod yX5_split ∈ bq_tbl := bq_mem (List.mem_of_getElem? (i := 533) (by decide +kernel)) rfl
set_option maxRecDepth 100000 in
theorem wn_X8_teaches : Cond.instanceMethod yX8_teaches ∈ bq_tbl := bq_mem (List.mem_of_getElem? (i := 542) (by decide +kernel)) rfl
set_option maxRecDepth 100000 in
theorem wn_X8_bores : Cond.instanceMethod yX8_bores ∈ bq_tbl := bq_mem (List.mem_of_getElem? (i := 546) (by decide +kernel)) rfl
set_option maxRecDepth 100000 in
theorem wn_X8_burns : Cond.instanceMethod yX8_burns ∈ bq_tbl := bq_mem (List.mem_of_getElem? (i := 550) (by decide +kernel)) rfl
set_option maxRecDepth 100000 in
theorem wn_X8_takeAway : Cond.instanceMethod yX8_takeAway ∈ bq_tbl := bq_mem (List.mem_of_getElem? (i := 555) (by decide +kernel)) rfl
set_option maxRecDepth 100000 in
theorem wn_X8_halts : Cond.instanceMethod yX8_halts ∈ bq_tbl := bq_mem (List.mem_of_getElem? (i := 564) (by decide +kernel)) rfl
set_option maxRecDepth 100000 in
theorem wn_X8_undo : Cond.instanceMethod yX8_undo ∈ bq_tbl := bq_mem (List.mem_of_getElem? (i := 568) (by decide +kernel)) rfl
set_option maxRecDepth 100000 in
theorem wn_X6_bringBack : Cond.instanceMethod yX6_bringBack ∈ bq_tbl := bq_mem (List.mem_of_getElem? (i := 572) (by decide +kernel)) rfl
set_option maxRecDepth 100000 in
theorem wn_X8_stands : Cond.instanceMethod yX8_stands ∈ bq_tbl := bq_mem (List.mem_of_getElem? (i := 576) (by decide +kernel)) rfl
set_option maxRecDepth 100000 in
theorem wn_X8_lookAhead : Cond.instanceMethod yX8_lookAhead ∈ bq_tbl := bq_mem (List.mem_of_getElem? (i := 581) (by decide +kernel)) rfl
set_option maxRecDepth 100000 in
theorem wn_X8_above : Cond.instanceMethod yX8_above ∈ bq_tbl := bq_mem (List.mem_of_getElem? (i := 584) (by decide +kernel)) rfl
set_option maxRecDepth 100000 in
theorem wn_X0_isAboveMark : Cond.instanceMethod yX0_isAboveMark ∈ bq_tbl := bq_mem (List.mem_of_getElem? (i := 588) (by decide +kernel)) rfl
set_option maxRecDepth 100000 in
theorem wn_X8_most : Cond.instanceMethod yX8_most ∈ bq_tbl := bq_mem (List.mem_of_getElem? (i := 592) (by decide +kernel)) rfl
set_option maxRecDepth 100000 in
theorem wn_X8_teach : Cond.instanceMethod yX8_teach ∈ bq_tbl := bq_mem (List.mem_of_getElem? (i := 596) (by decide +kernel)) rfl
set_option maxRecDepth 100000 in
theorem wn_X8_fewest : Cond.instanceMethod yX8_fewest ∈ bq_tbl := bq_mem (List.mem_of_getElem? (i := 601) (by decide +kernel)) rfl
set_option maxRecDepth 100000 in
theorem wn_X8_helps : Cond.instanceMethod yX8_helps ∈ bq_tbl := bq_mem (List.mem_of_getElem? (i := 608) (by decide +kernel)) rfl
set_option maxRecDepth 100000 in
theorem wn_X8_staysAtMark : Cond.instanceMethod yX8_staysAtMark ∈ bq_tbl := bq_mem (List.mem_of_getElem? (i := 612) (by decide +kernel)) rfl
set_option maxRecDepth 100000 in
theorem wn_X8_burn : Cond.instanceMethod yX8_burn ∈ bq_tbl := bq_mem (List.mem_of_getElem? (i := 615) (by decide +kernel)) rfl
set_option maxRecDepth 100000 in
theorem wn_X8_stair : Cond.instanceMethod yX8_stair ∈ bq_tbl := bq_mem (List.mem_of_getElem? (i := 619) (by decide +kernel)) rfl
set_option maxRecDepth 100000 in
theorem wn_X8_drain : Cond.instanceMethod yX8_drain ∈ bq_tbl := bq_mem (List.mem_of_getElem? (i := 623) (by decide +kernel)) rfl
set_option maxRecDepth 100000 in
theorem wn_X8_flow : Cond.instanceMethod yX8_flow ∈ bq_tbl := bq_mem (List.mem_of_getElem? (i := 627) (by decide +kernel)) rfl
set_option maxRecDepth 100000 in
theorem wn_X1_become : Cond.instanceMethod yX1_become ∈ bq_tbl := bq_mem (List.mem_of_getElem? (i := 632) (by decide +kernel)) rfl
set_option maxRecDepth 100000 in
theorem wn_X1_plus : Cond.instanceMethod yX1_plus ∈ bq_tbl := bq_mem (List.mem_of_getElem? (i := 643) (by decide +kernel)) rfl
set_option maxRecDepth 100000 in
theorem wn_X1_part : Cond.instanceMethod yX1_part ∈ bq_tbl := bq_mem (List.mem_of_getElem? (i := 648) (by decide +kernel)) rfl
set_option maxRecDepth 100000 in
theorem wn_X8_splitOn : Cond.instanceMethod yX8_splitOn ∈ bq_tbl := bq_mem (List.mem_of_getElem? (i := 652) (by decide +kernel)) rfl
set_option maxRecDepth 100000 in
theorem wn_X8_price : Cond.instanceMethod yX8_price ∈ bq_tbl := bq_mem (List.mem_of_getElem? (i := 656) (by decide +kernel)) rfl
set_option maxRecDepth 100000 in
theorem wn_X8_heard : Cond.instanceMethod yX8_heard ∈ bq_tbl := bq_mem (List.mem_of_getElem? (i := 660) (by decide +kernel)) rfl
set_option maxRecDepth 100000 in
theorem wn_X8_measured : Cond.instanceMethod yX8_measured ∈ bq_tbl := bq_mem (List.mem_of_getElem? (i := 664) (by decide +kernel)) rfl
set_option maxRecDepth 100000 in
theorem wn_X4_add : Cond.instanceMethod yX4_add ∈ bq_tbl := bq_mem (List.mem_of_getElem? (i := 669) (by decide +kernel)) rfl
set_option maxRecDepth 100000 in
theorem wn_X8_forget : Cond.instanceMethod yX8_forget ∈ bq_tbl := bq_mem (List.mem_of_getElem? (i := 673) (by decide +kernel)) rfl
set_option maxRecDepth 100000 in
theorem wn_X8_splitFirst : Cond.instanceMethod yX8_splitFirst ∈ bq_tbl := bq_mem (List.mem_of_getElem? (i := 677) (by decide +kernel)) rfl
set_option maxRecDepth 100000 in
theorem wn_X8_isAsMeasured : Cond.instanceMethod yX8_isAsMeasured ∈ bq_tbl := bq_mem (List.mem_of_getElem? (i := 682) (by decide +kernel)) rfl
set_option maxRecDepth 100000 in
theorem wn_X4_allowWater : Cond.instanceMethod yX4_allowWater ∈ bq_tbl := bq_mem (List.mem_of_getElem? (i := 685) (by decide +kernel)) rfl
set_option maxRecDepth 100000 in
theorem wn_X8_odds : Cond.instanceMethod yX8_odds ∈ bq_tbl := bq_mem (List.mem_of_getElem? (i := 689) (by decide +kernel)) rfl
set_option maxRecDepth 100000 in
theorem wn_X5_comings : Cond.instanceMethod yX5_comings ∈ bq_tbl := bq_mem (List.mem_of_getElem? (i := 693) (by decide +kernel)) rfl
set_option maxRecDepth 100000 in
theorem wn_X8_countWays : Cond.instanceMethod yX8_countWays ∈ bq_tbl := bq_mem (List.mem_of_getElem? (i := 699) (by decide +kernel)) rfl
set_option maxRecDepth 100000 in
theorem wn_X8_rate : Cond.instanceMethod yX8_rate ∈ bq_tbl := bq_mem (List.mem_of_getElem? (i := 703) (by decide +kernel)) rfl
set_option maxRecDepth 100000 in
theorem wn_X2_asBroom : Cond.instanceMethod yX2_asBroom ∈ bq_tbl := bq_mem (List.mem_of_getElem? (i := 707) (by decide +kernel)) rfl
set_option maxRecDepth 100000 in
theorem wn_X2_asWet : Cond.instanceMethod yX2_asWet ∈ bq_tbl := bq_mem (List.mem_of_getElem? (i := 711) (by decide +kernel)) rfl
set_option maxRecDepth 100000 in
theorem wn_X2_asHalf : Cond.instanceMethod yX2_asHalf ∈ bq_tbl := bq_mem (List.mem_of_getElem? (i := 717) (by decide +kernel)) rfl
set_option maxRecDepth 100000 in
theorem wn_X2_asBored : Cond.instanceMethod yX2_asBored ∈ bq_tbl := bq_mem (List.mem_of_getElem? (i := 722) (by decide +kernel)) rfl
set_option maxRecDepth 100000 in
theorem wn_X2_asBurning : Cond.instanceMethod yX2_asBurning ∈ bq_tbl := bq_mem (List.mem_of_getElem? (i := 728) (by decide +kernel)) rfl
set_option maxRecDepth 100000 in
theorem wn_X2_asTeaching : Cond.instanceMethod yX2_asTeaching ∈ bq_tbl := bq_mem (List.mem_of_getElem? (i := 734) (by decide +kernel)) rfl
set_option maxRecDepth 100000 in
theorem wn_X8_keep : Cond.instanceMethod yX8_keep ∈ bq_tbl := bq_mem (List.mem_of_getElem? (i := 739) (by decide +kernel)) rfl
set_option maxRecDepth 100000 in
theorem wn_X8_back : Cond.instanceMethod yX8_back ∈ bq_tbl := bq_mem (List.mem_of_getElem? (i := 743) (by decide +kernel)) rfl
set_option maxRecDepth 100000 in
theorem wn_X8_count : Cond.instanceMethod yX8_count ∈ bq_tbl := bq_mem (List.mem_of_getElem? (i := 747) (by decide +kernel)) rfl
set_option maxRecDepth 100000 in
theorem wn_X8_trace : Cond.instanceMethod yX8_trace ∈ bq_tbl := bq_mem (List.mem_of_getElem? (i := 751) (by decide +kernel)) rfl
set_option maxRecDepth 100000 in
theorem wn_X9_init : Cond.instanceMethod yX9_init ∈ bq_tbl := bq_mem (List.mem_of_getElem? (i := 757) (by decide +kernel)) rfl
set_option maxRecDepth 100000 in
theorem wn_X9_reads : Cond.instanceMethod yX9_reads ∈ bq_tbl := bq_mem (List.mem_of_getElem? (i := 762) (by decide +kernel)) rfl
set_option maxRecDepth 100000 in
theorem wn_X9_token : Cond.instanceMethod yX9_token ∈ bq_tbl := bq_mem (List.mem_of_getElem? (i := 766) (by decide +kernel)) rfl
set_option maxRecDepth 100000 in
theorem wn_X9_letterAt : Cond.instanceMethod yX9_letterAt ∈ bq_tbl := bq_mem (List.mem_of_getElem? (i := 770) (by decide +kernel)) rfl
set_option maxRecDepth 100000 in
theorem wn_X9_readsItem : Cond.instanceMethod yX9_readsItem ∈ bq_tbl := bq_mem (List.mem_of_getElem? (i := 783) (by decide +kernel)) rfl
set_option maxRecDepth 100000 in
theorem wn_X9_number : Cond.instanceMethod yX9_number ∈ bq_tbl := bq_mem (List.mem_of_getElem? (i := 787) (by decide +kernel)) rfl
set_option maxRecDepth 100000 in
theorem wn_X9_tells : Cond.instanceMethod yX9_tells ∈ bq_tbl := bq_mem (List.mem_of_getElem? (i := 791) (by decide +kernel)) rfl
set_option maxRecDepth 100000 in
theorem wn_X9_begins : Cond.instanceMethod yX9_begins ∈ bq_tbl := bq_mem (List.mem_of_getElem? (i := 795) (by decide +kernel)) rfl
set_option maxRecDepth 100000 in
theorem wn_X9_high : Cond.instanceMethod yX9_high ∈ bq_tbl := bq_mem (List.mem_of_getElem? (i := 799) (by decide +kernel)) rfl
set_option maxRecDepth 100000 in
theorem wn_X9_type : Cond.instanceMethod yX9_type ∈ bq_tbl := bq_mem (List.mem_of_getElem? (i := 863) (by decide +kernel)) rfl
set_option maxRecDepth 100000 in
theorem wn_X9_clear : Cond.instanceMethod yX9_clear ∈ bq_tbl := bq_mem (List.mem_of_getElem? (i := 867) (by decide +kernel)) rfl
set_option maxRecDepth 100000 in
theorem wn_X9_cellar : Cond.instanceMethod yX9_cellar ∈ bq_tbl := bq_mem (List.mem_of_getElem? (i := 871) (by decide +kernel)) rfl
set_option maxRecDepth 100000 in
theorem wn_X9_broom : Cond.instanceMethod yX9_broom ∈ bq_tbl := bq_mem (List.mem_of_getElem? (i := 875) (by decide +kernel)) rfl
set_option maxRecDepth 100000 in
theorem wn_X9_now : Cond.instanceMethod yX9_now ∈ bq_tbl := bq_mem (List.mem_of_getElem? (i := 882) (by decide +kernel)) rfl
set_option maxRecDepth 100000 in
theorem wn_X9_there : Cond.instanceMethod yX9_there ∈ bq_tbl := bq_mem (List.mem_of_getElem? (i := 887) (by decide +kernel)) rfl
set_option maxRecDepth 100000 in
theorem wn_X9_minute : Cond.instanceMethod yX9_minute ∈ bq_tbl := bq_mem (List.mem_of_getElem? (i := 890) (by decide +kernel)) rfl
set_option maxRecDepth 100000 in
theorem wn_X9_keeps : Cond.instanceMethod yX9_keeps ∈ bq_tbl := bq_mem (List.mem_of_getElem? (i := 895) (by decide +kernel)) rfl
set_option maxRecDepth 100000 in
theorem wn_X9_asTold : Cond.instanceMethod yX9_asTold ∈ bq_tbl := bq_mem (List.mem_of_getElem? (i := 899) (by decide +kernel)) rfl
set_option maxRecDepth 100000 in
theorem wn_X9_goes : Cond.instanceMethod yX9_goes ∈ bq_tbl := bq_mem (List.mem_of_getElem? (i := 903) (by decide +kernel)) rfl
set_option maxRecDepth 100000 in
theorem wn_X9_carries : Cond.instanceMethod yX9_carries ∈ bq_tbl := bq_mem (List.mem_of_getElem? (i := 907) (by decide +kernel)) rfl
set_option maxRecDepth 100000 in
theorem wn_X9_splits : Cond.instanceMethod yX9_splits ∈ bq_tbl := bq_mem (List.mem_of_getElem? (i := 911) (by decide +kernel)) rfl
set_option maxRecDepth 100000 in
theorem wn_X9_isThere : Cond.instanceMethod yX9_isThere ∈ bq_tbl := bq_mem (List.mem_of_getElem? (i := 916) (by decide +kernel)) rfl
set_option maxRecDepth 100000 in
theorem wn_X9_canSplit : Cond.instanceMethod yX9_canSplit ∈ bq_tbl := bq_mem (List.mem_of_getElem? (i := 920) (by decide +kernel)) rfl
set_option maxRecDepth 100000 in
theorem wn_X9_free : Cond.instanceMethod yX9_free ∈ bq_tbl := bq_mem (List.mem_of_getElem? (i := 924) (by decide +kernel)) rfl
set_option maxRecDepth 100000 in
theorem wn_X9_splitsNow : Cond.instanceMethod yX9_splitsNow ∈ bq_tbl := bq_mem (List.mem_of_getElem? (i := 928) (by decide +kernel)) rfl
set_option maxRecDepth 100000 in
theorem wn_X9_teaches : Cond.instanceMethod yX9_teaches ∈ bq_tbl := bq_mem (List.mem_of_getElem? (i := 931) (by decide +kernel)) rfl
set_option maxRecDepth 100000 in
theorem wn_X9_bores : Cond.instanceMethod yX9_bores ∈ bq_tbl := bq_mem (List.mem_of_getElem? (i := 935) (by decide +kernel)) rfl
set_option maxRecDepth 100000 in
theorem wn_X9_burns : Cond.instanceMethod yX9_burns ∈ bq_tbl := bq_mem (List.mem_of_getElem? (i := 939) (by decide +kernel)) rfl
set_option maxRecDepth 100000 in
theorem wn_X9_halts : Cond.instanceMethod yX9_halts ∈ bq_tbl := bq_mem (List.mem_of_getElem? (i := 946) (by decide +kernel)) rfl
set_option maxRecDepth 100000 in
theorem wn_X9_undo : Cond.instanceMethod yX9_undo ∈ bq_tbl := bq_mem (List.mem_of_getElem? (i := 950) (by decide +kernel)) rfl
set_option maxRecDepth 100000 in
theorem wn_X9_stands : Cond.instanceMethod yX9_stands ∈ bq_tbl := bq_mem (List.mem_of_getElem? (i := 954) (by decide +kernel)) rfl
set_option maxRecDepth 100000 in
theorem wn_X9_holds : Cond.instanceMethod yX9_holds ∈ bq_tbl := bq_mem (List.mem_of_getElem? (i := 959) (by decide +kernel)) rfl
set_option maxRecDepth 100000 in
theorem wn_X9_lets : Cond.instanceMethod yX9_lets ∈ bq_tbl := bq_mem (List.mem_of_getElem? (i := 963) (by decide +kernel)) rfl
set_option maxRecDepth 100000 in
theorem wn_X9_above : Cond.instanceMethod yX9_above ∈ bq_tbl := bq_mem (List.mem_of_getElem? (i := 966) (by decide +kernel)) rfl
set_option maxRecDepth 100000 in
theorem wn_X9_most : Cond.instanceMethod yX9_most ∈ bq_tbl := bq_mem (List.mem_of_getElem? (i := 970) (by decide +kernel)) rfl
set_option maxRecDepth 100000 in
theorem wn_X9_highest : Cond.instanceMethod yX9_highest ∈ bq_tbl := bq_mem (List.mem_of_getElem? (i := 975) (by decide +kernel)) rfl
set_option maxRecDepth 100000 in
theorem wn_X9_teach : Cond.instanceMethod yX9_teach ∈ bq_tbl := bq_mem (List.mem_of_getElem? (i := 978) (by decide +kernel)) rfl
set_option maxRecDepth 100000 in
theorem wn_X9_fewest : Cond.instanceMethod yX9_fewest ∈ bq_tbl := bq_mem (List.mem_of_getElem? (i := 983) (by decide +kernel)) rfl
set_option maxRecDepth 100000 in
theorem wn_X9_burn : Cond.instanceMethod yX9_burn ∈ bq_tbl := bq_mem (List.mem_of_getElem? (i := 986) (by decide +kernel)) rfl
set_option maxRecDepth 100000 in
theorem wn_X9_stair : Cond.instanceMethod yX9_stair ∈ bq_tbl := bq_mem (List.mem_of_getElem? (i := 990) (by decide +kernel)) rfl
set_option maxRecDepth 100000 in
theorem wn_X9_drain : Cond.instanceMethod yX9_drain ∈ bq_tbl := bq_mem (List.mem_of_getElem? (i := 994) (by decide +kernel)) rfl
set_option maxRecDepth 100000 in
theorem wn_X9_flow : Cond.instanceMethod yX9_flow ∈ bq_tbl := bq_mem (List.mem_of_getElem? (i := 998) (by decide +kernel)) rfl
set_option maxRecDepth 100000 in
theorem wn_X9_splitOn : Cond.instanceMethod yX9_splitOn ∈ bq_tbl := bq_mem (List.mem_of_getElem? (i := 1006) (by decide +kernel)) rfl
set_option maxRecDepth 100000 in
theorem wn_X9_price : Cond.instanceMethod yX9_price ∈ bq_tbl := bq_mem (List.mem_of_getElem? (i := 1010) (by decide +kernel)) rfl
set_option maxRecDepth 100000 in
theorem wn_X9_heard : Cond.instanceMethod yX9_heard ∈ bq_tbl := bq_mem (List.mem_of_getElem? (i := 1014) (by decide +kernel)) rfl
set_option maxRecDepth 100000 in
theorem wn_X9_measured : Cond.instanceMethod yX9_measured ∈ bq_tbl := bq_mem (List.mem_of_getElem? (i := 1018) (by decide +kernel)) rfl
set_option maxRecDepth 100000 in
theorem wn_X9_forget : Cond.instanceMethod yX9_forget ∈ bq_tbl := bq_mem (List.mem_of_getElem? (i := 1022) (by decide +kernel)) rfl
set_option maxRecDepth 100000 in
theorem wn_X9_splitFirst : Cond.instanceMethod yX9_splitFirst ∈ bq_tbl := bq_mem (List.mem_of_getElem? (i := 1026) (by decide +kernel)) rfl
set_option maxRecDepth 100000 in
theorem wn_X9_isSo : Cond.instanceMethod yX9_isSo ∈ bq_tbl := bq_mem (List.mem_of_getElem? (i := 1031) (by decide +kernel)) rfl
set_option maxRecDepth 100000 in
theorem wn_X9_odds : Cond.instanceMethod yX9_odds ∈ bq_tbl := bq_mem (List.mem_of_getElem? (i := 1034) (by decide +kernel)) rfl
set_option maxRecDepth 100000 in
theorem wn_X9_rate : Cond.instanceMethod yX9_rate ∈ bq_tbl := bq_mem (List.mem_of_getElem? (i := 1039) (by decide +kernel)) rfl
set_option maxRecDepth 100000 in
theorem wn_X9_keep : Cond.instanceMethod yX9_keep ∈ bq_tbl := bq_mem (List.mem_of_getElem? (i := 1048) (by decide +kernel)) rfl
set_option maxRecDepth 100000 in
theorem wn_X9_back : Cond.instanceMethod yX9_back ∈ bq_tbl := bq_mem (List.mem_of_getElem? (i := 1052) (by decide +kernel)) rfl
set_option maxRecDepth 100000 in
theorem wn_X9_count : Cond.instanceMethod yX9_count ∈ bq_tbl := bq_mem (List.mem_of_getElem? (i := 1056) (by decide +kernel)) rfl
set_option maxRecDepth 100000 in
theorem wn_X9_trace : Cond.instanceMethod yX9_trace ∈ bq_tbl := bq_mem (List.mem_of_getElem? (i := 1060) (by decide +kernel)) rfl
set_option maxRecDepth 100000 in
theorem wt_X7_isDigit : Cond.static yX7_isDigit ∈ bq_tbl := bq_mem (List.mem_of_getElem? (i := 324) (by decide +kernel)) rfl
set_option maxRecDepth 100000 in
theorem wt_J9_min_7cf53 : Cond.static yJ9_min_7cf53 ∈ bq_tbl := bq_mem (List.mem_of_getElem? (i := 331) (by decide +kernel)) rfl
set_option maxRecDepth 100000 in
theorem wt_J1_indexOf_4cfef : Cond.static yJ1_indexOf_4cfef ∈ bq_tbl := bq_mem (List.mem_of_getElem? (i := 357) (by decide +kernel)) rfl
set_option maxRecDepth 100000 in
theorem wt_J1_canEncode_9a6ad : Cond.static yJ1_canEncode_9a6ad ∈ bq_tbl := bq_mem (List.mem_of_getElem? (i := 360) (by decide +kernel)) rfl
set_option maxRecDepth 100000 in
theorem wt_J9_max_7cf53 : Cond.static yJ9_max_7cf53 ∈ bq_tbl := bq_mem (List.mem_of_getElem? (i := 363) (by decide +kernel)) rfl
set_option maxRecDepth 100000 in
theorem wt_J1_indexOfChar_4cfef : Cond.static yJ1_indexOfChar_4cfef ∈ bq_tbl := bq_mem (List.mem_of_getElem? (i := 367) (by decide +kernel)) rfl
set_option maxRecDepth 100000 in
theorem wt_J2_indexOf_4cfef : Cond.static yJ2_indexOf_4cfef ∈ bq_tbl := bq_mem (List.mem_of_getElem? (i := 370) (by decide +kernel)) rfl
set_option maxRecDepth 100000 in
theorem wt_J2_indexOfChar_4cfef : Cond.static yJ2_indexOfChar_4cfef ∈ bq_tbl := bq_mem (List.mem_of_getElem? (i := 376) (by decide +kernel)) rfl
set_option maxRecDepth 100000 in
theorem wt_J2_checkBoundsBeginEnd_d044e : Cond.static yJ2_checkBoundsBeginEnd_d044e ∈ bq_tbl := bq_mem (List.mem_of_getElem? (i := 379) (by decide +kernel)) rfl
set_option maxRecDepth 100000 in
theorem wt_J2_length_9d52b : Cond.static yJ2_length_9d52b ∈ bq_tbl := bq_mem (List.mem_of_getElem? (i := 382) (by decide +kernel)) rfl
set_option maxRecDepth 100000 in
theorem wt_J0_checkBoundsBeginEnd_23922 : Cond.static yJ0_checkBoundsBeginEnd_23922 ∈ bq_tbl := bq_mem (List.mem_of_getElem? (i := 385) (by decide +kernel)) rfl
set_option maxRecDepth 100000 in
theorem wt_J3_checkFromToIndex_8c36e : Cond.static yJ3_checkFromToIndex_8c36e ∈ bq_tbl := bq_mem (List.mem_of_getElem? (i := 390) (by decide +kernel)) rfl
set_option maxRecDepth 100000 in
theorem wt_J2_indexOfCharUnsafe_4cfef : Cond.static yJ2_indexOfCharUnsafe_4cfef ∈ bq_tbl := bq_mem (List.mem_of_getElem? (i := 393) (by decide +kernel)) rfl
set_option maxRecDepth 100000 in
theorem wt_J2_getChar_3b067 : Cond.static yJ2_getChar_3b067 ∈ bq_tbl := bq_mem (List.mem_of_getElem? (i := 396) (by decide +kernel)) rfl
set_option maxRecDepth 100000 in
theorem wt_J2_indexOfSupplementary_4cfef : Cond.static yJ2_indexOfSupplementary_4cfef ∈ bq_tbl := bq_mem (List.mem_of_getElem? (i := 405) (by decide +kernel)) rfl
set_option maxRecDepth 100000 in
theorem wt_J11_isValidCodePoint_9a6ad : Cond.static yJ11_isValidCodePoint_9a6ad ∈ bq_tbl := bq_mem (List.mem_of_getElem? (i := 408) (by decide +kernel)) rfl
set_option maxRecDepth 100000 in
theorem wt_J11_highSurrogate_5068e : Cond.static yJ11_highSurrogate_5068e ∈ bq_tbl := bq_mem (List.mem_of_getElem? (i := 411) (by decide +kernel)) rfl
set_option maxRecDepth 100000 in
theorem wt_J11_lowSurrogate_5068e : Cond.static yJ11_lowSurrogate_5068e ∈ bq_tbl := bq_mem (List.mem_of_getElem? (i := 415) (by decide +kernel)) rfl
set_option maxRecDepth 100000 in
theorem wt_X8_bitOf : Cond.static yX8_bitOf ∈ bq_tbl := bq_mem (List.mem_of_getElem? (i := 423) (by decide +kernel)) rfl
set_option maxRecDepth 100000 in
theorem wt_J9_floorMod_7cf53 : Cond.static yJ9_floorMod_7cf53 ∈ bq_tbl := bq_mem (List.mem_of_getElem? (i := 486) (by decide +kernel)) rfl
set_option maxRecDepth 100000 in
theorem wt_X5_alike : Cond.static yX5_alike ∈ bq_tbl := bq_mem (List.mem_of_getElem? (i := 539) (by decide +kernel)) rfl
set_option maxRecDepth 100000 in
theorem wt_J6_bitCount_0f7a4 : Cond.static yJ6_bitCount_0f7a4 ∈ bq_tbl := bq_mem (List.mem_of_getElem? (i := 558) (by decide +kernel)) rfl
set_option maxRecDepth 100000 in
theorem wt_X8_isPlanned : Cond.static yX8_isPlanned ∈ bq_tbl := bq_mem (List.mem_of_getElem? (i := 604) (by decide +kernel)) rfl
set_option maxRecDepth 100000 in
theorem wt_J9_abs_067f4 : Cond.static yJ9_abs_067f4 ∈ bq_tbl := bq_mem (List.mem_of_getElem? (i := 636) (by decide +kernel)) rfl
set_option maxRecDepth 100000 in
theorem wt_X1_commonDivisor : Cond.static yX1_commonDivisor ∈ bq_tbl := bq_mem (List.mem_of_getElem? (i := 639) (by decide +kernel)) rfl
set_option maxRecDepth 100000 in
theorem wt_X9_itemOf : Cond.static yX9_itemOf ∈ bq_tbl := bq_mem (List.mem_of_getElem? (i := 773) (by decide +kernel)) rfl
set_option maxRecDepth 100000 in
theorem wt_X9_isDigit : Cond.static yX9_isDigit ∈ bq_tbl := bq_mem (List.mem_of_getElem? (i := 776) (by decide +kernel)) rfl
set_option maxRecDepth 100000 in
theorem wt_X9_in : Cond.static yX9_in ∈ bq_tbl := bq_mem (List.mem_of_getElem? (i := 779) (by decide +kernel)) rfl
set_option maxRecDepth 100000 in
theorem wt_X9_isNumber : Cond.static yX9_isNumber ∈ bq_tbl := bq_mem (List.mem_of_getElem? (i := 879) (by decide +kernel)) rfl
set_option maxRecDepth 100000 in
theorem wt_X9_ones : Cond.static yX9_ones ∈ bq_tbl := bq_mem (List.mem_of_getElem? (i := 943) (by decide +kernel)) rfl
set_option maxRecDepth 100000 in
theorem wt_X9_common : Cond.static yX9_common ∈ bq_tbl := bq_mem (List.mem_of_getElem? (i := 1003) (by decide +kernel)) rfl
set_option maxRecDepth 100000 in
theorem ws_X0_tellNothing : Cond.selects RX0 yX0_tellNothing yX0_tellNothing ∈ bq_tbl := bq_mem (List.mem_of_getElem? (i := 167) (by decide +kernel)) rfl
set_option maxRecDepth 100000 in
theorem ws_X5_empty : Cond.selects RX5 yX5_empty yX5_empty ∈ bq_tbl := bq_mem (List.mem_of_getElem? (i := 173) (by decide +kernel)) rfl
set_option maxRecDepth 100000 in
theorem ws_X8_type : Cond.selects RX8 yX8_type yX8_type ∈ bq_tbl := bq_mem (List.mem_of_getElem? (i := 296) (by decide +kernel)) rfl
set_option maxRecDepth 100000 in
theorem ws_X3_add : Cond.selects RX3 yX3_add yX3_add ∈ bq_tbl := bq_mem (List.mem_of_getElem? (i := 300) (by decide +kernel)) rfl
set_option maxRecDepth 100000 in
theorem ws_X8_clear : Cond.selects RX8 yX8_clear yX8_clear ∈ bq_tbl := bq_mem (List.mem_of_getElem? (i := 304) (by decide +kernel)) rfl
set_option maxRecDepth 100000 in
theorem ws_X8_cellar : Cond.selects RX8 yX8_cellar yX8_cellar ∈ bq_tbl := bq_mem (List.mem_of_getElem? (i := 308) (by decide +kernel)) rfl
set_option maxRecDepth 100000 in
theorem ws_X7_read : Cond.selects RX7 yX7_read yX7_read ∈ bq_tbl := bq_mem (List.mem_of_getElem? (i := 312) (by decide +kernel)) rfl
set_option maxRecDepth 100000 in
theorem ws_X3_at : Cond.selects RX3 yX3_at yX3_at ∈ bq_tbl := bq_mem (List.mem_of_getElem? (i := 321) (by decide +kernel)) rfl
set_option maxRecDepth 100000 in
theorem ws_J0_indexOf_0f7a4 : Cond.selects RJ0 yJ0_indexOf_0f7a4 yJ0_indexOf_0f7a4 ∈ bq_tbl := bq_mem (List.mem_of_getElem? (i := 336) (by decide +kernel)) rfl
set_option maxRecDepth 100000 in
theorem ws_J0_indexOf_7cf53 : Cond.selects RJ0 yJ0_indexOf_7cf53 yJ0_indexOf_7cf53 ∈ bq_tbl := bq_mem (List.mem_of_getElem? (i := 340) (by decide +kernel)) rfl
set_option maxRecDepth 100000 in
theorem ws_J0_isLatin1_aae02 : Cond.selects RJ0 yJ0_isLatin1_aae02 yJ0_isLatin1_aae02 ∈ bq_tbl := bq_mem (List.mem_of_getElem? (i := 344) (by decide +kernel)) rfl
set_option maxRecDepth 100000 in
theorem ws_J0_length_8abf5 : Cond.selects RJ0 yJ0_length_8abf5 yJ0_length_8abf5 ∈ bq_tbl := bq_mem (List.mem_of_getElem? (i := 350) (by decide +kernel)) rfl
set_option maxRecDepth 100000 in
theorem ws_J0_coder_7d493 : Cond.selects RJ0 yJ0_coder_7d493 yJ0_coder_7d493 ∈ bq_tbl := bq_mem (List.mem_of_getElem? (i := 354) (by decide +kernel)) rfl
set_option maxRecDepth 100000 in
theorem ws_X0_tellBroom : Cond.selects RX0 yX0_tellBroom yX0_tellBroom ∈ bq_tbl := bq_mem (List.mem_of_getElem? (i := 439) (by decide +kernel)) rfl
set_option maxRecDepth 100000 in
theorem ws_X5_place : Cond.selects RX5 yX5_place yX5_place ∈ bq_tbl := bq_mem (List.mem_of_getElem? (i := 443) (by decide +kernel)) rfl
set_option maxRecDepth 100000 in
theorem ws_X0_tellSetting : Cond.selects RX0 yX0_tellSetting yX0_tellSetting ∈ bq_tbl := bq_mem (List.mem_of_getElem? (i := 447) (by decide +kernel)) rfl
set_option maxRecDepth 100000 in
theorem ws_X0_begin : Cond.selects RX0 yX0_begin yX0_begin ∈ bq_tbl := bq_mem (List.mem_of_getElem? (i := 451) (by decide +kernel)) rfl
set_option maxRecDepth 100000 in
theorem ws_X0_heightOf : Cond.selects RX0 yX0_heightOf yX0_heightOf ∈ bq_tbl := bq_mem (List.mem_of_getElem? (i := 455) (by decide +kernel)) rfl
set_option maxRecDepth 100000 in
theorem ws_X0_copyFrom : Cond.selects RX0 yX0_copyFrom yX0_copyFrom ∈ bq_tbl := bq_mem (List.mem_of_getElem? (i := 459) (by decide +kernel)) rfl
set_option maxRecDepth 100000 in
theorem ws_X5_copyFrom : Cond.selects RX5 yX5_copyFrom yX5_copyFrom ∈ bq_tbl := bq_mem (List.mem_of_getElem? (i := 463) (by decide +kernel)) rfl
set_option maxRecDepth 100000 in
theorem ws_X8_broom : Cond.selects RX8 yX8_broom yX8_broom ∈ bq_tbl := bq_mem (List.mem_of_getElem? (i := 469) (by decide +kernel)) rfl
set_option maxRecDepth 100000 in
theorem ws_X8_now : Cond.selects RX8 yX8_now yX8_now ∈ bq_tbl := bq_mem (List.mem_of_getElem? (i := 474) (by decide +kernel)) rfl
set_option maxRecDepth 100000 in
theorem ws_X8_minute : Cond.selects RX8 yX8_minute yX8_minute ∈ bq_tbl := bq_mem (List.mem_of_getElem? (i := 479) (by decide +kernel)) rfl
set_option maxRecDepth 100000 in
theorem ws_X6_remember : Cond.selects RX6 yX6_remember yX6_remember ∈ bq_tbl := bq_mem (List.mem_of_getElem? (i := 483) (by decide +kernel)) rfl
set_option maxRecDepth 100000 in
theorem ws_X0_stairWidth : Cond.selects RX0 yX0_stairWidth yX0_stairWidth ∈ bq_tbl := bq_mem (List.mem_of_getElem? (i := 492) (by decide +kernel)) rfl
set_option maxRecDepth 100000 in
theorem ws_X0_drainCups : Cond.selects RX0 yX0_drainCups yX0_drainCups ∈ bq_tbl := bq_mem (List.mem_of_getElem? (i := 496) (by decide +kernel)) rfl
set_option maxRecDepth 100000 in
theorem ws_X5_pass : Cond.selects RX5 yX5_pass yX5_pass ∈ bq_tbl := bq_mem (List.mem_of_getElem? (i := 500) (by decide +kernel)) rfl
set_option maxRecDepth 100000 in
theorem ws_X5_isThere : Cond.selects RX5 yX5_isThere yX5_isThere ∈ bq_tbl := bq_mem (List.mem_of_getElem? (i := 504) (by decide +kernel)) rfl
set_option maxRecDepth 100000 in
theorem ws_X5_loadOf : Cond.selects RX5 yX5_loadOf yX5_loadOf ∈ bq_tbl := bq_mem (List.mem_of_getElem? (i := 513) (by decide +kernel)) rfl
set_option maxRecDepth 100000 in
theorem ws_X8_splits : Cond.selects RX8 yX8_splits yX8_splits ∈ bq_tbl := bq_mem (List.mem_of_getElem? (i := 521) (by decide +kernel)) rfl
set_option maxRecDepth 100000 in
theorem ws_X5_canSplit : Cond.selects RX5 yX5_canSplit yX5_canSplit ∈ bq_tbl := bq_mem (List.mem_of_getElem? (i := 526) (by decide +kernel)) rfl
set_option maxRecDepth 100000 in
theorem ws_X5_split : Cond.selects RX5 yX5_split yX5_split ∈ bq_tbl := bq_mem (List.mem_of_getElem? (i := 534) (by decide +kernel)) rfl
set_option maxRecDepth 100000 in
theorem ws_X8_teaches : Cond.selects RX8 yX8_teaches yX8_teaches ∈ bq_tbl := bq_mem (List.mem_of_getElem? (i := 543) (by decide +kernel)) rfl
set_option maxRecDepth 100000 in
theorem ws_X8_bores : Cond.selects RX8 yX8_bores yX8_bores ∈ bq_tbl := bq_mem (List.mem_of_getElem? (i := 547) (by decide +kernel)) rfl
set_option maxRecDepth 100000 in
theorem ws_X8_burns : Cond.selects RX8 yX8_burns yX8_burns ∈ bq_tbl := bq_mem (List.mem_of_getElem? (i := 551) (by decide +kernel)) rfl
set_option maxRecDepth 100000 in
theorem ws_X8_halts : Cond.selects RX8 yX8_halts yX8_halts ∈ bq_tbl := bq_mem (List.mem_of_getElem? (i := 565) (by decide +kernel)) rfl
set_option maxRecDepth 100000 in
theorem ws_X8_undo : Cond.selects RX8 yX8_undo yX8_undo ∈ bq_tbl := bq_mem (List.mem_of_getElem? (i := 569) (by decide +kernel)) rfl
set_option maxRecDepth 100000 in
theorem ws_X6_bringBack : Cond.selects RX6 yX6_bringBack yX6_bringBack ∈ bq_tbl := bq_mem (List.mem_of_getElem? (i := 573) (by decide +kernel)) rfl
set_option maxRecDepth 100000 in
theorem ws_X8_stands : Cond.selects RX8 yX8_stands yX8_stands ∈ bq_tbl := bq_mem (List.mem_of_getElem? (i := 577) (by decide +kernel)) rfl
set_option maxRecDepth 100000 in
theorem ws_X8_above : Cond.selects RX8 yX8_above yX8_above ∈ bq_tbl := bq_mem (List.mem_of_getElem? (i := 585) (by decide +kernel)) rfl
set_option maxRecDepth 100000 in
theorem ws_X0_isAboveMark : Cond.selects RX0 yX0_isAboveMark yX0_isAboveMark ∈ bq_tbl := bq_mem (List.mem_of_getElem? (i := 589) (by decide +kernel)) rfl
set_option maxRecDepth 100000 in
theorem ws_X8_most : Cond.selects RX8 yX8_most yX8_most ∈ bq_tbl := bq_mem (List.mem_of_getElem? (i := 593) (by decide +kernel)) rfl
set_option maxRecDepth 100000 in
theorem ws_X8_teach : Cond.selects RX8 yX8_teach yX8_teach ∈ bq_tbl := bq_mem (List.mem_of_getElem? (i := 597) (by decide +kernel)) rfl
set_option maxRecDepth 100000 in
theorem ws_X8_burn : Cond.selects RX8 yX8_burn yX8_burn ∈ bq_tbl := bq_mem (List.mem_of_getElem? (i := 616) (by decide +kernel)) rfl
set_option maxRecDepth 100000 in
theorem ws_X8_stair : Cond.selects RX8 yX8_stair yX8_stair ∈ bq_tbl := bq_mem (List.mem_of_getElem? (i := 620) (by decide +kernel)) rfl
set_option maxRecDepth 100000 in
theorem ws_X8_drain : Cond.selects RX8 yX8_drain yX8_drain ∈ bq_tbl := bq_mem (List.mem_of_getElem? (i := 624) (by decide +kernel)) rfl
set_option maxRecDepth 100000 in
theorem ws_X8_flow : Cond.selects RX8 yX8_flow yX8_flow ∈ bq_tbl := bq_mem (List.mem_of_getElem? (i := 628) (by decide +kernel)) rfl
set_option maxRecDepth 100000 in
theorem ws_X1_become : Cond.selects RX1 yX1_become yX1_become ∈ bq_tbl := bq_mem (List.mem_of_getElem? (i := 633) (by decide +kernel)) rfl
set_option maxRecDepth 100000 in
theorem ws_X1_plus : Cond.selects RX1 yX1_plus yX1_plus ∈ bq_tbl := bq_mem (List.mem_of_getElem? (i := 644) (by decide +kernel)) rfl
set_option maxRecDepth 100000 in
theorem ws_X1_part : Cond.selects RX1 yX1_part yX1_part ∈ bq_tbl := bq_mem (List.mem_of_getElem? (i := 649) (by decide +kernel)) rfl
set_option maxRecDepth 100000 in
theorem ws_X8_splitOn : Cond.selects RX8 yX8_splitOn yX8_splitOn ∈ bq_tbl := bq_mem (List.mem_of_getElem? (i := 653) (by decide +kernel)) rfl
set_option maxRecDepth 100000 in
theorem ws_X8_price : Cond.selects RX8 yX8_price yX8_price ∈ bq_tbl := bq_mem (List.mem_of_getElem? (i := 657) (by decide +kernel)) rfl
set_option maxRecDepth 100000 in
theorem ws_X8_heard : Cond.selects RX8 yX8_heard yX8_heard ∈ bq_tbl := bq_mem (List.mem_of_getElem? (i := 661) (by decide +kernel)) rfl
set_option maxRecDepth 100000 in
theorem ws_X8_measured : Cond.selects RX8 yX8_measured yX8_measured ∈ bq_tbl := bq_mem (List.mem_of_getElem? (i := 665) (by decide +kernel)) rfl
set_option maxRecDepth 100000 in
theorem ws_X4_add : Cond.selects RX4 yX4_add yX4_add ∈ bq_tbl := bq_mem (List.mem_of_getElem? (i := 670) (by decide +kernel)) rfl
set_option maxRecDepth 100000 in
theorem ws_X8_forget : Cond.selects RX8 yX8_forget yX8_forget ∈ bq_tbl := bq_mem (List.mem_of_getElem? (i := 674) (by decide +kernel)) rfl
set_option maxRecDepth 100000 in
theorem ws_X8_splitFirst : Cond.selects RX8 yX8_splitFirst yX8_splitFirst ∈ bq_tbl := bq_mem (List.mem_of_getElem? (i := 678) (by decide +kernel)) rfl
set_option maxRecDepth 100000 in
theorem ws_X4_allowWater : Cond.selects RX4 yX4_allowWater yX4_allowWater ∈ bq_tbl := bq_mem (List.mem_of_getElem? (i := 686) (by decide +kernel)) rfl
set_option maxRecDepth 100000 in
theorem ws_X8_odds : Cond.selects RX8 yX8_odds yX8_odds ∈ bq_tbl := bq_mem (List.mem_of_getElem? (i := 690) (by decide +kernel)) rfl
set_option maxRecDepth 100000 in
theorem ws_X5_comings : Cond.selects RX5 yX5_comings yX5_comings ∈ bq_tbl := bq_mem (List.mem_of_getElem? (i := 694) (by decide +kernel)) rfl
set_option maxRecDepth 100000 in
theorem ws_X8_rate : Cond.selects RX8 yX8_rate yX8_rate ∈ bq_tbl := bq_mem (List.mem_of_getElem? (i := 704) (by decide +kernel)) rfl
set_option maxRecDepth 100000 in
theorem ws_X2_asBroom : Cond.selects RX2 yX2_asBroom yX2_asBroom ∈ bq_tbl := bq_mem (List.mem_of_getElem? (i := 708) (by decide +kernel)) rfl
set_option maxRecDepth 100000 in
theorem ws_X2_asWet : Cond.selects RX2 yX2_asWet yX2_asWet ∈ bq_tbl := bq_mem (List.mem_of_getElem? (i := 712) (by decide +kernel)) rfl
set_option maxRecDepth 100000 in
theorem ws_X2_asHalf : Cond.selects RX2 yX2_asHalf yX2_asHalf ∈ bq_tbl := bq_mem (List.mem_of_getElem? (i := 718) (by decide +kernel)) rfl
set_option maxRecDepth 100000 in
theorem ws_X2_asBored : Cond.selects RX2 yX2_asBored yX2_asBored ∈ bq_tbl := bq_mem (List.mem_of_getElem? (i := 723) (by decide +kernel)) rfl
set_option maxRecDepth 100000 in
theorem ws_X2_asBurning : Cond.selects RX2 yX2_asBurning yX2_asBurning ∈ bq_tbl := bq_mem (List.mem_of_getElem? (i := 729) (by decide +kernel)) rfl
set_option maxRecDepth 100000 in
theorem ws_X2_asTeaching : Cond.selects RX2 yX2_asTeaching yX2_asTeaching ∈ bq_tbl := bq_mem (List.mem_of_getElem? (i := 735) (by decide +kernel)) rfl
set_option maxRecDepth 100000 in
theorem ws_X8_keep : Cond.selects RX8 yX8_keep yX8_keep ∈ bq_tbl := bq_mem (List.mem_of_getElem? (i := 740) (by decide +kernel)) rfl
set_option maxRecDepth 100000 in
theorem ws_X8_back : Cond.selects RX8 yX8_back yX8_back ∈ bq_tbl := bq_mem (List.mem_of_getElem? (i := 744) (by decide +kernel)) rfl
set_option maxRecDepth 100000 in
theorem ws_X8_count : Cond.selects RX8 yX8_count yX8_count ∈ bq_tbl := bq_mem (List.mem_of_getElem? (i := 748) (by decide +kernel)) rfl
set_option maxRecDepth 100000 in
theorem ws_X8_trace : Cond.selects RX8 yX8_trace yX8_trace ∈ bq_tbl := bq_mem (List.mem_of_getElem? (i := 752) (by decide +kernel)) rfl
set_option maxRecDepth 100000 in
theorem ws_X9_type : Cond.selects RX9 yX9_type yX9_type ∈ bq_tbl := bq_mem (List.mem_of_getElem? (i := 864) (by decide +kernel)) rfl
set_option maxRecDepth 100000 in
theorem ws_X9_clear : Cond.selects RX9 yX9_clear yX9_clear ∈ bq_tbl := bq_mem (List.mem_of_getElem? (i := 868) (by decide +kernel)) rfl
set_option maxRecDepth 100000 in
theorem ws_X9_cellar : Cond.selects RX9 yX9_cellar yX9_cellar ∈ bq_tbl := bq_mem (List.mem_of_getElem? (i := 872) (by decide +kernel)) rfl
set_option maxRecDepth 100000 in
theorem ws_X9_broom : Cond.selects RX9 yX9_broom yX9_broom ∈ bq_tbl := bq_mem (List.mem_of_getElem? (i := 876) (by decide +kernel)) rfl
set_option maxRecDepth 100000 in
theorem ws_X9_now : Cond.selects RX9 yX9_now yX9_now ∈ bq_tbl := bq_mem (List.mem_of_getElem? (i := 883) (by decide +kernel)) rfl
set_option maxRecDepth 100000 in
theorem ws_X9_minute : Cond.selects RX9 yX9_minute yX9_minute ∈ bq_tbl := bq_mem (List.mem_of_getElem? (i := 891) (by decide +kernel)) rfl
set_option maxRecDepth 100000 in
theorem ws_X9_splits : Cond.selects RX9 yX9_splits yX9_splits ∈ bq_tbl := bq_mem (List.mem_of_getElem? (i := 912) (by decide +kernel)) rfl
set_option maxRecDepth 100000 in
theorem ws_X9_teaches : Cond.selects RX9 yX9_teaches yX9_teaches ∈ bq_tbl := bq_mem (List.mem_of_getElem? (i := 932) (by decide +kernel)) rfl
set_option maxRecDepth 100000 in
theorem ws_X9_bores : Cond.selects RX9 yX9_bores yX9_bores ∈ bq_tbl := bq_mem (List.mem_of_getElem? (i := 936) (by decide +kernel)) rfl
set_option maxRecDepth 100000 in
theorem ws_X9_burns : Cond.selects RX9 yX9_burns yX9_burns ∈ bq_tbl := bq_mem (List.mem_of_getElem? (i := 940) (by decide +kernel)) rfl
set_option maxRecDepth 100000 in
theorem ws_X9_halts : Cond.selects RX9 yX9_halts yX9_halts ∈ bq_tbl := bq_mem (List.mem_of_getElem? (i := 947) (by decide +kernel)) rfl
set_option maxRecDepth 100000 in
theorem ws_X9_undo : Cond.selects RX9 yX9_undo yX9_undo ∈ bq_tbl := bq_mem (List.mem_of_getElem? (i := 951) (by decide +kernel)) rfl
set_option maxRecDepth 100000 in
theorem ws_X9_stands : Cond.selects RX9 yX9_stands yX9_stands ∈ bq_tbl := bq_mem (List.mem_of_getElem? (i := 955) (by decide +kernel)) rfl
set_option maxRecDepth 100000 in
theorem ws_X9_above : Cond.selects RX9 yX9_above yX9_above ∈ bq_tbl := bq_mem (List.mem_of_getElem? (i := 967) (by decide +kernel)) rfl
set_option maxRecDepth 100000 in
theorem ws_X9_most : Cond.selects RX9 yX9_most yX9_most ∈ bq_tbl := bq_mem (List.mem_of_getElem? (i := 971) (by decide +kernel)) rfl
set_option maxRecDepth 100000 in
theorem ws_X9_teach : Cond.selects RX9 yX9_teach yX9_teach ∈ bq_tbl := bq_mem (List.mem_of_getElem? (i := 979) (by decide +kernel)) rfl
set_option maxRecDepth 100000 in
theorem ws_X9_burn : Cond.selects RX9 yX9_burn yX9_burn ∈ bq_tbl := bq_mem (List.mem_of_getElem? (i := 987) (by decide +kernel)) rfl
set_option maxRecDepth 100000 in
theorem ws_X9_stair : Cond.selects RX9 yX9_stair yX9_stair ∈ bq_tbl := bq_mem (List.mem_of_getElem? (i := 991) (by decide +kernel)) rfl
set_option maxRecDepth 100000 in
theorem ws_X9_drain : Cond.selects RX9 yX9_drain yX9_drain ∈ bq_tbl := bq_mem (List.mem_of_getElem? (i := 995) (by decide +kernel)) rfl
set_option maxRecDepth 100000 in
theorem ws_X9_flow : Cond.selects RX9 yX9_flow yX9_flow ∈ bq_tbl := bq_mem (List.mem_of_getElem? (i := 999) (by decide +kernel)) rfl
set_option maxRecDepth 100000 in
theorem ws_X9_splitOn : Cond.selects RX9 yX9_splitOn yX9_splitOn ∈ bq_tbl := bq_mem (List.mem_of_getElem? (i := 1007) (by decide +kernel)) rfl
set_option maxRecDepth 100000 in
theorem ws_X9_price : Cond.selects RX9 yX9_price yX9_price ∈ bq_tbl := bq_mem (List.mem_of_getElem? (i := 1011) (by decide +kernel)) rfl
set_option maxRecDepth 100000 in
theorem ws_X9_heard : Cond.selects RX9 yX9_heard yX9_heard ∈ bq_tbl := bq_mem (List.mem_of_getElem? (i := 1015) (by decide +kernel)) rfl
set_option maxRecDepth 100000 in
theorem ws_X9_measured : Cond.selects RX9 yX9_measured yX9_measured ∈ bq_tbl := bq_mem (List.mem_of_getElem? (i := 1019) (by decide +kernel)) rfl
set_option maxRecDepth 100000 in
theorem ws_X9_forget : Cond.selects RX9 yX9_forget yX9_forget ∈ bq_tbl := bq_mem (List.mem_of_getElem? (i := 1023) (by decide +kernel)) rfl
set_option maxRecDepth 100000 in
theorem ws_X9_splitFirst : Cond.selects RX9 yX9_splitFirst yX9_splitFirst ∈ bq_tbl := bq_mem (List.mem_of_getElem? (i := 1027) (by decide +kernel)) rfl
set_option maxRecDepth 100000 in
theorem ws_X9_odds : Cond.selects RX9 yX9_odds yX9_odds ∈ bq_tbl := bq_mem (List.mem_of_getElem? (i := 1035) (by decide +kernel)) rfl
set_option maxRecDepth 100000 in
theorem ws_X9_rate : Cond.selects RX9 yX9_rate yX9_rate ∈ bq_tbl := bq_mem (List.mem_of_getElem? (i := 1040) (by decide +kernel)) rfl
set_option maxRecDepth 100000 in
theorem ws_X9_keep : Cond.selects RX9 yX9_keep yX9_keep ∈ bq_tbl := bq_mem (List.mem_of_getElem? (i := 1049) (by decide +kernel)) rfl
set_option maxRecDepth 100000 in
theorem ws_X9_back : Cond.selects RX9 yX9_back yX9_back ∈ bq_tbl := bq_mem (List.mem_of_getElem? (i := 1053) (by decide +kernel)) rfl
set_option maxRecDepth 100000 in
theorem ws_X9_count : Cond.selects RX9 yX9_count yX9_count ∈ bq_tbl := bq_mem (List.mem_of_getElem? (i := 1057) (by decide +kernel)) rfl
set_option maxRecDepth 100000 in
theorem ws_X9_trace : Cond.selects RX9 yX9_trace yX9_trace ∈ bq_tbl := bq_mem (List.mem_of_getElem? (i := 1061) (by decide +kernel)) rfl
set_option maxRecDepth 100000 in
theorem ws_X7_step : Cond.selects RX7 yX7_step yX7_step ∈ bq_tbl := bq_mem (List.mem_of_getElem? (i := 0) (by decide +kernel)) rfl
set_option maxRecDepth 100000 in
theorem ws_X7_stepOverNumber : Cond.selects RX7 yX7_stepOverNumber yX7_stepOverNumber ∈ bq_tbl := bq_mem (List.mem_of_getElem? (i := 1) (by decide +kernel)) rfl
set_option maxRecDepth 100000 in
theorem ws_X7_isOneTooMany : Cond.selects RX7 yX7_isOneTooMany yX7_isOneTooMany ∈ bq_tbl := bq_mem (List.mem_of_getElem? (i := 2) (by decide +kernel)) rfl
set_option maxRecDepth 100000 in
theorem ws_X7_readItem : Cond.selects RX7 yX7_readItem yX7_readItem ∈ bq_tbl := bq_mem (List.mem_of_getElem? (i := 3) (by decide +kernel)) rfl
set_option maxRecDepth 100000 in
theorem ws_X7_isWithin : Cond.selects RX7 yX7_isWithin yX7_isWithin ∈ bq_tbl := bq_mem (List.mem_of_getElem? (i := 4) (by decide +kernel)) rfl
set_option maxRecDepth 100000 in
theorem ws_X5_comes : Cond.selects RX5 yX5_comes yX5_comes ∈ bq_tbl := bq_mem (List.mem_of_getElem? (i := 5) (by decide +kernel)) rfl
set_option maxRecDepth 100000 in
theorem ws_X5_firstFree : Cond.selects RX5 yX5_firstFree yX5_firstFree ∈ bq_tbl := bq_mem (List.mem_of_getElem? (i := 6) (by decide +kernel)) rfl
set_option maxRecDepth 100000 in
theorem ws_X8_takeAway : Cond.selects RX8 yX8_takeAway yX8_takeAway ∈ bq_tbl := bq_mem (List.mem_of_getElem? (i := 7) (by decide +kernel)) rfl
set_option maxRecDepth 100000 in
theorem ws_X8_lookAhead : Cond.selects RX8 yX8_lookAhead yX8_lookAhead ∈ bq_tbl := bq_mem (List.mem_of_getElem? (i := 8) (by decide +kernel)) rfl
set_option maxRecDepth 100000 in
theorem ws_X8_fewest : Cond.selects RX8 yX8_fewest yX8_fewest ∈ bq_tbl := bq_mem (List.mem_of_getElem? (i := 9) (by decide +kernel)) rfl
set_option maxRecDepth 100000 in
theorem ws_X8_helps : Cond.selects RX8 yX8_helps yX8_helps ∈ bq_tbl := bq_mem (List.mem_of_getElem? (i := 10) (by decide +kernel)) rfl
set_option maxRecDepth 100000 in
theorem ws_X8_staysAtMark : Cond.selects RX8 yX8_staysAtMark yX8_staysAtMark ∈ bq_tbl := bq_mem (List.mem_of_getElem? (i := 11) (by decide +kernel)) rfl
set_option maxRecDepth 100000 in
theorem ws_X8_isAsMeasured : Cond.selects RX8 yX8_isAsMeasured yX8_isAsMeasured ∈ bq_tbl := bq_mem (List.mem_of_getElem? (i := 12) (by decide +kernel)) rfl
set_option maxRecDepth 100000 in
theorem ws_X8_countWays : Cond.selects RX8 yX8_countWays yX8_countWays ∈ bq_tbl := bq_mem (List.mem_of_getElem? (i := 13) (by decide +kernel)) rfl
set_option maxRecDepth 100000 in
theorem ws_X9_reads : Cond.selects RX9 yX9_reads yX9_reads ∈ bq_tbl := bq_mem (List.mem_of_getElem? (i := 14) (by decide +kernel)) rfl
set_option maxRecDepth 100000 in
theorem ws_X9_token : Cond.selects RX9 yX9_token yX9_token ∈ bq_tbl := bq_mem (List.mem_of_getElem? (i := 15) (by decide +kernel)) rfl
set_option maxRecDepth 100000 in
theorem ws_X9_letterAt : Cond.selects RX9 yX9_letterAt yX9_letterAt ∈ bq_tbl := bq_mem (List.mem_of_getElem? (i := 16) (by decide +kernel)) rfl
set_option maxRecDepth 100000 in
theorem ws_X9_readsItem : Cond.selects RX9 yX9_readsItem yX9_readsItem ∈ bq_tbl := bq_mem (List.mem_of_getElem? (i := 17) (by decide +kernel)) rfl
set_option maxRecDepth 100000 in
theorem ws_X9_number : Cond.selects RX9 yX9_number yX9_number ∈ bq_tbl := bq_mem (List.mem_of_getElem? (i := 18) (by decide +kernel)) rfl
set_option maxRecDepth 100000 in
theorem ws_X9_tells : Cond.selects RX9 yX9_tells yX9_tells ∈ bq_tbl := bq_mem (List.mem_of_getElem? (i := 19) (by decide +kernel)) rfl
set_option maxRecDepth 100000 in
theorem ws_X9_begins : Cond.selects RX9 yX9_begins yX9_begins ∈ bq_tbl := bq_mem (List.mem_of_getElem? (i := 20) (by decide +kernel)) rfl
set_option maxRecDepth 100000 in
theorem ws_X9_high : Cond.selects RX9 yX9_high yX9_high ∈ bq_tbl := bq_mem (List.mem_of_getElem? (i := 21) (by decide +kernel)) rfl
set_option maxRecDepth 100000 in
theorem ws_X9_there : Cond.selects RX9 yX9_there yX9_there ∈ bq_tbl := bq_mem (List.mem_of_getElem? (i := 22) (by decide +kernel)) rfl
set_option maxRecDepth 100000 in
theorem ws_X9_keeps : Cond.selects RX9 yX9_keeps yX9_keeps ∈ bq_tbl := bq_mem (List.mem_of_getElem? (i := 23) (by decide +kernel)) rfl
set_option maxRecDepth 100000 in
theorem ws_X9_asTold : Cond.selects RX9 yX9_asTold yX9_asTold ∈ bq_tbl := bq_mem (List.mem_of_getElem? (i := 24) (by decide +kernel)) rfl
set_option maxRecDepth 100000 in
theorem ws_X9_goes : Cond.selects RX9 yX9_goes yX9_goes ∈ bq_tbl := bq_mem (List.mem_of_getElem? (i := 25) (by decide +kernel)) rfl
set_option maxRecDepth 100000 in
theorem ws_X9_carries : Cond.selects RX9 yX9_carries yX9_carries ∈ bq_tbl := bq_mem (List.mem_of_getElem? (i := 26) (by decide +kernel)) rfl
set_option maxRecDepth 100000 in
theorem ws_X9_isThere : Cond.selects RX9 yX9_isThere yX9_isThere ∈ bq_tbl := bq_mem (List.mem_of_getElem? (i := 27) (by decide +kernel)) rfl
set_option maxRecDepth 100000 in
theorem ws_X9_canSplit : Cond.selects RX9 yX9_canSplit yX9_canSplit ∈ bq_tbl := bq_mem (List.mem_of_getElem? (i := 28) (by decide +kernel)) rfl
set_option maxRecDepth 100000 in
theorem ws_X9_free : Cond.selects RX9 yX9_free yX9_free ∈ bq_tbl := bq_mem (List.mem_of_getElem? (i := 29) (by decide +kernel)) rfl
set_option maxRecDepth 100000 in
theorem ws_X9_splitsNow : Cond.selects RX9 yX9_splitsNow yX9_splitsNow ∈ bq_tbl := bq_mem (List.mem_of_getElem? (i := 30) (by decide +kernel)) rfl
set_option maxRecDepth 100000 in
theorem ws_X9_holds : Cond.selects RX9 yX9_holds yX9_holds ∈ bq_tbl := bq_mem (List.mem_of_getElem? (i := 31) (by decide +kernel)) rfl
set_option maxRecDepth 100000 in
theorem ws_X9_lets : Cond.selects RX9 yX9_lets yX9_lets ∈ bq_tbl := bq_mem (List.mem_of_getElem? (i := 32) (by decide +kernel)) rfl
set_option maxRecDepth 100000 in
theorem ws_X9_highest : Cond.selects RX9 yX9_highest yX9_highest ∈ bq_tbl := bq_mem (List.mem_of_getElem? (i := 33) (by decide +kernel)) rfl
set_option maxRecDepth 100000 in
theorem ws_X9_fewest : Cond.selects RX9 yX9_fewest yX9_fewest ∈ bq_tbl := bq_mem (List.mem_of_getElem? (i := 34) (by decide +kernel)) rfl
set_option maxRecDepth 100000 in
theorem ws_X9_isSo : Cond.selects RX9 yX9_isSo yX9_isSo ∈ bq_tbl := bq_mem (List.mem_of_getElem? (i := 35) (by decide +kernel)) rfl
set_option maxRecDepth 100000 in
theorem fl_X3_9 : bq_FL RX3 9 3 0 := ⟨by decide, by decide, bq_mem (List.mem_of_getElem? (i := 68) (by decide +kernel)) rfl⟩
set_option maxRecDepth 100000 in
theorem fl_X3_13 : bq_FL RX3 13 3 1 := ⟨by decide, by decide, bq_mem (List.mem_of_getElem? (i := 69) (by decide +kernel)) rfl⟩
set_option maxRecDepth 100000 in
theorem fl_X8_87 : bq_FL RX8 87 3 1 := ⟨by decide, by decide, bq_mem (List.mem_of_getElem? (i := 70) (by decide +kernel)) rfl⟩
set_option maxRecDepth 100000 in
theorem fl_X7_11 : bq_FL RX7 11 7 0 := ⟨by decide, by decide, bq_mem (List.mem_of_getElem? (i := 83) (by decide +kernel)) rfl⟩
set_option maxRecDepth 100000 in
theorem fl_X7_20 : bq_FL RX7 20 7 1 := ⟨by decide, by decide, bq_mem (List.mem_of_getElem? (i := 84) (by decide +kernel)) rfl⟩
set_option maxRecDepth 100000 in
theorem fl_X7_52 : bq_FL RX7 52 7 2 := ⟨by decide, by decide, bq_mem (List.mem_of_getElem? (i := 85) (by decide +kernel)) rfl⟩
set_option maxRecDepth 100000 in
theorem fl_X7_33 : bq_FL RX7 33 7 3 := ⟨by decide, by decide, bq_mem (List.mem_of_getElem? (i := 86) (by decide +kernel)) rfl⟩
set_option maxRecDepth 100000 in
theorem fl_X7_69 : bq_FL RX7 69 7 4 := ⟨by decide, by decide, bq_mem (List.mem_of_getElem? (i := 87) (by decide +kernel)) rfl⟩
set_option maxRecDepth 100000 in
theorem fl_X7_24 : bq_FL RX7 24 7 5 := ⟨by decide, by decide, bq_mem (List.mem_of_getElem? (i := 88) (by decide +kernel)) rfl⟩
set_option maxRecDepth 100000 in
theorem fl_X5_21 : bq_FL RX5 21 5 0 := ⟨by decide, by decide, bq_mem (List.mem_of_getElem? (i := 114) (by decide +kernel)) rfl⟩
set_option maxRecDepth 100000 in
theorem fl_X8_135 : bq_FL RX8 135 5 0 := ⟨by decide, by decide, bq_mem (List.mem_of_getElem? (i := 115) (by decide +kernel)) rfl⟩
set_option maxRecDepth 100000 in
theorem fl_X5_25 : bq_FL RX5 25 5 1 := ⟨by decide, by decide, bq_mem (List.mem_of_getElem? (i := 116) (by decide +kernel)) rfl⟩
set_option maxRecDepth 100000 in
theorem fl_X0_41 : bq_FL RX0 41 5 1 := ⟨by decide, by decide, bq_mem (List.mem_of_getElem? (i := 117) (by decide +kernel)) rfl⟩
set_option maxRecDepth 100000 in
theorem fl_X8_138 : bq_FL RX8 138 5 1 := ⟨by decide, by decide, bq_mem (List.mem_of_getElem? (i := 118) (by decide +kernel)) rfl⟩
set_option maxRecDepth 100000 in
theorem fl_X5_28 : bq_FL RX5 28 5 2 := ⟨by decide, by decide, bq_mem (List.mem_of_getElem? (i := 119) (by decide +kernel)) rfl⟩
set_option maxRecDepth 100000 in
theorem fl_X0_48 : bq_FL RX0 48 5 2 := ⟨by decide, by decide, bq_mem (List.mem_of_getElem? (i := 120) (by decide +kernel)) rfl⟩
set_option maxRecDepth 100000 in
theorem fl_X8_145 : bq_FL RX8 145 5 2 := ⟨by decide, by decide, bq_mem (List.mem_of_getElem? (i := 121) (by decide +kernel)) rfl⟩
set_option maxRecDepth 100000 in
theorem fl_X5_9 : bq_FL RX5 9 5 3 := ⟨by decide, by decide, bq_mem (List.mem_of_getElem? (i := 122) (by decide +kernel)) rfl⟩
set_option maxRecDepth 100000 in
theorem fl_X8_109 : bq_FL RX8 109 5 3 := ⟨by decide, by decide, bq_mem (List.mem_of_getElem? (i := 123) (by decide +kernel)) rfl⟩
set_option maxRecDepth 100000 in
theorem fl_X5_15 : bq_FL RX5 15 5 4 := ⟨by decide, by decide, bq_mem (List.mem_of_getElem? (i := 124) (by decide +kernel)) rfl⟩
set_option maxRecDepth 100000 in
theorem fl_X8_113 : bq_FL RX8 113 5 4 := ⟨by decide, by decide, bq_mem (List.mem_of_getElem? (i := 125) (by decide +kernel)) rfl⟩
set_option maxRecDepth 100000 in
theorem fl_X5_18 : bq_FL RX5 18 5 5 := ⟨by decide, by decide, bq_mem (List.mem_of_getElem? (i := 126) (by decide +kernel)) rfl⟩
set_option maxRecDepth 100000 in
theorem fl_X8_116 : bq_FL RX8 116 5 5 := ⟨by decide, by decide, bq_mem (List.mem_of_getElem? (i := 127) (by decide +kernel)) rfl⟩
set_option maxRecDepth 100000 in
theorem fl_X5_31 : bq_FL RX5 31 5 6 := ⟨by decide, by decide, bq_mem (List.mem_of_getElem? (i := 128) (by decide +kernel)) rfl⟩
set_option maxRecDepth 100000 in
theorem fl_X8_119 : bq_FL RX8 119 5 6 := ⟨by decide, by decide, bq_mem (List.mem_of_getElem? (i := 129) (by decide +kernel)) rfl⟩
set_option maxRecDepth 100000 in
theorem fl_X5_34 : bq_FL RX5 34 5 7 := ⟨by decide, by decide, bq_mem (List.mem_of_getElem? (i := 130) (by decide +kernel)) rfl⟩
set_option maxRecDepth 100000 in
theorem fl_X8_126 : bq_FL RX8 126 5 7 := ⟨by decide, by decide, bq_mem (List.mem_of_getElem? (i := 131) (by decide +kernel)) rfl⟩
set_option maxRecDepth 100000 in
theorem fl_X5_37 : bq_FL RX5 37 5 8 := ⟨by decide, by decide, bq_mem (List.mem_of_getElem? (i := 132) (by decide +kernel)) rfl⟩
set_option maxRecDepth 100000 in
theorem fl_X8_129 : bq_FL RX8 129 5 8 := ⟨by decide, by decide, bq_mem (List.mem_of_getElem? (i := 133) (by decide +kernel)) rfl⟩
set_option maxRecDepth 100000 in
theorem fl_X5_40 : bq_FL RX5 40 5 9 := ⟨by decide, by decide, bq_mem (List.mem_of_getElem? (i := 134) (by decide +kernel)) rfl⟩
set_option maxRecDepth 100000 in
theorem fl_X8_132 : bq_FL RX8 132 5 9 := ⟨by decide, by decide, bq_mem (List.mem_of_getElem? (i := 135) (by decide +kernel)) rfl⟩
set_option maxRecDepth 100000 in
theorem fl_X5_47 : bq_FL RX5 47 5 10 := ⟨by decide, by decide, bq_mem (List.mem_of_getElem? (i := 136) (by decide +kernel)) rfl⟩
set_option maxRecDepth 100000 in
theorem fl_X8_227 : bq_FL RX8 227 5 10 := ⟨by decide, by decide, bq_mem (List.mem_of_getElem? (i := 137) (by decide +kernel)) rfl⟩
set_option maxRecDepth 100000 in
theorem fl_X5_63 : bq_FL RX5 63 5 11 := ⟨by decide, by decide, bq_mem (List.mem_of_getElem? (i := 138) (by decide +kernel)) rfl⟩
set_option maxRecDepth 100000 in
theorem fl_X8_224 : bq_FL RX8 224 5 11 := ⟨by decide, by decide, bq_mem (List.mem_of_getElem? (i := 139) (by decide +kernel)) rfl⟩
set_option maxRecDepth 100000 in
theorem fs_X0_23 : Cond.fieldLink RX0 23 "BroomFlood$Cellar" "AT_FIRST" "[I" ∈ bq_tbl := bq_mem (List.mem_of_getElem? (i := 169) (by decide +kernel)) rfl
set_option maxRecDepth 100000 in
theorem fl_X0_9 : bq_FL RX0 9 0 0 := ⟨by decide, by decide, bq_mem (List.mem_of_getElem? (i := 175) (by decide +kernel)) rfl⟩
set_option maxRecDepth 100000 in
theorem fl_X8_270 : bq_FL RX8 270 0 0 := ⟨by decide, by decide, bq_mem (List.mem_of_getElem? (i := 176) (by decide +kernel)) rfl⟩
set_option maxRecDepth 100000 in
theorem fl_X0_16 : bq_FL RX0 16 0 1 := ⟨by decide, by decide, bq_mem (List.mem_of_getElem? (i := 177) (by decide +kernel)) rfl⟩
set_option maxRecDepth 100000 in
theorem fl_X8_99 : bq_FL RX8 99 0 1 := ⟨by decide, by decide, bq_mem (List.mem_of_getElem? (i := 178) (by decide +kernel)) rfl⟩
set_option maxRecDepth 100000 in
theorem fl_X0_26 : bq_FL RX0 26 0 2 := ⟨by decide, by decide, bq_mem (List.mem_of_getElem? (i := 179) (by decide +kernel)) rfl⟩
set_option maxRecDepth 100000 in
theorem fl_X7_58 : bq_FL RX7 58 0 2 := ⟨by decide, by decide, bq_mem (List.mem_of_getElem? (i := 180) (by decide +kernel)) rfl⟩
set_option maxRecDepth 100000 in
theorem fl_X8_273 : bq_FL RX8 273 0 2 := ⟨by decide, by decide, bq_mem (List.mem_of_getElem? (i := 181) (by decide +kernel)) rfl⟩
set_option maxRecDepth 100000 in
theorem fl_X6_11 : bq_FL RX6 11 6 0 := ⟨by decide, by decide, bq_mem (List.mem_of_getElem? (i := 200) (by decide +kernel)) rfl⟩
set_option maxRecDepth 100000 in
theorem fl_X6_30 : bq_FL RX6 30 6 1 := ⟨by decide, by decide, bq_mem (List.mem_of_getElem? (i := 201) (by decide +kernel)) rfl⟩
set_option maxRecDepth 100000 in
theorem fl_X8_108 : bq_FL RX8 108 6 1 := ⟨by decide, by decide, bq_mem (List.mem_of_getElem? (i := 202) (by decide +kernel)) rfl⟩
set_option maxRecDepth 100000 in
theorem fl_X6_16 : bq_FL RX6 16 6 2 := ⟨by decide, by decide, bq_mem (List.mem_of_getElem? (i := 203) (by decide +kernel)) rfl⟩
set_option maxRecDepth 100000 in
theorem fl_X4_9 : bq_FL RX4 9 4 0 := ⟨by decide, by decide, bq_mem (List.mem_of_getElem? (i := 217) (by decide +kernel)) rfl⟩
set_option maxRecDepth 100000 in
theorem fl_X4_13 : bq_FL RX4 13 4 1 := ⟨by decide, by decide, bq_mem (List.mem_of_getElem? (i := 218) (by decide +kernel)) rfl⟩
set_option maxRecDepth 100000 in
theorem fl_X4_16 : bq_FL RX4 16 4 2 := ⟨by decide, by decide, bq_mem (List.mem_of_getElem? (i := 219) (by decide +kernel)) rfl⟩
set_option maxRecDepth 100000 in
theorem fl_X8_105 : bq_FL RX8 105 4 2 := ⟨by decide, by decide, bq_mem (List.mem_of_getElem? (i := 220) (by decide +kernel)) rfl⟩
set_option maxRecDepth 100000 in
theorem fl_X1_13 : bq_FL RX1 13 1 0 := ⟨by decide, by decide, bq_mem (List.mem_of_getElem? (i := 235) (by decide +kernel)) rfl⟩
set_option maxRecDepth 100000 in
theorem fl_X1_7 : bq_FL RX1 7 1 1 := ⟨by decide, by decide, bq_mem (List.mem_of_getElem? (i := 236) (by decide +kernel)) rfl⟩
set_option maxRecDepth 100000 in
theorem fl_X2_7 : bq_FL RX2 7 2 0 := ⟨by decide, by decide, bq_mem (List.mem_of_getElem? (i := 248) (by decide +kernel)) rfl⟩
set_option maxRecDepth 100000 in
theorem fl_X8_276 : bq_FL RX8 276 2 0 := ⟨by decide, by decide, bq_mem (List.mem_of_getElem? (i := 249) (by decide +kernel)) rfl⟩
set_option maxRecDepth 100000 in
theorem fl_X8_10 : bq_FL RX8 10 8 0 := ⟨by decide, by decide, bq_mem (List.mem_of_getElem? (i := 254) (by decide +kernel)) rfl⟩
set_option maxRecDepth 100000 in
theorem fl_X8_19 : bq_FL RX8 19 8 1 := ⟨by decide, by decide, bq_mem (List.mem_of_getElem? (i := 255) (by decide +kernel)) rfl⟩
set_option maxRecDepth 100000 in
theorem fl_X8_26 : bq_FL RX8 26 8 2 := ⟨by decide, by decide, bq_mem (List.mem_of_getElem? (i := 256) (by decide +kernel)) rfl⟩
set_option maxRecDepth 100000 in
theorem fl_X8_30 : bq_FL RX8 30 8 3 := ⟨by decide, by decide, bq_mem (List.mem_of_getElem? (i := 257) (by decide +kernel)) rfl⟩
set_option maxRecDepth 100000 in
theorem fl_X8_36 : bq_FL RX8 36 8 4 := ⟨by decide, by decide, bq_mem (List.mem_of_getElem? (i := 258) (by decide +kernel)) rfl⟩
set_option maxRecDepth 100000 in
theorem fl_X8_40 : bq_FL RX8 40 8 5 := ⟨by decide, by decide, bq_mem (List.mem_of_getElem? (i := 259) (by decide +kernel)) rfl⟩
set_option maxRecDepth 100000 in
theorem fl_X8_46 : bq_FL RX8 46 8 6 := ⟨by decide, by decide, bq_mem (List.mem_of_getElem? (i := 260) (by decide +kernel)) rfl⟩
set_option maxRecDepth 100000 in
theorem fl_X8_50 : bq_FL RX8 50 8 7 := ⟨by decide, by decide, bq_mem (List.mem_of_getElem? (i := 261) (by decide +kernel)) rfl⟩
set_option maxRecDepth 100000 in
theorem fl_X8_54 : bq_FL RX8 54 8 8 := ⟨by decide, by decide, bq_mem (List.mem_of_getElem? (i := 262) (by decide +kernel)) rfl⟩
set_option maxRecDepth 100000 in
theorem fl_X8_61 : bq_FL RX8 61 8 9 := ⟨by decide, by decide, bq_mem (List.mem_of_getElem? (i := 263) (by decide +kernel)) rfl⟩
set_option maxRecDepth 100000 in
theorem fl_X8_68 : bq_FL RX8 68 8 10 := ⟨by decide, by decide, bq_mem (List.mem_of_getElem? (i := 264) (by decide +kernel)) rfl⟩
set_option maxRecDepth 100000 in
theorem fl_X8_72 : bq_FL RX8 72 8 11 := ⟨by decide, by decide, bq_mem (List.mem_of_getElem? (i := 265) (by decide +kernel)) rfl⟩
set_option maxRecDepth 100000 in
theorem fl_X8_79 : bq_FL RX8 79 8 12 := ⟨by decide, by decide, bq_mem (List.mem_of_getElem? (i := 266) (by decide +kernel)) rfl⟩
set_option maxRecDepth 100000 in
theorem fs_J0_38 : Cond.fieldLink RJ0 38 "java/lang/String" "COMPACT_STRINGS" "Z" ∈ bq_tbl := bq_mem (List.mem_of_getElem? (i := 346) (by decide +kernel)) rfl
set_option maxRecDepth 100000 in
theorem fs_J0_1053 : Cond.fieldLink RJ0 1053 "jdk/internal/util/Preconditions" "SIOOBE_FORMATTER" "Ljava/util/function/BiFunction;" ∈ bq_tbl := bq_mem (List.mem_of_getElem? (i := 387) (by decide +kernel)) rfl
set_option maxRecDepth 100000 in
theorem fs_J2_44 : Cond.fieldLink RJ2 44 "java/lang/StringUTF16" "$assertionsDisabled" "Z" ∈ bq_tbl := bq_mem (List.mem_of_getElem? (i := 398) (by decide +kernel)) rfl
set_option maxRecDepth 100000 in
theorem fs_J2_59 : Cond.fieldLink RJ2 59 "java/lang/StringUTF16" "HI_BYTE_SHIFT" "I" ∈ bq_tbl := bq_mem (List.mem_of_getElem? (i := 400) (by decide +kernel)) rfl
set_option maxRecDepth 100000 in
theorem fs_J2_63 : Cond.fieldLink RJ2 63 "java/lang/StringUTF16" "LO_BYTE_SHIFT" "I" ∈ bq_tbl := bq_mem (List.mem_of_getElem? (i := 402) (by decide +kernel)) rfl
set_option maxRecDepth 100000 in
theorem fs_X7_80 : Cond.fieldLink RX7 80 "BroomFlood$Reader" "LEAST" "[I" ∈ bq_tbl := bq_mem (List.mem_of_getElem? (i := 433) (by decide +kernel)) rfl
set_option maxRecDepth 100000 in
theorem fs_X7_83 : Cond.fieldLink RX7 83 "BroomFlood$Reader" "GREATEST" "[I" ∈ bq_tbl := bq_mem (List.mem_of_getElem? (i := 435) (by decide +kernel)) rfl
set_option maxRecDepth 100000 in
theorem fl_X9_164 : bq_FL RX9 164 9 0 := ⟨by decide, by decide, bq_mem (List.mem_of_getElem? (i := 801) (by decide +kernel)) rfl⟩
set_option maxRecDepth 100000 in
theorem fl_X9_7 : bq_FL RX9 7 9 1 := ⟨by decide, by decide, bq_mem (List.mem_of_getElem? (i := 802) (by decide +kernel)) rfl⟩
set_option maxRecDepth 100000 in
theorem fl_X9_53 : bq_FL RX9 53 9 2 := ⟨by decide, by decide, bq_mem (List.mem_of_getElem? (i := 803) (by decide +kernel)) rfl⟩
set_option maxRecDepth 100000 in
theorem fl_X9_13 : bq_FL RX9 13 9 3 := ⟨by decide, by decide, bq_mem (List.mem_of_getElem? (i := 804) (by decide +kernel)) rfl⟩
set_option maxRecDepth 100000 in
theorem fl_X9_16 : bq_FL RX9 16 9 4 := ⟨by decide, by decide, bq_mem (List.mem_of_getElem? (i := 805) (by decide +kernel)) rfl⟩
set_option maxRecDepth 100000 in
theorem fl_X9_19 : bq_FL RX9 19 9 5 := ⟨by decide, by decide, bq_mem (List.mem_of_getElem? (i := 806) (by decide +kernel)) rfl⟩
set_option maxRecDepth 100000 in
theorem fl_X9_22 : bq_FL RX9 22 9 6 := ⟨by decide, by decide, bq_mem (List.mem_of_getElem? (i := 807) (by decide +kernel)) rfl⟩
set_option maxRecDepth 100000 in
theorem fl_X9_95 : bq_FL RX9 95 9 7 := ⟨by decide, by decide, bq_mem (List.mem_of_getElem? (i := 808) (by decide +kernel)) rfl⟩
set_option maxRecDepth 100000 in
theorem fl_X9_25 : bq_FL RX9 25 9 8 := ⟨by decide, by decide, bq_mem (List.mem_of_getElem? (i := 809) (by decide +kernel)) rfl⟩
set_option maxRecDepth 100000 in
theorem fl_X9_28 : bq_FL RX9 28 9 9 := ⟨by decide, by decide, bq_mem (List.mem_of_getElem? (i := 810) (by decide +kernel)) rfl⟩
set_option maxRecDepth 100000 in
theorem fl_X9_32 : bq_FL RX9 32 9 10 := ⟨by decide, by decide, bq_mem (List.mem_of_getElem? (i := 811) (by decide +kernel)) rfl⟩
set_option maxRecDepth 100000 in
theorem fl_X9_98 : bq_FL RX9 98 9 11 := ⟨by decide, by decide, bq_mem (List.mem_of_getElem? (i := 812) (by decide +kernel)) rfl⟩
set_option maxRecDepth 100000 in
theorem fl_X9_57 : bq_FL RX9 57 9 12 := ⟨by decide, by decide, bq_mem (List.mem_of_getElem? (i := 813) (by decide +kernel)) rfl⟩
set_option maxRecDepth 100000 in
theorem fl_X9_73 : bq_FL RX9 73 9 13 := ⟨by decide, by decide, bq_mem (List.mem_of_getElem? (i := 814) (by decide +kernel)) rfl⟩
set_option maxRecDepth 100000 in
theorem fl_X9_64 : bq_FL RX9 64 9 14 := ⟨by decide, by decide, bq_mem (List.mem_of_getElem? (i := 815) (by decide +kernel)) rfl⟩
set_option maxRecDepth 100000 in
theorem fl_X9_76 : bq_FL RX9 76 9 15 := ⟨by decide, by decide, bq_mem (List.mem_of_getElem? (i := 816) (by decide +kernel)) rfl⟩
set_option maxRecDepth 100000 in
theorem fl_X9_104 : bq_FL RX9 104 9 16 := ⟨by decide, by decide, bq_mem (List.mem_of_getElem? (i := 817) (by decide +kernel)) rfl⟩
set_option maxRecDepth 100000 in
theorem fl_X9_111 : bq_FL RX9 111 9 17 := ⟨by decide, by decide, bq_mem (List.mem_of_getElem? (i := 818) (by decide +kernel)) rfl⟩
set_option maxRecDepth 100000 in
theorem fl_X9_114 : bq_FL RX9 114 9 18 := ⟨by decide, by decide, bq_mem (List.mem_of_getElem? (i := 819) (by decide +kernel)) rfl⟩
set_option maxRecDepth 100000 in
theorem fl_X9_35 : bq_FL RX9 35 9 19 := ⟨by decide, by decide, bq_mem (List.mem_of_getElem? (i := 820) (by decide +kernel)) rfl⟩
set_option maxRecDepth 100000 in
theorem fs_J0_15 : Cond.fieldLink RJ0 15 "java/lang/String" "coder" "B" ∈ bq_tbl := bq_mem (List.mem_of_getElem? (i := 1063) (by decide +kernel)) rfl
set_option maxRecDepth 100000 in
theorem fs_J0_9 : Cond.fieldLink RJ0 9 "java/lang/String" "value" "[B" ∈ bq_tbl := bq_mem (List.mem_of_getElem? (i := 1064) (by decide +kernel)) rfl
set_option maxRecDepth 100000 in
theorem wk_J2_227 : Cond.constant RJ2 227 (65536) ∈ bq_tbl := bq_mem (List.mem_of_getElem? (i := 374) (by decide +kernel)) rfl
set_option maxRecDepth 100000 in
theorem wk_J11_110 : Cond.constant RJ11 110 (55232) ∈ bq_tbl := bq_mem (List.mem_of_getElem? (i := 413) (by decide +kernel)) rfl
set_option maxRecDepth 100000 in
theorem wk_J11_76 : Cond.constant RJ11 76 (56320) ∈ bq_tbl := bq_mem (List.mem_of_getElem? (i := 417) (by decide +kernel)) rfl
set_option maxRecDepth 100000 in
theorem wk_X5_73 : Cond.constant RX5 73 (99999) ∈ bq_tbl := bq_mem (List.mem_of_getElem? (i := 516) (by decide +kernel)) rfl
set_option maxRecDepth 100000 in
theorem wk_J6_265 : Cond.constant RJ6 265 (1431655765) ∈ bq_tbl := bq_mem (List.mem_of_getElem? (i := 560) (by decide +kernel)) rfl
set_option maxRecDepth 100000 in
theorem wk_J6_266 : Cond.constant RJ6 266 (858993459) ∈ bq_tbl := bq_mem (List.mem_of_getElem? (i := 561) (by decide +kernel)) rfl
set_option maxRecDepth 100000 in
theorem wk_J6_267 : Cond.constant RJ6 267 (252645135) ∈ bq_tbl := bq_mem (List.mem_of_getElem? (i := 562) (by decide +kernel)) rfl
set_option maxRecDepth 100000 in
theorem wk_X8_230 : Cond.constant RX8 230 (99999) ∈ bq_tbl := bq_mem (List.mem_of_getElem? (i := 667) (by decide +kernel)) rfl
set_option maxRecDepth 100000 in
theorem wk_X8_244 : Cond.constant RX8 244 (-1000000) ∈ bq_tbl := bq_mem (List.mem_of_getElem? (i := 696) (by decide +kernel)) rfl
set_option maxRecDepth 100000 in
theorem wk_X9_110 : Cond.constant RX9 110 (99999) ∈ bq_tbl := bq_mem (List.mem_of_getElem? (i := 909) (by decide +kernel)) rfl
set_option maxRecDepth 100000 in
theorem wk_X9_163 : Cond.constant RX9 163 (-1000000) ∈ bq_tbl := bq_mem (List.mem_of_getElem? (i := 1037) (by decide +kernel)) rfl
set_option maxRecDepth 100000 in
theorem wk_X8_208 : Cond.constantLong RX8 208 (-1000000) ∈ bq_tbl := bq_mem (List.mem_of_getElem? (i := 630) (by decide +kernel)) rfl
set_option maxRecDepth 100000 in
theorem wk_X8_249 : Cond.constantLong RX8 249 (10) ∈ bq_tbl := bq_mem (List.mem_of_getElem? (i := 701) (by decide +kernel)) rfl
set_option maxRecDepth 100000 in
theorem wk_X2_13 : Cond.constantLong RX2 13 (10) ∈ bq_tbl := bq_mem (List.mem_of_getElem? (i := 714) (by decide +kernel)) rfl
set_option maxRecDepth 100000 in
theorem wk_X2_19 : Cond.constantLong RX2 19 (100) ∈ bq_tbl := bq_mem (List.mem_of_getElem? (i := 720) (by decide +kernel)) rfl
set_option maxRecDepth 100000 in
theorem wk_X2_21 : Cond.constantLong RX2 21 (1000) ∈ bq_tbl := bq_mem (List.mem_of_getElem? (i := 725) (by decide +kernel)) rfl
set_option maxRecDepth 100000 in
theorem wk_X2_27 : Cond.constantLong RX2 27 (10000) ∈ bq_tbl := bq_mem (List.mem_of_getElem? (i := 731) (by decide +kernel)) rfl
set_option maxRecDepth 100000 in
theorem wk_X2_32 : Cond.constantLong RX2 32 (100000) ∈ bq_tbl := bq_mem (List.mem_of_getElem? (i := 737) (by decide +kernel)) rfl
set_option maxRecDepth 100000 in
theorem wk_X9_154 : Cond.constantLong RX9 154 (-1000000) ∈ bq_tbl := bq_mem (List.mem_of_getElem? (i := 1001) (by decide +kernel)) rfl
set_option maxRecDepth 100000 in
theorem wk_X9_168 : Cond.constantLong RX9 168 (11) ∈ bq_tbl := bq_mem (List.mem_of_getElem? (i := 1042) (by decide +kernel)) rfl
set_option maxRecDepth 100000 in
theorem wk_X9_170 : Cond.constantLong RX9 170 (101) ∈ bq_tbl := bq_mem (List.mem_of_getElem? (i := 1043) (by decide +kernel)) rfl
set_option maxRecDepth 100000 in
theorem wk_X9_172 : Cond.constantLong RX9 172 (1011) ∈ bq_tbl := bq_mem (List.mem_of_getElem? (i := 1044) (by decide +kernel)) rfl
set_option maxRecDepth 100000 in
theorem wk_X9_174 : Cond.constantLong RX9 174 (10101) ∈ bq_tbl := bq_mem (List.mem_of_getElem? (i := 1045) (by decide +kernel)) rfl
set_option maxRecDepth 100000 in
theorem wk_X9_176 : Cond.constantLong RX9 176 (100001) ∈ bq_tbl := bq_mem (List.mem_of_getElem? (i := 1046) (by decide +kernel)) rfl
set_option maxRecDepth 100000 in
theorem wl_L_7 : Cond.classLink RL 7 RX8 ∈ bq_tbl := bq_mem (List.mem_of_getElem? (i := 54) (by decide +kernel)) rfl
set_option maxRecDepth 100000 in
theorem wl_X8_7 : Cond.classLink RX8 7 RX3 ∈ bq_tbl := bq_mem (List.mem_of_getElem? (i := 62) (by decide +kernel)) rfl
set_option maxRecDepth 100000 in
theorem wl_X8_16 : Cond.classLink RX8 16 RX7 ∈ bq_tbl := bq_mem (List.mem_of_getElem? (i := 77) (by decide +kernel)) rfl
set_option maxRecDepth 100000 in
theorem wl_X8_23 : Cond.classLink RX8 23 RX0 ∈ bq_tbl := bq_mem (List.mem_of_getElem? (i := 102) (by decide +kernel)) rfl
set_option maxRecDepth 100000 in
theorem wl_X0_13 : Cond.classLink RX0 13 RX5 ∈ bq_tbl := bq_mem (List.mem_of_getElem? (i := 108) (by decide +kernel)) rfl
set_option maxRecDepth 100000 in
theorem wl_X8_33 : Cond.classLink RX8 33 RX5 ∈ bq_tbl := bq_mem (List.mem_of_getElem? (i := 189) (by decide +kernel)) rfl
set_option maxRecDepth 100000 in
theorem wl_X8_43 : Cond.classLink RX8 43 RX6 ∈ bq_tbl := bq_mem (List.mem_of_getElem? (i := 191) (by decide +kernel)) rfl
set_option maxRecDepth 100000 in
theorem wl_X6_9 : Cond.classLink RX6 9 RX5 ∈ bq_tbl := bq_mem (List.mem_of_getElem? (i := 197) (by decide +kernel)) rfl
set_option maxRecDepth 100000 in
theorem wl_X8_58 : Cond.classLink RX8 58 RX4 ∈ bq_tbl := bq_mem (List.mem_of_getElem? (i := 211) (by decide +kernel)) rfl
set_option maxRecDepth 100000 in
theorem wl_X8_65 : Cond.classLink RX8 65 RX1 ∈ bq_tbl := bq_mem (List.mem_of_getElem? (i := 229) (by decide +kernel)) rfl
set_option maxRecDepth 100000 in
theorem wl_X8_76 : Cond.classLink RX8 76 RX2 ∈ bq_tbl := bq_mem (List.mem_of_getElem? (i := 242) (by decide +kernel)) rfl
set_option maxRecDepth 100000 in
theorem wl_L_10 : Cond.classLink RL 10 RX9 ∈ bq_tbl := bq_mem (List.mem_of_getElem? (i := 754) (by decide +kernel)) rfl
set_option maxRecDepth 100000 in
theorem wa_X8 : Cond.instantiable RX8 13 ∈ bq_tbl := bq_mem (List.mem_of_getElem? (i := 55) (by decide +kernel)) rfl
set_option maxRecDepth 100000 in
theorem wa_X3 : Cond.instantiable RX3 2 ∈ bq_tbl := bq_mem (List.mem_of_getElem? (i := 63) (by decide +kernel)) rfl
set_option maxRecDepth 100000 in
theorem wa_X7 : Cond.instantiable RX7 6 ∈ bq_tbl := bq_mem (List.mem_of_getElem? (i := 78) (by decide +kernel)) rfl
set_option maxRecDepth 100000 in
theorem wa_X0 : Cond.instantiable RX0 3 ∈ bq_tbl := bq_mem (List.mem_of_getElem? (i := 103) (by decide +kernel)) rfl
set_option maxRecDepth 100000 in
theorem wa_X5 : Cond.instantiable RX5 12 ∈ bq_tbl := bq_mem (List.mem_of_getElem? (i := 109) (by decide +kernel)) rfl
set_option maxRecDepth 100000 in
theorem wa_X6 : Cond.instantiable RX6 3 ∈ bq_tbl := bq_mem (List.mem_of_getElem? (i := 192) (by decide +kernel)) rfl
set_option maxRecDepth 100000 in
theorem wa_X4 : Cond.instantiable RX4 3 ∈ bq_tbl := bq_mem (List.mem_of_getElem? (i := 212) (by decide +kernel)) rfl
set_option maxRecDepth 100000 in
theorem wa_X1 : Cond.instantiable RX1 2 ∈ bq_tbl := bq_mem (List.mem_of_getElem? (i := 230) (by decide +kernel)) rfl
set_option maxRecDepth 100000 in
theorem wa_X2 : Cond.instantiable RX2 1 ∈ bq_tbl := bq_mem (List.mem_of_getElem? (i := 243) (by decide +kernel)) rfl
set_option maxRecDepth 100000 in
theorem wa_X9 : Cond.instantiable RX9 20 ∈ bq_tbl := bq_mem (List.mem_of_getElem? (i := 755) (by decide +kernel)) rfl
set_option maxRecDepth 100000 in
theorem wn_obj : Cond.instanceMethod Lib.objectInit ∈ bq_tbl := bq_mem (List.mem_of_getElem? (i := 60) (by decide +kernel)) rfl
set_option maxRecDepth 100000 in
theorem wc_obj : Cond.code Lib.objectInit ⟨#[0xb1]⟩ 1 none ∈ bq_tbl := bq_mem (List.mem_of_getElem? (i := 61) (by decide +kernel)) rfl
set_option maxRecDepth 100000 in
theorem wy_int : Cond.arrayClass .int ∈ bq_tbl := bq_mem (List.mem_of_getElem? (i := 76) (by decide +kernel)) rfl
set_option maxRecDepth 100000 in
theorem wy_boolean : Cond.arrayClass .boolean ∈ bq_tbl := bq_mem (List.mem_of_getElem? (i := 228) (by decide +kernel)) rfl
set_option maxRecDepth 100000 in
theorem wy_long : Cond.arrayClass .long ∈ bq_tbl := bq_mem (List.mem_of_getElem? (i := 253) (by decide +kernel)) rfl
set_option maxRecDepth 100000 in
theorem wy_byte : Cond.arrayClass .byte ∈ bq_tbl := bq_mem (List.mem_of_getElem? (i := 466) (by decide +kernel)) rfl
set_option maxRecDepth 100000 in
theorem cl_L_9 : bq_CI RL 9 MX8_init 0 := ⟨⟨bq_mem (List.mem_of_getElem? (i := 56) (by decide +kernel)) rfl, wi_X8, wc_X8_init, by decide, by decide, by decide +kernel⟩, rfl, wn_X8_init⟩
set_option maxRecDepth 100000 in
theorem wm_X8_1 : Cond.methodLink RX8 1 Lib.objectInit ∈ bq_tbl := bq_mem (List.mem_of_getElem? (i := 59) (by decide +kernel)) rfl
set_option maxRecDepth 100000 in
theorem cl_X8_9 : bq_CI RX8 9 MX3_init 0 := ⟨⟨bq_mem (List.mem_of_getElem? (i := 64) (by decide +kernel)) rfl, wi_X3, wc_X3_init, by decide, by decide, by decide +kernel⟩, rfl, wn_X3_init⟩
set_option maxRecDepth 100000 in
theorem wm_X3_1 : Cond.methodLink RX3 1 Lib.objectInit ∈ bq_tbl := bq_mem (List.mem_of_getElem? (i := 67) (by decide +kernel)) rfl
set_option maxRecDepth 100000 in
theorem cl_X8_18 : bq_CI RX8 18 MX7_init 0 := ⟨⟨bq_mem (List.mem_of_getElem? (i := 79) (by decide +kernel)) rfl, wi_X7, wc_X7_init, by decide, by decide, by decide +kernel⟩, rfl, wn_X7_init⟩
set_option maxRecDepth 100000 in
theorem wm_X7_3 : Cond.methodLink RX7 3 Lib.objectInit ∈ bq_tbl := bq_mem (List.mem_of_getElem? (i := 82) (by decide +kernel)) rfl
set_option maxRecDepth 100000 in
theorem cl_X8_25 : bq_CI RX8 25 MX0_init 0 := ⟨⟨bq_mem (List.mem_of_getElem? (i := 104) (by decide +kernel)) rfl, wi_X0, wc_X0_init, by decide, by decide, by decide +kernel⟩, rfl, wn_X0_init⟩
set_option maxRecDepth 100000 in
theorem wm_X0_1 : Cond.methodLink RX0 1 Lib.objectInit ∈ bq_tbl := bq_mem (List.mem_of_getElem? (i := 107) (by decide +kernel)) rfl
set_option maxRecDepth 100000 in
theorem cl_X0_15 : bq_CI RX0 15 MX5_init 0 := ⟨⟨bq_mem (List.mem_of_getElem? (i := 110) (by decide +kernel)) rfl, wi_X5, wc_X5_init, by decide, by decide, by decide +kernel⟩, rfl, wn_X5_init⟩
set_option maxRecDepth 100000 in
theorem wm_X5_3 : Cond.methodLink RX5 3 Lib.objectInit ∈ bq_tbl := bq_mem (List.mem_of_getElem? (i := 113) (by decide +kernel)) rfl
set_option maxRecDepth 100000 in
theorem cl_X0_20 : bq_CV RX0 20 MX0_tellNothing 0 0 := ⟨⟨bq_mem (List.mem_of_getElem? (i := 165) (by decide +kernel)) rfl, wi_X0, wc_X0_tellNothing, by decide, by decide, by decide +kernel⟩, wn_X0_tellNothing, ws_X0_tellNothing, by decide, rfl⟩
set_option maxRecDepth 100000 in
theorem cl_X0_30 : bq_CV RX0 30 MX5_empty 0 5 := ⟨⟨bq_mem (List.mem_of_getElem? (i := 171) (by decide +kernel)) rfl, wi_X5, wc_X5_empty, by decide, by decide, by decide +kernel⟩, wn_X5_empty, ws_X5_empty, by decide, rfl⟩
set_option maxRecDepth 100000 in
theorem cl_X8_35 : bq_CI RX8 35 MX5_init 0 := ⟨⟨bq_mem (List.mem_of_getElem? (i := 190) (by decide +kernel)) rfl, wi_X5, wc_X5_init, by decide, by decide, by decide +kernel⟩, rfl, wn_X5_init⟩
set_option maxRecDepth 100000 in
theorem cl_X8_45 : bq_CI RX8 45 MX6_init 0 := ⟨⟨bq_mem (List.mem_of_getElem? (i := 193) (by decide +kernel)) rfl, wi_X6, wc_X6_init, by decide, by decide, by decide +kernel⟩, rfl, wn_X6_init⟩
set_option maxRecDepth 100000 in
theorem wm_X6_1 : Cond.methodLink RX6 1 Lib.objectInit ∈ bq_tbl := bq_mem (List.mem_of_getElem? (i := 196) (by decide +kernel)) rfl
set_option maxRecDepth 100000 in
theorem cl_X6_15 : bq_CI RX6 15 MX5_init 0 := ⟨⟨bq_mem (List.mem_of_getElem? (i := 199) (by decide +kernel)) rfl, wi_X5, wc_X5_init, by decide, by decide, by decide +kernel⟩, rfl, wn_X5_init⟩
set_option maxRecDepth 100000 in
theorem cl_X8_60 : bq_CI RX8 60 MX4_init 0 := ⟨⟨bq_mem (List.mem_of_getElem? (i := 213) (by decide +kernel)) rfl, wi_X4, wc_X4_init, by decide, by decide, by decide +kernel⟩, rfl, wn_X4_init⟩
set_option maxRecDepth 100000 in
theorem wm_X4_1 : Cond.methodLink RX4 1 Lib.objectInit ∈ bq_tbl := bq_mem (List.mem_of_getElem? (i := 216) (by decide +kernel)) rfl
set_option maxRecDepth 100000 in
theorem wm_X1_1 : Cond.methodLink RX1 1 Lib.objectInit ∈ bq_tbl := bq_mem (List.mem_of_getElem? (i := 234) (by decide +kernel)) rfl
set_option maxRecDepth 100000 in
theorem wm_X2_1 : Cond.methodLink RX2 1 Lib.objectInit ∈ bq_tbl := bq_mem (List.mem_of_getElem? (i := 247) (by decide +kernel)) rfl
set_option maxRecDepth 100000 in
theorem cl_L_13 : bq_CV RL 13 MX8_type 1 8 := ⟨⟨bq_mem (List.mem_of_getElem? (i := 294) (by decide +kernel)) rfl, wi_X8, wc_X8_type, by decide, by decide, by decide +kernel⟩, wn_X8_type, ws_X8_type, by decide, rfl⟩
set_option maxRecDepth 100000 in
theorem cl_X8_83 : bq_CV RX8 83 MX3_add 1 3 := ⟨⟨bq_mem (List.mem_of_getElem? (i := 298) (by decide +kernel)) rfl, wi_X3, wc_X3_add, by decide, by decide, by decide +kernel⟩, wn_X3_add, ws_X3_add, by decide, rfl⟩
set_option maxRecDepth 100000 in
theorem cl_L_18 : bq_CV RL 18 MX8_clear 0 8 := ⟨⟨bq_mem (List.mem_of_getElem? (i := 302) (by decide +kernel)) rfl, wi_X8, wc_X8_clear, by decide, by decide, by decide +kernel⟩, wn_X8_clear, ws_X8_clear, by decide, rfl⟩
set_option maxRecDepth 100000 in
theorem cl_L_23 : bq_CV RL 23 MX8_cellar 0 8 := ⟨⟨bq_mem (List.mem_of_getElem? (i := 306) (by decide +kernel)) rfl, wi_X8, wc_X8_cellar, by decide, by decide, by decide +kernel⟩, wn_X8_cellar, ws_X8_cellar, by decide, rfl⟩
set_option maxRecDepth 100000 in
theorem cl_X8_91 : bq_CV RX8 91 MX7_read 2 7 := ⟨⟨bq_mem (List.mem_of_getElem? (i := 310) (by decide +kernel)) rfl, wi_X7, wc_X7_read, by decide, by decide, by decide +kernel⟩, wn_X7_read, ws_X7_read, by decide, rfl⟩
set_option maxRecDepth 100000 in
theorem cl_X7_15 : bq_CV RX7 15 MX0_tellNothing 0 0 := ⟨⟨bq_mem (List.mem_of_getElem? (i := 314) (by decide +kernel)) rfl, wi_X0, wc_X0_tellNothing, by decide, by decide, by decide +kernel⟩, wn_X0_tellNothing, ws_X0_tellNothing, by decide, rfl⟩
set_option maxRecDepth 100000 in
theorem cl_X7_27 : bq_CV RX7 27 MX7_step 1 7 := ⟨⟨bq_mem (List.mem_of_getElem? (i := 315) (by decide +kernel)) rfl, wi_X7, wc_X7_step, by decide, by decide, by decide +kernel⟩, wn_X7_step, ws_X7_step, by decide, rfl⟩
set_option maxRecDepth 100000 in
theorem cl_X7_86 : bq_CV RX7 86 MX3_at 1 3 := ⟨⟨bq_mem (List.mem_of_getElem? (i := 319) (by decide +kernel)) rfl, wi_X3, wc_X3_at, by decide, by decide, by decide +kernel⟩, wn_X3_at, ws_X3_at, by decide, rfl⟩
set_option maxRecDepth 100000 in
theorem cl_X7_89 : bq_CS RX7 89 MX7_isDigit 1 := ⟨⟨bq_mem (List.mem_of_getElem? (i := 323) (by decide +kernel)) rfl, wi_X7, wc_X7_isDigit, by decide, by decide, by decide +kernel⟩, wt_X7_isDigit⟩
set_option maxRecDepth 100000 in
theorem cl_X7_92 : bq_CV RX7 92 MX7_stepOverNumber 1 7 := ⟨⟨bq_mem (List.mem_of_getElem? (i := 326) (by decide +kernel)) rfl, wi_X7, wc_X7_stepOverNumber, by decide, by decide, by decide +kernel⟩, wn_X7_stepOverNumber, ws_X7_stepOverNumber, by decide, rfl⟩
set_option maxRecDepth 100000 in
theorem cl_X7_95 : bq_CS RX7 95 MJ9_min_7cf53 2 := ⟨⟨bq_mem (List.mem_of_getElem? (i := 330) (by decide +kernel)) rfl, wi_J9, wc_J9_min_7cf53, by decide, by decide, by decide +kernel⟩, wt_J9_min_7cf53⟩
set_option maxRecDepth 100000 in
theorem cb_X7_38 : bq_CB RX7 38 MJ0_indexOf_0f7a4 1 := ⟨bq_mem (List.mem_of_getElem? (i := 334) (by decide +kernel)) rfl, wi_J0, wc_J0_indexOf_0f7a4, by decide, by decide, by decide +kernel⟩
set_option maxRecDepth 100000 in
theorem cb_J0_633 : bq_CB RJ0 633 MJ0_indexOf_7cf53 2 := ⟨bq_mem (List.mem_of_getElem? (i := 338) (by decide +kernel)) rfl, wi_J0, wc_J0_indexOf_7cf53, by decide, by decide, by decide +kernel⟩
set_option maxRecDepth 100000 in
theorem cb_J0_492 : bq_CB RJ0 492 MJ0_isLatin1_aae02 0 := ⟨bq_mem (List.mem_of_getElem? (i := 342) (by decide +kernel)) rfl, wi_J0, wc_J0_isLatin1_aae02, by decide, by decide, by decide +kernel⟩
set_option maxRecDepth 100000 in
theorem cb_J0_505 : bq_CB RJ0 505 MJ0_length_8abf5 0 := ⟨bq_mem (List.mem_of_getElem? (i := 348) (by decide +kernel)) rfl, wi_J0, wc_J0_length_8abf5, by decide, by decide, by decide +kernel⟩
set_option maxRecDepth 100000 in
theorem cb_J0_335 : bq_CB RJ0 335 MJ0_coder_7d493 0 := ⟨bq_mem (List.mem_of_getElem? (i := 352) (by decide +kernel)) rfl, wi_J0, wc_J0_coder_7d493, by decide, by decide, by decide +kernel⟩
set_option maxRecDepth 100000 in
theorem cl_J0_637 : bq_CS RJ0 637 MJ1_indexOf_4cfef 4 := ⟨⟨bq_mem (List.mem_of_getElem? (i := 356) (by decide +kernel)) rfl, wi_J1, wc_J1_indexOf_4cfef, by decide, by decide, by decide +kernel⟩, wt_J1_indexOf_4cfef⟩
set_option maxRecDepth 100000 in
theorem cl_J1_88 : bq_CS RJ1 88 MJ1_canEncode_9a6ad 1 := ⟨⟨bq_mem (List.mem_of_getElem? (i := 359) (by decide +kernel)) rfl, wi_J1, wc_J1_canEncode_9a6ad, by decide, by decide, by decide +kernel⟩, wt_J1_canEncode_9a6ad⟩
set_option maxRecDepth 100000 in
theorem cl_J1_92 : bq_CS RJ1 92 MJ9_max_7cf53 2 := ⟨⟨bq_mem (List.mem_of_getElem? (i := 362) (by decide +kernel)) rfl, wi_J9, wc_J9_max_7cf53, by decide, by decide, by decide +kernel⟩, wt_J9_max_7cf53⟩
set_option maxRecDepth 100000 in
theorem cl_J1_38 : bq_CS RJ1 38 MJ9_min_7cf53 2 := ⟨⟨bq_mem (List.mem_of_getElem? (i := 365) (by decide +kernel)) rfl, wi_J9, wc_J9_min_7cf53, by decide, by decide, by decide +kernel⟩, wt_J9_min_7cf53⟩
set_option maxRecDepth 100000 in
theorem cl_J1_95 : bq_CS RJ1 95 MJ1_indexOfChar_4cfef 4 := ⟨⟨bq_mem (List.mem_of_getElem? (i := 366) (by decide +kernel)) rfl, wi_J1, wc_J1_indexOfChar_4cfef, by decide, by decide, by decide +kernel⟩, wt_J1_indexOfChar_4cfef⟩
set_option maxRecDepth 100000 in
theorem cl_J0_640 : bq_CS RJ0 640 MJ2_indexOf_4cfef 4 := ⟨⟨bq_mem (List.mem_of_getElem? (i := 369) (by decide +kernel)) rfl, wi_J2, wc_J2_indexOf_4cfef, by decide, by decide, by decide +kernel⟩, wt_J2_indexOf_4cfef⟩
set_option maxRecDepth 100000 in
theorem cl_J2_224 : bq_CS RJ2 224 MJ9_max_7cf53 2 := ⟨⟨bq_mem (List.mem_of_getElem? (i := 372) (by decide +kernel)) rfl, wi_J9, wc_J9_max_7cf53, by decide, by decide, by decide +kernel⟩, wt_J9_max_7cf53⟩
set_option maxRecDepth 100000 in
theorem cl_J2_183 : bq_CS RJ2 183 MJ9_min_7cf53 2 := ⟨⟨bq_mem (List.mem_of_getElem? (i := 373) (by decide +kernel)) rfl, wi_J9, wc_J9_min_7cf53, by decide, by decide, by decide +kernel⟩, wt_J9_min_7cf53⟩
set_option maxRecDepth 100000 in
theorem cl_J2_228 : bq_CS RJ2 228 MJ2_indexOfChar_4cfef 4 := ⟨⟨bq_mem (List.mem_of_getElem? (i := 375) (by decide +kernel)) rfl, wi_J2, wc_J2_indexOfChar_4cfef, by decide, by decide, by decide +kernel⟩, wt_J2_indexOfChar_4cfef⟩
set_option maxRecDepth 100000 in
theorem cl_J2_96 : bq_CS RJ2 96 MJ2_checkBoundsBeginEnd_d044e 3 := ⟨⟨bq_mem (List.mem_of_getElem? (i := 378) (by decide +kernel)) rfl, wi_J2, wc_J2_checkBoundsBeginEnd_d044e, by decide, by decide, by decide +kernel⟩, wt_J2_checkBoundsBeginEnd_d044e⟩
set_option maxRecDepth 100000 in
theorem cl_J2_48 : bq_CS RJ2 48 MJ2_length_9d52b 1 := ⟨⟨bq_mem (List.mem_of_getElem? (i := 381) (by decide +kernel)) rfl, wi_J2, wc_J2_length_9d52b, by decide, by decide, by decide +kernel⟩, wt_J2_length_9d52b⟩
set_option maxRecDepth 100000 in
theorem cl_J2_241 : bq_CS RJ2 241 MJ0_checkBoundsBeginEnd_23922 3 := ⟨⟨bq_mem (List.mem_of_getElem? (i := 384) (by decide +kernel)) rfl, wi_J0, wc_J0_checkBoundsBeginEnd_23922, by decide, by decide, by decide +kernel⟩, wt_J0_checkBoundsBeginEnd_23922⟩
set_option maxRecDepth 100000 in
theorem cl_J0_1062 : bq_CS RJ0 1062 MJ3_checkFromToIndex_8c36e 4 := ⟨⟨bq_mem (List.mem_of_getElem? (i := 389) (by decide +kernel)) rfl, wi_J3, wc_J3_checkFromToIndex_8c36e, by decide, by decide, by decide +kernel⟩, wt_J3_checkFromToIndex_8c36e⟩
set_option maxRecDepth 100000 in
theorem cl_J2_244 : bq_CS RJ2 244 MJ2_indexOfCharUnsafe_4cfef 4 := ⟨⟨bq_mem (List.mem_of_getElem? (i := 392) (by decide +kernel)) rfl, wi_J2, wc_J2_indexOfCharUnsafe_4cfef, by decide, by decide, by decide +kernel⟩, wt_J2_indexOfCharUnsafe_4cfef⟩
set_option maxRecDepth 100000 in
theorem cl_J2_71 : bq_CS RJ2 71 MJ2_getChar_3b067 2 := ⟨⟨bq_mem (List.mem_of_getElem? (i := 395) (by decide +kernel)) rfl, wi_J2, wc_J2_getChar_3b067, by decide, by decide, by decide +kernel⟩, wt_J2_getChar_3b067⟩
set_option maxRecDepth 100000 in
theorem cl_J2_232 : bq_CS RJ2 232 MJ2_indexOfSupplementary_4cfef 4 := ⟨⟨bq_mem (List.mem_of_getElem? (i := 404) (by decide +kernel)) rfl, wi_J2, wc_J2_indexOfSupplementary_4cfef, by decide, by decide, by decide +kernel⟩, wt_J2_indexOfSupplementary_4cfef⟩
set_option maxRecDepth 100000 in
theorem cl_J2_164 : bq_CS RJ2 164 MJ11_isValidCodePoint_9a6ad 1 := ⟨⟨bq_mem (List.mem_of_getElem? (i := 407) (by decide +kernel)) rfl, wi_J11, wc_J11_isValidCodePoint_9a6ad, by decide, by decide, by decide +kernel⟩, wt_J11_isValidCodePoint_9a6ad⟩
set_option maxRecDepth 100000 in
theorem cl_J2_157 : bq_CS RJ2 157 MJ11_highSurrogate_5068e 1 := ⟨⟨bq_mem (List.mem_of_getElem? (i := 410) (by decide +kernel)) rfl, wi_J11, wc_J11_highSurrogate_5068e, by decide, by decide, by decide +kernel⟩, wt_J11_highSurrogate_5068e⟩
set_option maxRecDepth 100000 in
theorem cl_J2_161 : bq_CS RJ2 161 MJ11_lowSurrogate_5068e 1 := ⟨⟨bq_mem (List.mem_of_getElem? (i := 414) (by decide +kernel)) rfl, wi_J11, wc_J11_lowSurrogate_5068e, by decide, by decide, by decide +kernel⟩, wt_J11_lowSurrogate_5068e⟩
set_option maxRecDepth 100000 in
theorem cl_X7_44 : bq_CV RX7 44 MX7_isOneTooMany 2 7 := ⟨⟨bq_mem (List.mem_of_getElem? (i := 418) (by decide +kernel)) rfl, wi_X7, wc_X7_isOneTooMany, by decide, by decide, by decide +kernel⟩, wn_X7_isOneTooMany, ws_X7_isOneTooMany, by decide, rfl⟩
set_option maxRecDepth 100000 in
theorem cl_X7_48 : bq_CV RX7 48 MX7_readItem 3 7 := ⟨⟨bq_mem (List.mem_of_getElem? (i := 425) (by decide +kernel)) rfl, wi_X7, wc_X7_readItem, by decide, by decide, by decide +kernel⟩, wn_X7_readItem, ws_X7_readItem, by decide, rfl⟩
set_option maxRecDepth 100000 in
theorem cl_X7_65 : bq_CV RX7 65 MX7_isWithin 1 7 := ⟨⟨bq_mem (List.mem_of_getElem? (i := 429) (by decide +kernel)) rfl, wi_X7, wc_X7_isWithin, by decide, by decide, by decide +kernel⟩, wn_X7_isWithin, ws_X7_isWithin, by decide, rfl⟩
set_option maxRecDepth 100000 in
theorem cl_X7_72 : bq_CV RX7 72 MX0_tellBroom 3 0 := ⟨⟨bq_mem (List.mem_of_getElem? (i := 437) (by decide +kernel)) rfl, wi_X0, wc_X0_tellBroom, by decide, by decide, by decide +kernel⟩, wn_X0_tellBroom, ws_X0_tellBroom, by decide, rfl⟩
set_option maxRecDepth 100000 in
theorem cl_X0_37 : bq_CV RX0 37 MX5_place 4 5 := ⟨⟨bq_mem (List.mem_of_getElem? (i := 441) (by decide +kernel)) rfl, wi_X5, wc_X5_place, by decide, by decide, by decide +kernel⟩, wn_X5_place, ws_X5_place, by decide, rfl⟩
set_option maxRecDepth 100000 in
theorem cl_X7_76 : bq_CV RX7 76 MX0_tellSetting 2 0 := ⟨⟨bq_mem (List.mem_of_getElem? (i := 445) (by decide +kernel)) rfl, wi_X0, wc_X0_tellSetting, by decide, by decide, by decide +kernel⟩, wn_X0_tellSetting, ws_X0_tellSetting, by decide, rfl⟩
set_option maxRecDepth 100000 in
theorem cl_X7_55 : bq_CV RX7 55 MX0_begin 0 0 := ⟨⟨bq_mem (List.mem_of_getElem? (i := 449) (by decide +kernel)) rfl, wi_X0, wc_X0_begin, by decide, by decide, by decide +kernel⟩, wn_X0_begin, ws_X0_begin, by decide, rfl⟩
set_option maxRecDepth 100000 in
theorem cl_X0_44 : bq_CV RX0 44 MX0_heightOf 1 0 := ⟨⟨bq_mem (List.mem_of_getElem? (i := 453) (by decide +kernel)) rfl, wi_X0, wc_X0_heightOf, by decide, by decide, by decide +kernel⟩, wn_X0_heightOf, ws_X0_heightOf, by decide, rfl⟩
set_option maxRecDepth 100000 in
theorem cl_X8_95 : bq_CV RX8 95 MX0_copyFrom 1 0 := ⟨⟨bq_mem (List.mem_of_getElem? (i := 457) (by decide +kernel)) rfl, wi_X0, wc_X0_copyFrom, by decide, by decide, by decide +kernel⟩, wn_X0_copyFrom, ws_X0_copyFrom, by decide, rfl⟩
set_option maxRecDepth 100000 in
theorem cl_X0_33 : bq_CV RX0 33 MX5_copyFrom 1 5 := ⟨⟨bq_mem (List.mem_of_getElem? (i := 461) (by decide +kernel)) rfl, wi_X5, wc_X5_copyFrom, by decide, by decide, by decide +kernel⟩, wn_X5_copyFrom, ws_X5_copyFrom, by decide, rfl⟩
set_option maxRecDepth 100000 in
theorem cl_X8_102 : bq_CV RX8 102 MX5_copyFrom 1 5 := ⟨⟨bq_mem (List.mem_of_getElem? (i := 465) (by decide +kernel)) rfl, wi_X5, wc_X5_copyFrom, by decide, by decide, by decide +kernel⟩, wn_X5_copyFrom, ws_X5_copyFrom, by decide, rfl⟩
set_option maxRecDepth 100000 in
theorem cl_L_27 : bq_CV RL 27 MX8_broom 2 8 := ⟨⟨bq_mem (List.mem_of_getElem? (i := 467) (by decide +kernel)) rfl, wi_X8, wc_X8_broom, by decide, by decide, by decide +kernel⟩, wn_X8_broom, ws_X8_broom, by decide, rfl⟩
set_option maxRecDepth 100000 in
theorem cl_X8_122 : bq_CS RX8 122 MX8_bitOf 2 := ⟨⟨bq_mem (List.mem_of_getElem? (i := 471) (by decide +kernel)) rfl, wi_X8, wc_X8_bitOf, by decide, by decide, by decide +kernel⟩, wt_X8_bitOf⟩
set_option maxRecDepth 100000 in
theorem cl_L_32 : bq_CV RL 32 MX8_now 1 8 := ⟨⟨bq_mem (List.mem_of_getElem? (i := 472) (by decide +kernel)) rfl, wi_X8, wc_X8_now, by decide, by decide, by decide +kernel⟩, wn_X8_now, ws_X8_now, by decide, rfl⟩
set_option maxRecDepth 100000 in
theorem cl_X8_141 : bq_CV RX8 141 MX0_heightOf 1 0 := ⟨⟨bq_mem (List.mem_of_getElem? (i := 476) (by decide +kernel)) rfl, wi_X0, wc_X0_heightOf, by decide, by decide, by decide +kernel⟩, wn_X0_heightOf, ws_X0_heightOf, by decide, rfl⟩
set_option maxRecDepth 100000 in
theorem cl_L_36 : bq_CV RL 36 MX8_minute 0 8 := ⟨⟨bq_mem (List.mem_of_getElem? (i := 477) (by decide +kernel)) rfl, wi_X8, wc_X8_minute, by decide, by decide, by decide +kernel⟩, wn_X8_minute, ws_X8_minute, by decide, rfl⟩
set_option maxRecDepth 100000 in
theorem cl_X8_148 : bq_CV RX8 148 MX6_remember 1 6 := ⟨⟨bq_mem (List.mem_of_getElem? (i := 481) (by decide +kernel)) rfl, wi_X6, wc_X6_remember, by decide, by decide, by decide +kernel⟩, wn_X6_remember, ws_X6_remember, by decide, rfl⟩
set_option maxRecDepth 100000 in
theorem cl_X6_20 : bq_CS RX6 20 MJ9_floorMod_7cf53 2 := ⟨⟨bq_mem (List.mem_of_getElem? (i := 485) (by decide +kernel)) rfl, wi_J9, wc_J9_floorMod_7cf53, by decide, by decide, by decide +kernel⟩, wt_J9_floorMod_7cf53⟩
set_option maxRecDepth 100000 in
theorem cl_X6_26 : bq_CV RX6 26 MX5_copyFrom 1 5 := ⟨⟨bq_mem (List.mem_of_getElem? (i := 488) (by decide +kernel)) rfl, wi_X5, wc_X5_copyFrom, by decide, by decide, by decide +kernel⟩, wn_X5_copyFrom, ws_X5_copyFrom, by decide, rfl⟩
set_option maxRecDepth 100000 in
theorem cl_X6_33 : bq_CS RX6 33 MJ9_min_7cf53 2 := ⟨⟨bq_mem (List.mem_of_getElem? (i := 489) (by decide +kernel)) rfl, wi_J9, wc_J9_min_7cf53, by decide, by decide, by decide +kernel⟩, wt_J9_min_7cf53⟩
set_option maxRecDepth 100000 in
theorem cl_X8_151 : bq_CV RX8 151 MX0_stairWidth 0 0 := ⟨⟨bq_mem (List.mem_of_getElem? (i := 490) (by decide +kernel)) rfl, wi_X0, wc_X0_stairWidth, by decide, by decide, by decide +kernel⟩, wn_X0_stairWidth, ws_X0_stairWidth, by decide, rfl⟩
set_option maxRecDepth 100000 in
theorem cl_X8_155 : bq_CV RX8 155 MX0_drainCups 0 0 := ⟨⟨bq_mem (List.mem_of_getElem? (i := 494) (by decide +kernel)) rfl, wi_X0, wc_X0_drainCups, by decide, by decide, by decide +kernel⟩, wn_X0_drainCups, ws_X0_drainCups, by decide, rfl⟩
set_option maxRecDepth 100000 in
theorem cl_X8_158 : bq_CV RX8 158 MX5_pass 2 5 := ⟨⟨bq_mem (List.mem_of_getElem? (i := 498) (by decide +kernel)) rfl, wi_X5, wc_X5_pass, by decide, by decide, by decide +kernel⟩, wn_X5_pass, ws_X5_pass, by decide, rfl⟩
set_option maxRecDepth 100000 in
theorem cl_X5_50 : bq_CV RX5 50 MX5_isThere 1 5 := ⟨⟨bq_mem (List.mem_of_getElem? (i := 502) (by decide +kernel)) rfl, wi_X5, wc_X5_isThere, by decide, by decide, by decide +kernel⟩, wn_X5_isThere, ws_X5_isThere, by decide, rfl⟩
set_option maxRecDepth 100000 in
theorem cl_X5_54 : bq_CV RX5 54 MX5_comes 1 5 := ⟨⟨bq_mem (List.mem_of_getElem? (i := 507) (by decide +kernel)) rfl, wi_X5, wc_X5_comes, by decide, by decide, by decide +kernel⟩, wn_X5_comes, ws_X5_comes, by decide, rfl⟩
set_option maxRecDepth 100000 in
theorem cl_X5_66 : bq_CV RX5 66 MX5_loadOf 1 5 := ⟨⟨bq_mem (List.mem_of_getElem? (i := 511) (by decide +kernel)) rfl, wi_X5, wc_X5_loadOf, by decide, by decide, by decide +kernel⟩, wn_X5_loadOf, ws_X5_loadOf, by decide, rfl⟩
set_option maxRecDepth 100000 in
theorem cl_X5_70 : bq_CS RX5 70 MJ9_max_7cf53 2 := ⟨⟨bq_mem (List.mem_of_getElem? (i := 515) (by decide +kernel)) rfl, wi_J9, wc_J9_max_7cf53, by decide, by decide, by decide +kernel⟩, wt_J9_max_7cf53⟩
set_option maxRecDepth 100000 in
theorem cl_X5_58 : bq_CS RX5 58 MJ9_min_7cf53 2 := ⟨⟨bq_mem (List.mem_of_getElem? (i := 517) (by decide +kernel)) rfl, wi_J9, wc_J9_min_7cf53, by decide, by decide, by decide +kernel⟩, wt_J9_min_7cf53⟩
set_option maxRecDepth 100000 in
theorem cl_X8_162 : bq_CS RX8 162 MJ9_max_7cf53 2 := ⟨⟨bq_mem (List.mem_of_getElem? (i := 518) (by decide +kernel)) rfl, wi_J9, wc_J9_max_7cf53, by decide, by decide, by decide +kernel⟩, wt_J9_max_7cf53⟩
set_option maxRecDepth 100000 in
theorem cl_L_40 : bq_CV RL 40 MX8_splits 1 8 := ⟨⟨bq_mem (List.mem_of_getElem? (i := 519) (by decide +kernel)) rfl, wi_X8, wc_X8_splits, by decide, by decide, by decide +kernel⟩, wn_X8_splits, ws_X8_splits, by decide, rfl⟩
set_option maxRecDepth 100000 in
theorem cl_X8_167 : bq_CV RX8 167 MX5_isThere 1 5 := ⟨⟨bq_mem (List.mem_of_getElem? (i := 523) (by decide +kernel)) rfl, wi_X5, wc_X5_isThere, by decide, by decide, by decide +kernel⟩, wn_X5_isThere, ws_X5_isThere, by decide, rfl⟩
set_option maxRecDepth 100000 in
theorem cl_X8_170 : bq_CV RX8 170 MX5_canSplit 1 5 := ⟨⟨bq_mem (List.mem_of_getElem? (i := 524) (by decide +kernel)) rfl, wi_X5, wc_X5_canSplit, by decide, by decide, by decide +kernel⟩, wn_X5_canSplit, ws_X5_canSplit, by decide, rfl⟩
set_option maxRecDepth 100000 in
theorem cl_X5_74 : bq_CV RX5 74 MX5_firstFree 0 5 := ⟨⟨bq_mem (List.mem_of_getElem? (i := 528) (by decide +kernel)) rfl, wi_X5, wc_X5_firstFree, by decide, by decide, by decide +kernel⟩, wn_X5_firstFree, ws_X5_firstFree, by decide, rfl⟩
set_option maxRecDepth 100000 in
theorem cl_X8_173 : bq_CV RX8 173 MX5_split 1 5 := ⟨⟨bq_mem (List.mem_of_getElem? (i := 532) (by decide +kernel)) rfl, wi_X5, wc_X5_split, by decide, by decide, by decide +kernel⟩, wn_X5_split, ws_X5_split, by decide, rfl⟩
set_option maxRecDepth 100000 in
theorem cl_X5_78 : bq_CV RX5 78 MX5_canSplit 1 5 := ⟨⟨bq_mem (List.mem_of_getElem? (i := 536) (by decide +kernel)) rfl, wi_X5, wc_X5_canSplit, by decide, by decide, by decide +kernel⟩, wn_X5_canSplit, ws_X5_canSplit, by decide, rfl⟩
set_option maxRecDepth 100000 in
theorem cl_X5_81 : bq_CV RX5 81 MX5_place 4 5 := ⟨⟨bq_mem (List.mem_of_getElem? (i := 537) (by decide +kernel)) rfl, wi_X5, wc_X5_place, by decide, by decide, by decide +kernel⟩, wn_X5_place, ws_X5_place, by decide, rfl⟩
set_option maxRecDepth 100000 in
theorem cl_X5_85 : bq_CS RX5 85 MX5_alike 3 := ⟨⟨bq_mem (List.mem_of_getElem? (i := 538) (by decide +kernel)) rfl, wi_X5, wc_X5_alike, by decide, by decide, by decide +kernel⟩, wt_X5_alike⟩
set_option maxRecDepth 100000 in
theorem cl_L_44 : bq_CV RL 44 MX8_teaches 1 8 := ⟨⟨bq_mem (List.mem_of_getElem? (i := 541) (by decide +kernel)) rfl, wi_X8, wc_X8_teaches, by decide, by decide, by decide +kernel⟩, wn_X8_teaches, ws_X8_teaches, by decide, rfl⟩
set_option maxRecDepth 100000 in
theorem cl_L_48 : bq_CV RL 48 MX8_bores 1 8 := ⟨⟨bq_mem (List.mem_of_getElem? (i := 545) (by decide +kernel)) rfl, wi_X8, wc_X8_bores, by decide, by decide, by decide +kernel⟩, wn_X8_bores, ws_X8_bores, by decide, rfl⟩
set_option maxRecDepth 100000 in
theorem cl_L_52 : bq_CV RL 52 MX8_burns 1 8 := ⟨⟨bq_mem (List.mem_of_getElem? (i := 549) (by decide +kernel)) rfl, wi_X8, wc_X8_burns, by decide, by decide, by decide +kernel⟩, wn_X8_burns, ws_X8_burns, by decide, rfl⟩
set_option maxRecDepth 100000 in
theorem cl_X8_176 : bq_CV RX8 176 MX8_takeAway 1 8 := ⟨⟨bq_mem (List.mem_of_getElem? (i := 553) (by decide +kernel)) rfl, wi_X8, wc_X8_takeAway, by decide, by decide, by decide +kernel⟩, wn_X8_takeAway, ws_X8_takeAway, by decide, rfl⟩
set_option maxRecDepth 100000 in
theorem cl_X8_182 : bq_CS RX8 182 MJ6_bitCount_0f7a4 1 := ⟨⟨bq_mem (List.mem_of_getElem? (i := 557) (by decide +kernel)) rfl, wi_J6, wc_J6_bitCount_0f7a4, by decide, by decide, by decide +kernel⟩, wt_J6_bitCount_0f7a4⟩
set_option maxRecDepth 100000 in
theorem cl_L_56 : bq_CV RL 56 MX8_halts 1 8 := ⟨⟨bq_mem (List.mem_of_getElem? (i := 563) (by decide +kernel)) rfl, wi_X8, wc_X8_halts, by decide, by decide, by decide +kernel⟩, wn_X8_halts, ws_X8_halts, by decide, rfl⟩
set_option maxRecDepth 100000 in
theorem cl_L_60 : bq_CV RL 60 MX8_undo 0 8 := ⟨⟨bq_mem (List.mem_of_getElem? (i := 567) (by decide +kernel)) rfl, wi_X8, wc_X8_undo, by decide, by decide, by decide +kernel⟩, wn_X8_undo, ws_X8_undo, by decide, rfl⟩
set_option maxRecDepth 100000 in
theorem cl_X8_179 : bq_CV RX8 179 MX6_bringBack 1 6 := ⟨⟨bq_mem (List.mem_of_getElem? (i := 571) (by decide +kernel)) rfl, wi_X6, wc_X6_bringBack, by decide, by decide, by decide +kernel⟩, wn_X6_bringBack, ws_X6_bringBack, by decide, rfl⟩
set_option maxRecDepth 100000 in
theorem cl_L_64 : bq_CV RL 64 MX8_stands 1 8 := ⟨⟨bq_mem (List.mem_of_getElem? (i := 575) (by decide +kernel)) rfl, wi_X8, wc_X8_stands, by decide, by decide, by decide +kernel⟩, wn_X8_stands, ws_X8_stands, by decide, rfl⟩
set_option maxRecDepth 100000 in
theorem cl_X8_187 : bq_CV RX8 187 MX8_lookAhead 0 8 := ⟨⟨bq_mem (List.mem_of_getElem? (i := 579) (by decide +kernel)) rfl, wi_X8, wc_X8_lookAhead, by decide, by decide, by decide +kernel⟩, wn_X8_lookAhead, ws_X8_lookAhead, by decide, rfl⟩
set_option maxRecDepth 100000 in
theorem cl_L_68 : bq_CV RL 68 MX8_above 0 8 := ⟨⟨bq_mem (List.mem_of_getElem? (i := 583) (by decide +kernel)) rfl, wi_X8, wc_X8_above, by decide, by decide, by decide +kernel⟩, wn_X8_above, ws_X8_above, by decide, rfl⟩
set_option maxRecDepth 100000 in
theorem cl_X8_190 : bq_CV RX8 190 MX0_isAboveMark 1 0 := ⟨⟨bq_mem (List.mem_of_getElem? (i := 587) (by decide +kernel)) rfl, wi_X0, wc_X0_isAboveMark, by decide, by decide, by decide +kernel⟩, wn_X0_isAboveMark, ws_X0_isAboveMark, by decide, rfl⟩
set_option maxRecDepth 100000 in
theorem cl_L_72 : bq_CV RL 72 MX8_most 1 8 := ⟨⟨bq_mem (List.mem_of_getElem? (i := 591) (by decide +kernel)) rfl, wi_X8, wc_X8_most, by decide, by decide, by decide +kernel⟩, wn_X8_most, ws_X8_most, by decide, rfl⟩
set_option maxRecDepth 100000 in
theorem cl_L_76 : bq_CV RL 76 MX8_teach 1 8 := ⟨⟨bq_mem (List.mem_of_getElem? (i := 595) (by decide +kernel)) rfl, wi_X8, wc_X8_teach, by decide, by decide, by decide +kernel⟩, wn_X8_teach, ws_X8_teach, by decide, rfl⟩
set_option maxRecDepth 100000 in
theorem cl_X8_193 : bq_CV RX8 193 MX8_fewest 3 8 := ⟨⟨bq_mem (List.mem_of_getElem? (i := 599) (by decide +kernel)) rfl, wi_X8, wc_X8_fewest, by decide, by decide, by decide +kernel⟩, wn_X8_fewest, ws_X8_fewest, by decide, rfl⟩
set_option maxRecDepth 100000 in
theorem cl_X8_197 : bq_CS RX8 197 MX8_isPlanned 1 := ⟨⟨bq_mem (List.mem_of_getElem? (i := 603) (by decide +kernel)) rfl, wi_X8, wc_X8_isPlanned, by decide, by decide, by decide +kernel⟩, wt_X8_isPlanned⟩
set_option maxRecDepth 100000 in
theorem cl_X8_204 : bq_CV RX8 204 MX8_helps 3 8 := ⟨⟨bq_mem (List.mem_of_getElem? (i := 606) (by decide +kernel)) rfl, wi_X8, wc_X8_helps, by decide, by decide, by decide +kernel⟩, wn_X8_helps, ws_X8_helps, by decide, rfl⟩
set_option maxRecDepth 100000 in
theorem cl_X8_200 : bq_CV RX8 200 MX8_staysAtMark 3 8 := ⟨⟨bq_mem (List.mem_of_getElem? (i := 610) (by decide +kernel)) rfl, wi_X8, wc_X8_staysAtMark, by decide, by decide, by decide +kernel⟩, wn_X8_staysAtMark, ws_X8_staysAtMark, by decide, rfl⟩
set_option maxRecDepth 100000 in
theorem cl_L_80 : bq_CV RL 80 MX8_burn 1 8 := ⟨⟨bq_mem (List.mem_of_getElem? (i := 614) (by decide +kernel)) rfl, wi_X8, wc_X8_burn, by decide, by decide, by decide +kernel⟩, wn_X8_burn, ws_X8_burn, by decide, rfl⟩
set_option maxRecDepth 100000 in
theorem cl_L_84 : bq_CV RL 84 MX8_stair 1 8 := ⟨⟨bq_mem (List.mem_of_getElem? (i := 618) (by decide +kernel)) rfl, wi_X8, wc_X8_stair, by decide, by decide, by decide +kernel⟩, wn_X8_stair, ws_X8_stair, by decide, rfl⟩
set_option maxRecDepth 100000 in
theorem cl_L_88 : bq_CV RL 88 MX8_drain 1 8 := ⟨⟨bq_mem (List.mem_of_getElem? (i := 622) (by decide +kernel)) rfl, wi_X8, wc_X8_drain, by decide, by decide, by decide +kernel⟩, wn_X8_drain, ws_X8_drain, by decide, rfl⟩
set_option maxRecDepth 100000 in
theorem cl_L_92 : bq_CV RL 92 MX8_flow 1 8 := ⟨⟨bq_mem (List.mem_of_getElem? (i := 626) (by decide +kernel)) rfl, wi_X8, wc_X8_flow, by decide, by decide, by decide +kernel⟩, wn_X8_flow, ws_X8_flow, by decide, rfl⟩
set_option maxRecDepth 100000 in
theorem cl_X8_210 : bq_CV RX8 210 MX1_become 2 1 := ⟨⟨bq_mem (List.mem_of_getElem? (i := 631) (by decide +kernel)) rfl, wi_X1, wc_X1_become, by decide, by decide, by decide +kernel⟩, wn_X1_become, ws_X1_become, by decide, rfl⟩
set_option maxRecDepth 100000 in
theorem cl_X1_16 : bq_CS RX1 16 MJ9_abs_067f4 1 := ⟨⟨bq_mem (List.mem_of_getElem? (i := 635) (by decide +kernel)) rfl, wi_J9, wc_J9_abs_067f4, by decide, by decide, by decide +kernel⟩, wt_J9_abs_067f4⟩
set_option maxRecDepth 100000 in
theorem cl_X1_22 : bq_CS RX1 22 MX1_commonDivisor 2 := ⟨⟨bq_mem (List.mem_of_getElem? (i := 638) (by decide +kernel)) rfl, wi_X1, wc_X1_commonDivisor, by decide, by decide, by decide +kernel⟩, wt_X1_commonDivisor⟩
set_option maxRecDepth 100000 in
theorem cl_X8_214 : bq_CV RX8 214 MX5_loadOf 1 5 := ⟨⟨bq_mem (List.mem_of_getElem? (i := 641) (by decide +kernel)) rfl, wi_X5, wc_X5_loadOf, by decide, by decide, by decide +kernel⟩, wn_X5_loadOf, ws_X5_loadOf, by decide, rfl⟩
set_option maxRecDepth 100000 in
theorem cl_X8_217 : bq_CV RX8 217 MX1_plus 2 1 := ⟨⟨bq_mem (List.mem_of_getElem? (i := 642) (by decide +kernel)) rfl, wi_X1, wc_X1_plus, by decide, by decide, by decide +kernel⟩, wn_X1_plus, ws_X1_plus, by decide, rfl⟩
set_option maxRecDepth 100000 in
theorem cl_X1_26 : bq_CV RX1 26 MX1_become 2 1 := ⟨⟨bq_mem (List.mem_of_getElem? (i := 646) (by decide +kernel)) rfl, wi_X1, wc_X1_become, by decide, by decide, by decide +kernel⟩, wn_X1_become, ws_X1_become, by decide, rfl⟩
set_option maxRecDepth 100000 in
theorem cl_X8_220 : bq_CV RX8 220 MX1_part 1 1 := ⟨⟨bq_mem (List.mem_of_getElem? (i := 647) (by decide +kernel)) rfl, wi_X1, wc_X1_part, by decide, by decide, by decide +kernel⟩, wn_X1_part, ws_X1_part, by decide, rfl⟩
set_option maxRecDepth 100000 in
theorem cl_L_97 : bq_CV RL 97 MX8_splitOn 3 8 := ⟨⟨bq_mem (List.mem_of_getElem? (i := 651) (by decide +kernel)) rfl, wi_X8, wc_X8_splitOn, by decide, by decide, by decide +kernel⟩, wn_X8_splitOn, ws_X8_splitOn, by decide, rfl⟩
set_option maxRecDepth 100000 in
theorem cl_L_102 : bq_CV RL 102 MX8_price 2 8 := ⟨⟨bq_mem (List.mem_of_getElem? (i := 655) (by decide +kernel)) rfl, wi_X8, wc_X8_price, by decide, by decide, by decide +kernel⟩, wn_X8_price, ws_X8_price, by decide, rfl⟩
set_option maxRecDepth 100000 in
theorem cl_L_106 : bq_CV RL 106 MX8_heard 1 8 := ⟨⟨bq_mem (List.mem_of_getElem? (i := 659) (by decide +kernel)) rfl, wi_X8, wc_X8_heard, by decide, by decide, by decide +kernel⟩, wn_X8_heard, ws_X8_heard, by decide, rfl⟩
set_option maxRecDepth 100000 in
theorem cl_L_110 : bq_CV RL 110 MX8_measured 2 8 := ⟨⟨bq_mem (List.mem_of_getElem? (i := 663) (by decide +kernel)) rfl, wi_X8, wc_X8_measured, by decide, by decide, by decide +kernel⟩, wn_X8_measured, ws_X8_measured, by decide, rfl⟩
set_option maxRecDepth 100000 in
theorem cl_X8_231 : bq_CV RX8 231 MX4_add 2 4 := ⟨⟨bq_mem (List.mem_of_getElem? (i := 668) (by decide +kernel)) rfl, wi_X4, wc_X4_add, by decide, by decide, by decide +kernel⟩, wn_X4_add, ws_X4_add, by decide, rfl⟩
set_option maxRecDepth 100000 in
theorem cl_L_114 : bq_CV RL 114 MX8_forget 0 8 := ⟨⟨bq_mem (List.mem_of_getElem? (i := 672) (by decide +kernel)) rfl, wi_X8, wc_X8_forget, by decide, by decide, by decide +kernel⟩, wn_X8_forget, ws_X8_forget, by decide, rfl⟩
set_option maxRecDepth 100000 in
theorem cl_L_118 : bq_CV RL 118 MX8_splitFirst 0 8 := ⟨⟨bq_mem (List.mem_of_getElem? (i := 676) (by decide +kernel)) rfl, wi_X8, wc_X8_splitFirst, by decide, by decide, by decide +kernel⟩, wn_X8_splitFirst, ws_X8_splitFirst, by decide, rfl⟩
set_option maxRecDepth 100000 in
theorem cl_X8_234 : bq_CV RX8 234 MX8_isAsMeasured 0 8 := ⟨⟨bq_mem (List.mem_of_getElem? (i := 680) (by decide +kernel)) rfl, wi_X8, wc_X8_isAsMeasured, by decide, by decide, by decide +kernel⟩, wn_X8_isAsMeasured, ws_X8_isAsMeasured, by decide, rfl⟩
set_option maxRecDepth 100000 in
theorem cl_X8_238 : bq_CV RX8 238 MX4_allowWater 2 4 := ⟨⟨bq_mem (List.mem_of_getElem? (i := 684) (by decide +kernel)) rfl, wi_X4, wc_X4_allowWater, by decide, by decide, by decide +kernel⟩, wn_X4_allowWater, ws_X4_allowWater, by decide, rfl⟩
set_option maxRecDepth 100000 in
theorem cl_L_122 : bq_CV RL 122 MX8_odds 5 8 := ⟨⟨bq_mem (List.mem_of_getElem? (i := 688) (by decide +kernel)) rfl, wi_X8, wc_X8_odds, by decide, by decide, by decide +kernel⟩, wn_X8_odds, ws_X8_odds, by decide, rfl⟩
set_option maxRecDepth 100000 in
theorem cl_X8_241 : bq_CV RX8 241 MX5_comings 2 5 := ⟨⟨bq_mem (List.mem_of_getElem? (i := 692) (by decide +kernel)) rfl, wi_X5, wc_X5_comings, by decide, by decide, by decide +kernel⟩, wn_X5_comings, ws_X5_comings, by decide, rfl⟩
set_option maxRecDepth 100000 in
theorem cl_X8_245 : bq_CV RX8 245 MX8_countWays 2 8 := ⟨⟨bq_mem (List.mem_of_getElem? (i := 697) (by decide +kernel)) rfl, wi_X8, wc_X8_countWays, by decide, by decide, by decide +kernel⟩, wn_X8_countWays, ws_X8_countWays, by decide, rfl⟩
set_option maxRecDepth 100000 in
theorem cl_L_127 : bq_CV RL 127 MX8_rate 2 8 := ⟨⟨bq_mem (List.mem_of_getElem? (i := 702) (by decide +kernel)) rfl, wi_X8, wc_X8_rate, by decide, by decide, by decide +kernel⟩, wn_X8_rate, ws_X8_rate, by decide, rfl⟩
set_option maxRecDepth 100000 in
theorem cl_X8_251 : bq_CV RX8 251 MX2_asBroom 1 2 := ⟨⟨bq_mem (List.mem_of_getElem? (i := 706) (by decide +kernel)) rfl, wi_X2, wc_X2_asBroom, by decide, by decide, by decide +kernel⟩, wn_X2_asBroom, ws_X2_asBroom, by decide, rfl⟩
set_option maxRecDepth 100000 in
theorem cl_X8_254 : bq_CV RX8 254 MX2_asWet 2 2 := ⟨⟨bq_mem (List.mem_of_getElem? (i := 710) (by decide +kernel)) rfl, wi_X2, wc_X2_asWet, by decide, by decide, by decide +kernel⟩, wn_X2_asWet, ws_X2_asWet, by decide, rfl⟩
set_option maxRecDepth 100000 in
theorem cl_X2_15 : bq_CV RX2 15 MX2_asBroom 1 2 := ⟨⟨bq_mem (List.mem_of_getElem? (i := 715) (by decide +kernel)) rfl, wi_X2, wc_X2_asBroom, by decide, by decide, by decide +kernel⟩, wn_X2_asBroom, ws_X2_asBroom, by decide, rfl⟩
set_option maxRecDepth 100000 in
theorem cl_X8_257 : bq_CV RX8 257 MX2_asHalf 2 2 := ⟨⟨bq_mem (List.mem_of_getElem? (i := 716) (by decide +kernel)) rfl, wi_X2, wc_X2_asHalf, by decide, by decide, by decide +kernel⟩, wn_X2_asHalf, ws_X2_asHalf, by decide, rfl⟩
set_option maxRecDepth 100000 in
theorem cl_X8_260 : bq_CV RX8 260 MX2_asBored 2 2 := ⟨⟨bq_mem (List.mem_of_getElem? (i := 721) (by decide +kernel)) rfl, wi_X2, wc_X2_asBored, by decide, by decide, by decide +kernel⟩, wn_X2_asBored, ws_X2_asBored, by decide, rfl⟩
set_option maxRecDepth 100000 in
theorem cl_X2_23 : bq_CV RX2 23 MX2_asWet 2 2 := ⟨⟨bq_mem (List.mem_of_getElem? (i := 726) (by decide +kernel)) rfl, wi_X2, wc_X2_asWet, by decide, by decide, by decide +kernel⟩, wn_X2_asWet, ws_X2_asWet, by decide, rfl⟩
set_option maxRecDepth 100000 in
theorem cl_X8_263 : bq_CV RX8 263 MX2_asBurning 3 2 := ⟨⟨bq_mem (List.mem_of_getElem? (i := 727) (by decide +kernel)) rfl, wi_X2, wc_X2_asBurning, by decide, by decide, by decide +kernel⟩, wn_X2_asBurning, ws_X2_asBurning, by decide, rfl⟩
set_option maxRecDepth 100000 in
theorem cl_X2_29 : bq_CV RX2 29 MX2_asHalf 2 2 := ⟨⟨bq_mem (List.mem_of_getElem? (i := 732) (by decide +kernel)) rfl, wi_X2, wc_X2_asHalf, by decide, by decide, by decide +kernel⟩, wn_X2_asHalf, ws_X2_asHalf, by decide, rfl⟩
set_option maxRecDepth 100000 in
theorem cl_X8_267 : bq_CV RX8 267 MX2_asTeaching 2 2 := ⟨⟨bq_mem (List.mem_of_getElem? (i := 733) (by decide +kernel)) rfl, wi_X2, wc_X2_asTeaching, by decide, by decide, by decide +kernel⟩, wn_X2_asTeaching, ws_X2_asTeaching, by decide, rfl⟩
set_option maxRecDepth 100000 in
theorem cl_L_131 : bq_CV RL 131 MX8_keep 1 8 := ⟨⟨bq_mem (List.mem_of_getElem? (i := 738) (by decide +kernel)) rfl, wi_X8, wc_X8_keep, by decide, by decide, by decide +kernel⟩, wn_X8_keep, ws_X8_keep, by decide, rfl⟩
set_option maxRecDepth 100000 in
theorem cl_L_135 : bq_CV RL 135 MX8_back 1 8 := ⟨⟨bq_mem (List.mem_of_getElem? (i := 742) (by decide +kernel)) rfl, wi_X8, wc_X8_back, by decide, by decide, by decide +kernel⟩, wn_X8_back, ws_X8_back, by decide, rfl⟩
set_option maxRecDepth 100000 in
theorem cl_L_139 : bq_CV RL 139 MX8_count 1 8 := ⟨⟨bq_mem (List.mem_of_getElem? (i := 746) (by decide +kernel)) rfl, wi_X8, wc_X8_count, by decide, by decide, by decide +kernel⟩, wn_X8_count, ws_X8_count, by decide, rfl⟩
set_option maxRecDepth 100000 in
theorem cl_L_143 : bq_CV RL 143 MX8_trace 0 8 := ⟨⟨bq_mem (List.mem_of_getElem? (i := 750) (by decide +kernel)) rfl, wi_X8, wc_X8_trace, by decide, by decide, by decide +kernel⟩, wn_X8_trace, ws_X8_trace, by decide, rfl⟩
set_option maxRecDepth 100000 in
theorem cl_L_12 : bq_CI RL 12 MX9_init 0 := ⟨⟨bq_mem (List.mem_of_getElem? (i := 756) (by decide +kernel)) rfl, wi_X9, wc_X9_init, by decide, by decide, by decide +kernel⟩, rfl, wn_X9_init⟩
set_option maxRecDepth 100000 in
theorem wm_X9_1 : Cond.methodLink RX9 1 Lib.objectInit ∈ bq_tbl := bq_mem (List.mem_of_getElem? (i := 759) (by decide +kernel)) rfl
set_option maxRecDepth 100000 in
theorem cl_X9_38 : bq_CV RX9 38 MX9_reads 0 9 := ⟨⟨bq_mem (List.mem_of_getElem? (i := 760) (by decide +kernel)) rfl, wi_X9, wc_X9_reads, by decide, by decide, by decide +kernel⟩, wn_X9_reads, ws_X9_reads, by decide, rfl⟩
set_option maxRecDepth 100000 in
theorem cl_X9_79 : bq_CV RX9 79 MX9_token 0 9 := ⟨⟨bq_mem (List.mem_of_getElem? (i := 764) (by decide +kernel)) rfl, wi_X9, wc_X9_token, by decide, by decide, by decide +kernel⟩, wn_X9_token, ws_X9_token, by decide, rfl⟩
set_option maxRecDepth 100000 in
theorem cl_X9_60 : bq_CV RX9 60 MX9_letterAt 1 9 := ⟨⟨bq_mem (List.mem_of_getElem? (i := 768) (by decide +kernel)) rfl, wi_X9, wc_X9_letterAt, by decide, by decide, by decide +kernel⟩, wn_X9_letterAt, ws_X9_letterAt, by decide, rfl⟩
set_option maxRecDepth 100000 in
theorem cl_X9_67 : bq_CS RX9 67 MX9_itemOf 1 := ⟨⟨bq_mem (List.mem_of_getElem? (i := 772) (by decide +kernel)) rfl, wi_X9, wc_X9_itemOf, by decide, by decide, by decide +kernel⟩, wt_X9_itemOf⟩
set_option maxRecDepth 100000 in
theorem cl_X9_70 : bq_CS RX9 70 MX9_isDigit 1 := ⟨⟨bq_mem (List.mem_of_getElem? (i := 775) (by decide +kernel)) rfl, wi_X9, wc_X9_isDigit, by decide, by decide, by decide +kernel⟩, wt_X9_isDigit⟩
set_option maxRecDepth 100000 in
theorem cl_X9_45 : bq_CS RX9 45 MX9_in 3 := ⟨⟨bq_mem (List.mem_of_getElem? (i := 778) (by decide +kernel)) rfl, wi_X9, wc_X9_in, by decide, by decide, by decide +kernel⟩, wt_X9_in⟩
set_option maxRecDepth 100000 in
theorem cl_X9_85 : bq_CV RX9 85 MX9_readsItem 0 9 := ⟨⟨bq_mem (List.mem_of_getElem? (i := 781) (by decide +kernel)) rfl, wi_X9, wc_X9_readsItem, by decide, by decide, by decide +kernel⟩, wn_X9_readsItem, ws_X9_readsItem, by decide, rfl⟩
set_option maxRecDepth 100000 in
theorem cl_X9_82 : bq_CV RX9 82 MX9_number 3 9 := ⟨⟨bq_mem (List.mem_of_getElem? (i := 785) (by decide +kernel)) rfl, wi_X9, wc_X9_number, by decide, by decide, by decide +kernel⟩, wn_X9_number, ws_X9_number, by decide, rfl⟩
set_option maxRecDepth 100000 in
theorem cl_X9_42 : bq_CV RX9 42 MX9_tells 0 9 := ⟨⟨bq_mem (List.mem_of_getElem? (i := 789) (by decide +kernel)) rfl, wi_X9, wc_X9_tells, by decide, by decide, by decide +kernel⟩, wn_X9_tells, ws_X9_tells, by decide, rfl⟩
set_option maxRecDepth 100000 in
theorem cl_X9_92 : bq_CV RX9 92 MX9_begins 0 9 := ⟨⟨bq_mem (List.mem_of_getElem? (i := 793) (by decide +kernel)) rfl, wi_X9, wc_X9_begins, by decide, by decide, by decide +kernel⟩, wn_X9_begins, ws_X9_begins, by decide, rfl⟩
set_option maxRecDepth 100000 in
theorem cl_X9_88 : bq_CV RX9 88 MX9_high 0 9 := ⟨⟨bq_mem (List.mem_of_getElem? (i := 797) (by decide +kernel)) rfl, wi_X9, wc_X9_high, by decide, by decide, by decide +kernel⟩, wn_X9_high, ws_X9_high, by decide, rfl⟩
set_option maxRecDepth 100000 in
theorem cl_L_17 : bq_CV RL 17 MX9_type 1 9 := ⟨⟨bq_mem (List.mem_of_getElem? (i := 862) (by decide +kernel)) rfl, wi_X9, wc_X9_type, by decide, by decide, by decide +kernel⟩, wn_X9_type, ws_X9_type, by decide, rfl⟩
set_option maxRecDepth 100000 in
theorem cl_L_22 : bq_CV RL 22 MX9_clear 0 9 := ⟨⟨bq_mem (List.mem_of_getElem? (i := 866) (by decide +kernel)) rfl, wi_X9, wc_X9_clear, by decide, by decide, by decide +kernel⟩, wn_X9_clear, ws_X9_clear, by decide, rfl⟩
set_option maxRecDepth 100000 in
theorem cl_L_26 : bq_CV RL 26 MX9_cellar 0 9 := ⟨⟨bq_mem (List.mem_of_getElem? (i := 870) (by decide +kernel)) rfl, wi_X9, wc_X9_cellar, by decide, by decide, by decide +kernel⟩, wn_X9_cellar, ws_X9_cellar, by decide, rfl⟩
set_option maxRecDepth 100000 in
theorem cl_L_31 : bq_CV RL 31 MX9_broom 2 9 := ⟨⟨bq_mem (List.mem_of_getElem? (i := 874) (by decide +kernel)) rfl, wi_X9, wc_X9_broom, by decide, by decide, by decide +kernel⟩, wn_X9_broom, ws_X9_broom, by decide, rfl⟩
set_option maxRecDepth 100000 in
theorem cl_X9_49 : bq_CS RX9 49 MX9_isNumber 1 := ⟨⟨bq_mem (List.mem_of_getElem? (i := 878) (by decide +kernel)) rfl, wi_X9, wc_X9_isNumber, by decide, by decide, by decide +kernel⟩, wt_X9_isNumber⟩
set_option maxRecDepth 100000 in
theorem cl_L_35 : bq_CV RL 35 MX9_now 1 9 := ⟨⟨bq_mem (List.mem_of_getElem? (i := 881) (by decide +kernel)) rfl, wi_X9, wc_X9_now, by decide, by decide, by decide +kernel⟩, wn_X9_now, ws_X9_now, by decide, rfl⟩
set_option maxRecDepth 100000 in
theorem cl_X9_101 : bq_CV RX9 101 MX9_there 0 9 := ⟨⟨bq_mem (List.mem_of_getElem? (i := 885) (by decide +kernel)) rfl, wi_X9, wc_X9_there, by decide, by decide, by decide +kernel⟩, wn_X9_there, ws_X9_there, by decide, rfl⟩
set_option maxRecDepth 100000 in
theorem cl_L_39 : bq_CV RL 39 MX9_minute 0 9 := ⟨⟨bq_mem (List.mem_of_getElem? (i := 889) (by decide +kernel)) rfl, wi_X9, wc_X9_minute, by decide, by decide, by decide +kernel⟩, wn_X9_minute, ws_X9_minute, by decide, rfl⟩
set_option maxRecDepth 100000 in
theorem cl_X9_117 : bq_CV RX9 117 MX9_keeps 0 9 := ⟨⟨bq_mem (List.mem_of_getElem? (i := 893) (by decide +kernel)) rfl, wi_X9, wc_X9_keeps, by decide, by decide, by decide +kernel⟩, wn_X9_keeps, ws_X9_keeps, by decide, rfl⟩
set_option maxRecDepth 100000 in
theorem cl_X9_120 : bq_CV RX9 120 MX9_asTold 0 9 := ⟨⟨bq_mem (List.mem_of_getElem? (i := 897) (by decide +kernel)) rfl, wi_X9, wc_X9_asTold, by decide, by decide, by decide +kernel⟩, wn_X9_asTold, ws_X9_asTold, by decide, rfl⟩
set_option maxRecDepth 100000 in
theorem cl_X9_123 : bq_CV RX9 123 MX9_goes 0 9 := ⟨⟨bq_mem (List.mem_of_getElem? (i := 901) (by decide +kernel)) rfl, wi_X9, wc_X9_goes, by decide, by decide, by decide +kernel⟩, wn_X9_goes, ws_X9_goes, by decide, rfl⟩
set_option maxRecDepth 100000 in
theorem cl_X9_107 : bq_CV RX9 107 MX9_carries 1 9 := ⟨⟨bq_mem (List.mem_of_getElem? (i := 905) (by decide +kernel)) rfl, wi_X9, wc_X9_carries, by decide, by decide, by decide +kernel⟩, wn_X9_carries, ws_X9_carries, by decide, rfl⟩
set_option maxRecDepth 100000 in
theorem cl_L_43 : bq_CV RL 43 MX9_splits 1 9 := ⟨⟨bq_mem (List.mem_of_getElem? (i := 910) (by decide +kernel)) rfl, wi_X9, wc_X9_splits, by decide, by decide, by decide +kernel⟩, wn_X9_splits, ws_X9_splits, by decide, rfl⟩
set_option maxRecDepth 100000 in
theorem cl_X9_129 : bq_CV RX9 129 MX9_isThere 1 9 := ⟨⟨bq_mem (List.mem_of_getElem? (i := 914) (by decide +kernel)) rfl, wi_X9, wc_X9_isThere, by decide, by decide, by decide +kernel⟩, wn_X9_isThere, ws_X9_isThere, by decide, rfl⟩
set_option maxRecDepth 100000 in
theorem cl_X9_132 : bq_CV RX9 132 MX9_canSplit 1 9 := ⟨⟨bq_mem (List.mem_of_getElem? (i := 918) (by decide +kernel)) rfl, wi_X9, wc_X9_canSplit, by decide, by decide, by decide +kernel⟩, wn_X9_canSplit, ws_X9_canSplit, by decide, rfl⟩
set_option maxRecDepth 100000 in
theorem cl_X9_126 : bq_CV RX9 126 MX9_free 0 9 := ⟨⟨bq_mem (List.mem_of_getElem? (i := 922) (by decide +kernel)) rfl, wi_X9, wc_X9_free, by decide, by decide, by decide +kernel⟩, wn_X9_free, ws_X9_free, by decide, rfl⟩
set_option maxRecDepth 100000 in
theorem cl_X9_135 : bq_CV RX9 135 MX9_splitsNow 1 9 := ⟨⟨bq_mem (List.mem_of_getElem? (i := 926) (by decide +kernel)) rfl, wi_X9, wc_X9_splitsNow, by decide, by decide, by decide +kernel⟩, wn_X9_splitsNow, ws_X9_splitsNow, by decide, rfl⟩
set_option maxRecDepth 100000 in
theorem cl_L_47 : bq_CV RL 47 MX9_teaches 1 9 := ⟨⟨bq_mem (List.mem_of_getElem? (i := 930) (by decide +kernel)) rfl, wi_X9, wc_X9_teaches, by decide, by decide, by decide +kernel⟩, wn_X9_teaches, ws_X9_teaches, by decide, rfl⟩
set_option maxRecDepth 100000 in
theorem cl_L_51 : bq_CV RL 51 MX9_bores 1 9 := ⟨⟨bq_mem (List.mem_of_getElem? (i := 934) (by decide +kernel)) rfl, wi_X9, wc_X9_bores, by decide, by decide, by decide +kernel⟩, wn_X9_bores, ws_X9_bores, by decide, rfl⟩
set_option maxRecDepth 100000 in
theorem cl_L_55 : bq_CV RL 55 MX9_burns 1 9 := ⟨⟨bq_mem (List.mem_of_getElem? (i := 938) (by decide +kernel)) rfl, wi_X9, wc_X9_burns, by decide, by decide, by decide +kernel⟩, wn_X9_burns, ws_X9_burns, by decide, rfl⟩
set_option maxRecDepth 100000 in
theorem cl_X9_138 : bq_CS RX9 138 MX9_ones 1 := ⟨⟨bq_mem (List.mem_of_getElem? (i := 942) (by decide +kernel)) rfl, wi_X9, wc_X9_ones, by decide, by decide, by decide +kernel⟩, wt_X9_ones⟩
set_option maxRecDepth 100000 in
theorem cl_L_59 : bq_CV RL 59 MX9_halts 1 9 := ⟨⟨bq_mem (List.mem_of_getElem? (i := 945) (by decide +kernel)) rfl, wi_X9, wc_X9_halts, by decide, by decide, by decide +kernel⟩, wn_X9_halts, ws_X9_halts, by decide, rfl⟩
set_option maxRecDepth 100000 in
theorem cl_L_63 : bq_CV RL 63 MX9_undo 0 9 := ⟨⟨bq_mem (List.mem_of_getElem? (i := 949) (by decide +kernel)) rfl, wi_X9, wc_X9_undo, by decide, by decide, by decide +kernel⟩, wn_X9_undo, ws_X9_undo, by decide, rfl⟩
set_option maxRecDepth 100000 in
theorem cl_L_67 : bq_CV RL 67 MX9_stands 1 9 := ⟨⟨bq_mem (List.mem_of_getElem? (i := 953) (by decide +kernel)) rfl, wi_X9, wc_X9_stands, by decide, by decide, by decide +kernel⟩, wn_X9_stands, ws_X9_stands, by decide, rfl⟩
set_option maxRecDepth 100000 in
theorem cl_X9_141 : bq_CV RX9 141 MX9_holds 0 9 := ⟨⟨bq_mem (List.mem_of_getElem? (i := 957) (by decide +kernel)) rfl, wi_X9, wc_X9_holds, by decide, by decide, by decide +kernel⟩, wn_X9_holds, ws_X9_holds, by decide, rfl⟩
set_option maxRecDepth 100000 in
theorem cl_X9_144 : bq_CV RX9 144 MX9_lets 0 9 := ⟨⟨bq_mem (List.mem_of_getElem? (i := 961) (by decide +kernel)) rfl, wi_X9, wc_X9_lets, by decide, by decide, by decide +kernel⟩, wn_X9_lets, ws_X9_lets, by decide, rfl⟩
set_option maxRecDepth 100000 in
theorem cl_L_71 : bq_CV RL 71 MX9_above 0 9 := ⟨⟨bq_mem (List.mem_of_getElem? (i := 965) (by decide +kernel)) rfl, wi_X9, wc_X9_above, by decide, by decide, by decide +kernel⟩, wn_X9_above, ws_X9_above, by decide, rfl⟩
set_option maxRecDepth 100000 in
theorem cl_L_75 : bq_CV RL 75 MX9_most 1 9 := ⟨⟨bq_mem (List.mem_of_getElem? (i := 969) (by decide +kernel)) rfl, wi_X9, wc_X9_most, by decide, by decide, by decide +kernel⟩, wn_X9_most, ws_X9_most, by decide, rfl⟩
set_option maxRecDepth 100000 in
theorem cl_X9_147 : bq_CV RX9 147 MX9_highest 1 9 := ⟨⟨bq_mem (List.mem_of_getElem? (i := 973) (by decide +kernel)) rfl, wi_X9, wc_X9_highest, by decide, by decide, by decide +kernel⟩, wn_X9_highest, ws_X9_highest, by decide, rfl⟩
set_option maxRecDepth 100000 in
theorem cl_L_79 : bq_CV RL 79 MX9_teach 1 9 := ⟨⟨bq_mem (List.mem_of_getElem? (i := 977) (by decide +kernel)) rfl, wi_X9, wc_X9_teach, by decide, by decide, by decide +kernel⟩, wn_X9_teach, ws_X9_teach, by decide, rfl⟩
set_option maxRecDepth 100000 in
theorem cl_X9_150 : bq_CV RX9 150 MX9_fewest 2 9 := ⟨⟨bq_mem (List.mem_of_getElem? (i := 981) (by decide +kernel)) rfl, wi_X9, wc_X9_fewest, by decide, by decide, by decide +kernel⟩, wn_X9_fewest, ws_X9_fewest, by decide, rfl⟩
set_option maxRecDepth 100000 in
theorem cl_L_83 : bq_CV RL 83 MX9_burn 1 9 := ⟨⟨bq_mem (List.mem_of_getElem? (i := 985) (by decide +kernel)) rfl, wi_X9, wc_X9_burn, by decide, by decide, by decide +kernel⟩, wn_X9_burn, ws_X9_burn, by decide, rfl⟩
set_option maxRecDepth 100000 in
theorem cl_L_87 : bq_CV RL 87 MX9_stair 1 9 := ⟨⟨bq_mem (List.mem_of_getElem? (i := 989) (by decide +kernel)) rfl, wi_X9, wc_X9_stair, by decide, by decide, by decide +kernel⟩, wn_X9_stair, ws_X9_stair, by decide, rfl⟩
set_option maxRecDepth 100000 in
theorem cl_L_91 : bq_CV RL 91 MX9_drain 1 9 := ⟨⟨bq_mem (List.mem_of_getElem? (i := 993) (by decide +kernel)) rfl, wi_X9, wc_X9_drain, by decide, by decide, by decide +kernel⟩, wn_X9_drain, ws_X9_drain, by decide, rfl⟩
set_option maxRecDepth 100000 in
theorem cl_L_96 : bq_CV RL 96 MX9_flow 1 9 := ⟨⟨bq_mem (List.mem_of_getElem? (i := 997) (by decide +kernel)) rfl, wi_X9, wc_X9_flow, by decide, by decide, by decide +kernel⟩, wn_X9_flow, ws_X9_flow, by decide, rfl⟩
set_option maxRecDepth 100000 in
theorem cl_X9_156 : bq_CS RX9 156 MX9_common 2 := ⟨⟨bq_mem (List.mem_of_getElem? (i := 1002) (by decide +kernel)) rfl, wi_X9, wc_X9_common, by decide, by decide, by decide +kernel⟩, wt_X9_common⟩
set_option maxRecDepth 100000 in
theorem cl_L_101 : bq_CV RL 101 MX9_splitOn 3 9 := ⟨⟨bq_mem (List.mem_of_getElem? (i := 1005) (by decide +kernel)) rfl, wi_X9, wc_X9_splitOn, by decide, by decide, by decide +kernel⟩, wn_X9_splitOn, ws_X9_splitOn, by decide, rfl⟩
set_option maxRecDepth 100000 in
theorem cl_L_105 : bq_CV RL 105 MX9_price 2 9 := ⟨⟨bq_mem (List.mem_of_getElem? (i := 1009) (by decide +kernel)) rfl, wi_X9, wc_X9_price, by decide, by decide, by decide +kernel⟩, wn_X9_price, ws_X9_price, by decide, rfl⟩
set_option maxRecDepth 100000 in
theorem cl_L_109 : bq_CV RL 109 MX9_heard 1 9 := ⟨⟨bq_mem (List.mem_of_getElem? (i := 1013) (by decide +kernel)) rfl, wi_X9, wc_X9_heard, by decide, by decide, by decide +kernel⟩, wn_X9_heard, ws_X9_heard, by decide, rfl⟩
set_option maxRecDepth 100000 in
theorem cl_L_113 : bq_CV RL 113 MX9_measured 2 9 := ⟨⟨bq_mem (List.mem_of_getElem? (i := 1017) (by decide +kernel)) rfl, wi_X9, wc_X9_measured, by decide, by decide, by decide +kernel⟩, wn_X9_measured, ws_X9_measured, by decide, rfl⟩
set_option maxRecDepth 100000 in
theorem cl_L_117 : bq_CV RL 117 MX9_forget 0 9 := ⟨⟨bq_mem (List.mem_of_getElem? (i := 1021) (by decide +kernel)) rfl, wi_X9, wc_X9_forget, by decide, by decide, by decide +kernel⟩, wn_X9_forget, ws_X9_forget, by decide, rfl⟩
set_option maxRecDepth 100000 in
theorem cl_L_121 : bq_CV RL 121 MX9_splitFirst 0 9 := ⟨⟨bq_mem (List.mem_of_getElem? (i := 1025) (by decide +kernel)) rfl, wi_X9, wc_X9_splitFirst, by decide, by decide, by decide +kernel⟩, wn_X9_splitFirst, ws_X9_splitFirst, by decide, rfl⟩
set_option maxRecDepth 100000 in
theorem cl_X9_160 : bq_CV RX9 160 MX9_isSo 0 9 := ⟨⟨bq_mem (List.mem_of_getElem? (i := 1029) (by decide +kernel)) rfl, wi_X9, wc_X9_isSo, by decide, by decide, by decide +kernel⟩, wn_X9_isSo, ws_X9_isSo, by decide, rfl⟩
set_option maxRecDepth 100000 in
theorem cl_L_126 : bq_CV RL 126 MX9_odds 5 9 := ⟨⟨bq_mem (List.mem_of_getElem? (i := 1033) (by decide +kernel)) rfl, wi_X9, wc_X9_odds, by decide, by decide, by decide +kernel⟩, wn_X9_odds, ws_X9_odds, by decide, rfl⟩
set_option maxRecDepth 100000 in
theorem cl_L_130 : bq_CV RL 130 MX9_rate 2 9 := ⟨⟨bq_mem (List.mem_of_getElem? (i := 1038) (by decide +kernel)) rfl, wi_X9, wc_X9_rate, by decide, by decide, by decide +kernel⟩, wn_X9_rate, ws_X9_rate, by decide, rfl⟩
set_option maxRecDepth 100000 in
theorem cl_L_134 : bq_CV RL 134 MX9_keep 1 9 := ⟨⟨bq_mem (List.mem_of_getElem? (i := 1047) (by decide +kernel)) rfl, wi_X9, wc_X9_keep, by decide, by decide, by decide +kernel⟩, wn_X9_keep, ws_X9_keep, by decide, rfl⟩
set_option maxRecDepth 100000 in
theorem cl_L_138 : bq_CV RL 138 MX9_back 1 9 := ⟨⟨bq_mem (List.mem_of_getElem? (i := 1051) (by decide +kernel)) rfl, wi_X9, wc_X9_back, by decide, by decide, by decide +kernel⟩, wn_X9_back, ws_X9_back, by decide, rfl⟩
set_option maxRecDepth 100000 in
theorem cl_L_142 : bq_CV RL 142 MX9_count 1 9 := ⟨⟨bq_mem (List.mem_of_getElem? (i := 1055) (by decide +kernel)) rfl, wi_X9, wc_X9_count, by decide, by decide, by decide +kernel⟩, wn_X9_count, ws_X9_count, by decide, rfl⟩
set_option maxRecDepth 100000 in
theorem cl_L_147 : bq_CV RL 147 MX9_trace 0 9 := ⟨⟨bq_mem (List.mem_of_getElem? (i := 1059) (by decide +kernel)) rfl, wi_X9, wc_X9_trace, by decide, by decide, by decide +kernel⟩, wn_X9_trace, ws_X9_trace, by decide, rfl⟩
