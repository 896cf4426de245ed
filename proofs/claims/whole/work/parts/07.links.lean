abbrev mX0_init : zMI := (yX0_init, cX0_init, 1, none)
abbrev mX0_read : zMI := (yX0_read, cX0_read, 2, some .boolean)
abbrev mX0_copy : zMI := (yX0_copy, cX0_copy, 3, none)
abbrev mX0_clear : zMI := (yX0_clear, cX0_clear, 2, none)
abbrev mX0_readTaboos : zMI := (yX0_readTaboos, cX0_readTaboos, 4, some .boolean)
abbrev mX0_readWays : zMI := (yX0_readWays, cX0_readWays, 3, some .boolean)
abbrev mX0_readWay : zMI := (yX0_readWay, cX0_readWay, 5, some .boolean)
abbrev mX1_init : zMI := (yX1_init, cX1_init, 4, none)
abbrev mX1_worth : zMI := (yX1_worth, cX1_worth, 9, some .int)
abbrev mX1_joins : zMI := (yX1_joins, cX1_joins, 1, some .boolean)
abbrev mX1_letter : zMI := (yX1_letter, cX1_letter, 5, some .int)
abbrev mX1_joined : zMI := (yX1_joined, cX1_joined, 5, some .long)
abbrev mX1_bounded : zMI := (yX1_bounded, cX1_bounded, 2, some .int)
abbrev mX2_init : zMI := (yX2_init, cX2_init, 2, none)
abbrev mX2_read : zMI := (yX2_read, cX2_read, 2, some .boolean)
abbrev mX2_compiled : zMI := (yX2_compiled, cX2_compiled, 1, some (.object "TabooIsles$Custom"))
abbrev mX2_clause : zMI := (yX2_clause, cX2_clause, 2, some .boolean)
abbrev mX2_answer : zMI := (yX2_answer, cX2_answer, 1, some .boolean)
abbrev mX2_condition : zMI := (yX2_condition, cX2_condition, 2, some .boolean)
abbrev mX2_moreTruths : zMI := (yX2_moreTruths, cX2_moreTruths, 3, some .boolean)
abbrev mX2_moreUnits : zMI := (yX2_moreUnits, cX2_moreUnits, 3, some .boolean)
abbrev mX2_unit : zMI := (yX2_unit, cX2_unit, 4, some .boolean)
abbrev mX2_comparison : zMI := (yX2_comparison, cX2_comparison, 3, some .int)
abbrev mX2_sum : zMI := (yX2_sum, cX2_sum, 4, some .boolean)
abbrev mX2_term : zMI := (yX2_term, cX2_term, 4, some .boolean)
abbrev mX2_atom : zMI := (yX2_atom, cX2_atom, 4, some .boolean)
abbrev mX2_isLetter : zMI := (yX2_isLetter, cX2_isLetter, 1, some .boolean)
abbrev mX2_emit : zMI := (yX2_emit, cX2_emit, 2, none)
abbrev mX3_init : zMI := (yX3_init, cX3_init, 1, none)
abbrev mX3_clear : zMI := (yX3_clear, cX3_clear, 1, none)
abbrev mX3_copy : zMI := (yX3_copy, cX3_copy, 2, none)
abbrev mX3_addChange : zMI := (yX3_addChange, cX3_addChange, 4, some .boolean)
abbrev mX3_addSaid : zMI := (yX3_addSaid, cX3_addSaid, 3, some .boolean)
abbrev mX3_tabooOn : zMI := (yX3_tabooOn, cX3_tabooOn, 7, some .int)
abbrev mX3_drownings : zMI := (yX3_drownings, cX3_drownings, 8, none)
abbrev mX3_draw : zMI := (yX3_draw, cX3_draw, 2, some .int)
abbrev mX4_init : zMI := (yX4_init, cX4_init, 1, none)
abbrev mX4_open : zMI := (yX4_open, cX4_open, 3, none)
abbrev mX4_countForward : zMI := (yX4_countForward, cX4_countForward, 5, none)
abbrev mX4_unpaid : zMI := (yX4_unpaid, cX4_unpaid, 3, some .int)
abbrev mX4_unpaidAt : zMI := (yX4_unpaidAt, cX4_unpaidAt, 4, some .int)
abbrev mX4_isPaid : zMI := (yX4_isPaid, cX4_isPaid, 2, some .boolean)
abbrev mX4_rowPart : zMI := (yX4_rowPart, cX4_rowPart, 7, some .int)
abbrev mX4_rows : zMI := (yX4_rows, cX4_rows, 5, some .long)
abbrev mX4_partitions : zMI := (yX4_partitions, cX4_partitions, 4, some .int)
abbrev mX4_isBarred : zMI := (yX4_isBarred, cX4_isBarred, 2, some .boolean)
abbrev mX4_isPart : zMI := (yX4_isPart, cX4_isPart, 2, some .boolean)
abbrev mX4_isTotal : zMI := (yX4_isTotal, cX4_isTotal, 2, some .boolean)
abbrev mX4_isCount : zMI := (yX4_isCount, cX4_isCount, 2, some .boolean)
abbrev mX4_fewest : zMI := (yX4_fewest, cX4_fewest, 4, some .int)
abbrev mX4_countBack : zMI := (yX4_countBack, cX4_countBack, 6, none)
abbrev mX4_greatestPart : zMI := (yX4_greatestPart, cX4_greatestPart, 5, some .int)
abbrev mX4_waysBefore : zMI := (yX4_waysBefore, cX4_waysBefore, 5, some .long)
abbrev mX4_addSize : zMI := (yX4_addSize, cX4_addSize, 5, none)
abbrev mX5_init : zMI := (yX5_init, cX5_init, 1, none)
abbrev mX5_add : zMI := (yX5_add, cX5_add, 4, none)
abbrev mX5_begin : zMI := (yX5_begin, cX5_begin, 1, none)
abbrev mX5_sign : zMI := (yX5_sign, cX5_sign, 1, some .int)
abbrev mX5_isSpent : zMI := (yX5_isSpent, cX5_isSpent, 1, some .boolean)
abbrev mX5_accept : zMI := (yX5_accept, cX5_accept, 2, some .boolean)
abbrev mX5_number : zMI := (yX5_number, cX5_number, 4, some .int)
abbrev mX5_isDigit : zMI := (yX5_isDigit, cX5_isDigit, 1, some .boolean)
abbrev mX5_skipBlanks : zMI := (yX5_skipBlanks, cX5_skipBlanks, 2, none)
abbrev mX6_init : zMI := (yX6_init, cX6_init, 3, none)
abbrev mX6_addGood : zMI := (yX6_addGood, cX6_addGood, 1, some .int)
abbrev mX6_isGood : zMI := (yX6_isGood, cX6_isGood, 2, some .boolean)
abbrev mX6_lawfulDeals : zMI := (yX6_lawfulDeals, cX6_lawfulDeals, 7, some .int)
abbrev mX6_allows : zMI := (yX6_allows, cX6_allows, 3, some .boolean)
abbrev mX6_learnDeals : zMI := (yX6_learnDeals, cX6_learnDeals, 6, none)
abbrev mX6_mostMoney : zMI := (yX6_mostMoney, cX6_mostMoney, 5, some .int)
abbrev mX6_dealBit : zMI := (yX6_dealBit, cX6_dealBit, 2, some .int)
abbrev mX6_markNext : zMI := (yX6_markNext, cX6_markNext, 6, none)
abbrev mX6_land : zMI := (yX6_land, cX6_land, 10, none)
abbrev mX6_trade : zMI := (yX6_trade, cX6_trade, 9, none)
abbrev mX6_leave : zMI := (yX6_leave, cX6_leave, 9, none)
abbrev mX6_buyNothing : zMI := (yX6_buyNothing, cX6_buyNothing, 2, none)
abbrev mX6_widestSpread : zMI := (yX6_widestSpread, cX6_widestSpread, 6, some .int)
abbrev mX6_lawfulAt : zMI := (yX6_lawfulAt, cX6_lawfulAt, 4, some .int)
abbrev mX6_keep : zMI := (yX6_keep, cX6_keep, 2, none)
abbrev mX7_init : zMI := (yX7_init, cX7_init, 1, none)
abbrev mX7_settle : zMI := (yX7_settle, cX7_settle, 2, none)
abbrev mX7_addCustom : zMI := (yX7_addCustom, cX7_addCustom, 2, some .int)
abbrev mX7_isIsle : zMI := (yX7_isIsle, cX7_isIsle, 2, some .boolean)
abbrev mX7_tabooOn : zMI := (yX7_tabooOn, cX7_tabooOn, 3, some .int)
abbrev mX7_forbids : zMI := (yX7_forbids, cX7_forbids, 4, some .boolean)
abbrev mX7_forbidsNow : zMI := (yX7_forbidsNow, cX7_forbidsNow, 3, some .boolean)
abbrev mX7_forbidsBy : zMI := (yX7_forbidsBy, cX7_forbidsBy, 6, some .boolean)
abbrev mX7_bar : zMI := (yX7_bar, cX7_bar, 6, none)
abbrev mX7_barAlso : zMI := (yX7_barAlso, cX7_barAlso, 5, none)
abbrev mX7_neverForbids : zMI := (yX7_neverForbids, cX7_neverForbids, 5, some .boolean)
abbrev mX7_isBreach : zMI := (yX7_isBreach, cX7_isBreach, 2, some .boolean)
abbrev mX7_finesOf : zMI := (yX7_finesOf, cX7_finesOf, 4, some .int)
abbrev mX7_spokenAs : zMI := (yX7_spokenAs, cX7_spokenAs, 4, some .int)
abbrev mX7_dateFrom : zMI := (yX7_dateFrom, cX7_dateFrom, 7, some .int)
abbrev mX7_dateBehind : zMI := (yX7_dateBehind, cX7_dateBehind, 5, some .int)
abbrev mX8_init : zMI := (yX8_init, cX8_init, 1, none)
abbrev mX8_feed : zMI := (yX8_feed, cX8_feed, 7, some .int)
abbrev mX8_end : zMI := (yX8_end, cX8_end, 2, some .boolean)
abbrev mX8_fault : zMI := (yX8_fault, cX8_fault, 2, some .int)
abbrev mX8_text : zMI := (yX8_text, cX8_text, 2, some .int)
abbrev mX8_taboo : zMI := (yX8_taboo, cX8_taboo, 3, some .int)
abbrev mX8_way : zMI := (yX8_way, cX8_way, 4, some .int)
abbrev mX8_custom : zMI := (yX8_custom, cX8_custom, 3, some .boolean)
abbrev mX8_forbidden : zMI := (yX8_forbidden, cX8_forbidden, 4, some .int)
abbrev mX8_hand : zMI := (yX8_hand, cX8_hand, 2, some .boolean)
abbrev mX8_pay : zMI := (yX8_pay, cX8_pay, 5, some .int)
abbrev mX8_ways : zMI := (yX8_ways, cX8_ways, 5, some .long)
abbrev mX8_cant : zMI := (yX8_cant, cX8_cant, 4, some .int)
abbrev mX8_family : zMI := (yX8_family, cX8_family, 4, some .int)
abbrev mX8_splits : zMI := (yX8_splits, cX8_splits, 3, some .int)
abbrev mX8_date : zMI := (yX8_date, cX8_date, 5, some .int)
abbrev mX8_debt : zMI := (yX8_debt, cX8_debt, 5, some .int)
abbrev mX8_bit : zMI := (yX8_bit, cX8_bit, 5, some .int)
abbrev mX8_weight : zMI := (yX8_weight, cX8_weight, 3, some .boolean)
abbrev mX8_likely : zMI := (yX8_likely, cX8_likely, 7, some .int)
abbrev mX8_good : zMI := (yX8_good, cX8_good, 1, some .int)
abbrev mX8_price : zMI := (yX8_price, cX8_price, 4, some .boolean)
abbrev mX8_deal : zMI := (yX8_deal, cX8_deal, 6, some .int)
abbrev mX8_gain : zMI := (yX8_gain, cX8_gain, 7, some .int)
abbrev mX8_today : zMI := (yX8_today, cX8_today, 2, some .boolean)
abbrev mX8_change : zMI := (yX8_change, cX8_change, 4, some .int)
abbrev mX8_drown : zMI := (yX8_drown, cX8_drown, 6, some .int)
abbrev mX8_say : zMI := (yX8_say, cX8_say, 3, some .int)
abbrev mX8_breach : zMI := (yX8_breach, cX8_breach, 4, some .int)
abbrev mX8_fines : zMI := (yX8_fines, cX8_fines, 2, some .int)
abbrev mX8_safe : zMI := (yX8_safe, cX8_safe, 5, some .int)
abbrev mX8_game : zMI := (yX8_game, cX8_game, 8, some .int)
abbrev mX8_spoken : zMI := (yX8_spoken, cX8_spoken, 3, some .int)
abbrev mX8_carried : zMI := (yX8_carried, cX8_carried, 6, some .int)
abbrev mX8_near : zMI := (yX8_near, cX8_near, 5, some .int)
abbrev mX8_joint : zMI := (yX8_joint, cX8_joint, 5, some .int)
abbrev mX8_worst : zMI := (yX8_worst, cX8_worst, 8, some .int)
abbrev mX8_owes : zMI := (yX8_owes, cX8_owes, 5, some .int)
abbrev mX8_calendar : zMI := (yX8_calendar, cX8_calendar, 5, some .int)
abbrev mX8_twins : zMI := (yX8_twins, cX8_twins, 8, some .int)
abbrev mX8_image : zMI := (yX8_image, cX8_image, 1, some .int)
abbrev mX8_back : zMI := (yX8_back, cX8_back, 1, some .int)
abbrev mX8_count : zMI := (yX8_count, cX8_count, 2, some .int)
abbrev mX8_bytesIn : zMI := (yX8_bytesIn, cX8_bytesIn, 3, some .int)
abbrev mX8_takeIsles : zMI := (yX8_takeIsles, cX8_takeIsles, 1, some .int)
abbrev mX8_takeCustom : zMI := (yX8_takeCustom, cX8_takeCustom, 1, some .int)
abbrev mX8_isDay : zMI := (yX8_isDay, cX8_isDay, 1, some .boolean)
abbrev mX8_isNumber : zMI := (yX8_isNumber, cX8_isNumber, 1, some .boolean)
abbrev mX8_isRules : zMI := (yX8_isRules, cX8_isRules, 1, some .boolean)
abbrev mX8_isPayment : zMI := (yX8_isPayment, cX8_isPayment, 4, some .boolean)
abbrev mX8_isFamily : zMI := (yX8_isFamily, cX8_isFamily, 3, some .boolean)
abbrev mX8_isBitBase : zMI := (yX8_isBitBase, cX8_isBitBase, 3, some .boolean)
abbrev mX8_openPurse : zMI := (yX8_openPurse, cX8_openPurse, 4, none)
abbrev mX8_openFamily : zMI := (yX8_openFamily, cX8_openFamily, 2, none)
abbrev mX8_forbiddenBehind : zMI := (yX8_forbiddenBehind, cX8_forbiddenBehind, 5, some .int)
abbrev mX8_weightOf : zMI := (yX8_weightOf, cX8_weightOf, 2, some .int)
abbrev mX8_winningMove : zMI := (yX8_winningMove, cX8_winningMove, 6, some .int)
abbrev mX8_splitRow : zMI := (yX8_splitRow, cX8_splitRow, 5, some .boolean)
abbrev mX9_init : zMI := (yX9_init, cX9_init, 1, none)
abbrev mX9_thrown : zMI := (yX9_thrown, cX9_thrown, 1, some .int)
abbrev mX9_isIn : zMI := (yX9_isIn, cX9_isIn, 6, some .boolean)
abbrev mX9_has : zMI := (yX9_has, cX9_has, 2, some .boolean)
abbrev mX9_isAmong : zMI := (yX9_isAmong, cX9_isAmong, 3, some .boolean)
abbrev mX9_bytesIn : zMI := (yX9_bytesIn, cX9_bytesIn, 3, some .int)
abbrev mX9_put : zMI := (yX9_put, cX9_put, 3, none)
abbrev mX9_feed : zMI := (yX9_feed, cX9_feed, 6, some .int)
abbrev mX9_end : zMI := (yX9_end, cX9_end, 2, some .boolean)
abbrev mX9_look : zMI := (yX9_look, cX9_look, 1, some .int)
abbrev mX9_fails : zMI := (yX9_fails, cX9_fails, 1, some .boolean)
abbrev mX9_goesIn : zMI := (yX9_goesIn, cX9_goesIn, 1, some .boolean)
abbrev mX9_takes : zMI := (yX9_takes, cX9_takes, 2, some .boolean)
abbrev mX9_isDigit : zMI := (yX9_isDigit, cX9_isDigit, 1, some .boolean)
abbrev mX9_within : zMI := (yX9_within, cX9_within, 2, some .int)
abbrev mX9_atom : zMI := (yX9_atom, cX9_atom, 4, some .int)
abbrev mX9_term : zMI := (yX9_term, cX9_term, 5, some .int)
abbrev mX9_sum : zMI := (yX9_sum, cX9_sum, 5, some .int)
abbrev mX9_isSign : zMI := (yX9_isSign, cX9_isSign, 1, some .boolean)
abbrev mX9_compares : zMI := (yX9_compares, cX9_compares, 6, some .boolean)
abbrev mX9_unit : zMI := (yX9_unit, cX9_unit, 3, some .boolean)
abbrev mX9_part : zMI := (yX9_part, cX9_part, 5, some .boolean)
abbrev mX9_condition : zMI := (yX9_condition, cX9_condition, 5, some .boolean)
abbrev mX9_clause : zMI := (yX9_clause, cX9_clause, 5, none)
abbrev mX9_opens : zMI := (yX9_opens, cX9_opens, 4, none)
abbrev mX9_goThrough : zMI := (yX9_goThrough, cX9_goThrough, 4, none)
abbrev mX9_here : zMI := (yX9_here, cX9_here, 1, some .int)
abbrev mX9_twoDigits : zMI := (yX9_twoDigits, cX9_twoDigits, 3, some .int)
abbrev mX9_isIsleLetter : zMI := (yX9_isIsleLetter, cX9_isIsleLetter, 2, some .boolean)
abbrev mX9_readWay : zMI := (yX9_readWay, cX9_readWay, 4, none)
abbrev mX9_readIsles : zMI := (yX9_readIsles, cX9_readIsles, 3, none)
abbrev mX9_fault : zMI := (yX9_fault, cX9_fault, 2, some .int)
abbrev mX9_text : zMI := (yX9_text, cX9_text, 4, some .int)
abbrev mX9_isIsle : zMI := (yX9_isIsle, cX9_isIsle, 2, some .boolean)
abbrev mX9_isDay : zMI := (yX9_isDay, cX9_isDay, 1, some .boolean)
abbrev mX9_tabooOn : zMI := (yX9_tabooOn, cX9_tabooOn, 6, some .int)
abbrev mX9_taboo : zMI := (yX9_taboo, cX9_taboo, 3, some .int)
abbrev mX9_way : zMI := (yX9_way, cX9_way, 3, some .int)
abbrev mX9_custom : zMI := (yX9_custom, cX9_custom, 3, some .boolean)
abbrev mX9_isForbidden : zMI := (yX9_isForbidden, cX9_isForbidden, 7, some .boolean)
abbrev mX9_forbidden : zMI := (yX9_forbidden, cX9_forbidden, 4, some .int)
abbrev mX9_hand : zMI := (yX9_hand, cX9_hand, 2, some .boolean)
abbrev mX9_layBad : zMI := (yX9_layBad, cX9_layBad, 4, none)
abbrev mX9_isPart : zMI := (yX9_isPart, cX9_isPart, 3, some .boolean)
abbrev mX9_isTotal : zMI := (yX9_isTotal, cX9_isTotal, 3, some .boolean)
abbrev mX9_isCount : zMI := (yX9_isCount, cX9_isCount, 3, some .boolean)
abbrev mX9_can : zMI := (yX9_can, cX9_can, 3, some .boolean)
abbrev mX9_layComes : zMI := (yX9_layComes, cX9_layComes, 5, none)
abbrev mX9_layGoes : zMI := (yX9_layGoes, cX9_layGoes, 6, none)
abbrev mX9_areRules : zMI := (yX9_areRules, cX9_areRules, 1, some .boolean)
abbrev mX9_pay : zMI := (yX9_pay, cX9_pay, 9, some .int)
abbrev mX9_ways : zMI := (yX9_ways, cX9_ways, 8, some .long)
abbrev mX9_isPaid : zMI := (yX9_isPaid, cX9_isPaid, 4, some .boolean)
abbrev mX9_cant : zMI := (yX9_cant, cX9_cant, 6, some .int)
abbrev mX9_lands : zMI := (yX9_lands, cX9_lands, 5, some .boolean)
abbrev mX9_family : zMI := (yX9_family, cX9_family, 8, some .int)
abbrev mX9_splitsOf : zMI := (yX9_splitsOf, cX9_splitsOf, 6, some .int)
abbrev mX9_splits : zMI := (yX9_splits, cX9_splits, 3, some .int)
abbrev mX9_date : zMI := (yX9_date, cX9_date, 5, some .int)
abbrev mX9_debt : zMI := (yX9_debt, cX9_debt, 6, some .int)
abbrev mX9_bitsOf : zMI := (yX9_bitsOf, cX9_bitsOf, 4, some .int)
abbrev mX9_isBit : zMI := (yX9_isBit, cX9_isBit, 3, some .boolean)
abbrev mX9_bit : zMI := (yX9_bit, cX9_bit, 5, some .int)
abbrev mX9_weightOf : zMI := (yX9_weightOf, cX9_weightOf, 2, some .int)
abbrev mX9_weight : zMI := (yX9_weight, cX9_weight, 3, some .boolean)
abbrev mX9_likely : zMI := (yX9_likely, cX9_likely, 8, some .int)
abbrev mX9_good : zMI := (yX9_good, cX9_good, 2, some .int)
abbrev mX9_isGood : zMI := (yX9_isGood, cX9_isGood, 2, some .boolean)
abbrev mX9_price : zMI := (yX9_price, cX9_price, 4, some .boolean)
abbrev mX9_mayDeal : zMI := (yX9_mayDeal, cX9_mayDeal, 6, some .boolean)
abbrev mX9_forgetPaid : zMI := (yX9_forgetPaid, cX9_forgetPaid, 2, none)
abbrev mX9_layPaid : zMI := (yX9_layPaid, cX9_layPaid, 5, none)
abbrev mX9_deal : zMI := (yX9_deal, cX9_deal, 5, some .int)
abbrev mX9_isDeal : zMI := (yX9_isDeal, cX9_isDeal, 6, some .boolean)
abbrev mX9_goLeg : zMI := (yX9_goLeg, cX9_goLeg, 13, none)
abbrev mX9_goOff : zMI := (yX9_goOff, cX9_goOff, 12, none)
abbrev mX9_gain : zMI := (yX9_gain, cX9_gain, 7, some .int)
abbrev mX9_today : zMI := (yX9_today, cX9_today, 2, some .boolean)
abbrev mX9_changesTo : zMI := (yX9_changesTo, cX9_changesTo, 4, none)
abbrev mX9_change : zMI := (yX9_change, cX9_change, 4, some .int)
abbrev mX9_draw : zMI := (yX9_draw, cX9_draw, 2, some .int)
abbrev mX9_drown : zMI := (yX9_drown, cX9_drown, 8, some .int)
abbrev mX9_say : zMI := (yX9_say, cX9_say, 3, some .int)
abbrev mX9_isBreach : zMI := (yX9_isBreach, cX9_isBreach, 2, some .boolean)
abbrev mX9_breach : zMI := (yX9_breach, cX9_breach, 4, some .int)
abbrev mX9_fines : zMI := (yX9_fines, cX9_fines, 2, some .int)
abbrev mX9_safe : zMI := (yX9_safe, cX9_safe, 6, some .int)
abbrev mX9_game : zMI := (yX9_game, cX9_game, 9, some .int)
abbrev mX9_spokenAs : zMI := (yX9_spokenAs, cX9_spokenAs, 4, some .int)
abbrev mX9_spoken : zMI := (yX9_spoken, cX9_spoken, 3, some .int)
abbrev mX9_carried : zMI := (yX9_carried, cX9_carried, 7, some .int)
abbrev mX9_near : zMI := (yX9_near, cX9_near, 5, some .int)
abbrev mX9_joint : zMI := (yX9_joint, cX9_joint, 6, some .int)
abbrev mX9_cantBe : zMI := (yX9_cantBe, cX9_cantBe, 5, some .int)
abbrev mX9_worst : zMI := (yX9_worst, cX9_worst, 8, some .int)
abbrev mX9_finesOf : zMI := (yX9_finesOf, cX9_finesOf, 4, some .int)
abbrev mX9_owes : zMI := (yX9_owes, cX9_owes, 3, some .int)
abbrev mX9_layDates : zMI := (yX9_layDates, cX9_layDates, 8, some .boolean)
abbrev mX9_calendar : zMI := (yX9_calendar, cX9_calendar, 3, some .int)
abbrev mX9_twins : zMI := (yX9_twins, cX9_twins, 6, some .int)
abbrev mX9_image : zMI := (yX9_image, cX9_image, 2, some .int)
abbrev mX9_back : zMI := (yX9_back, cX9_back, 2, some .int)
abbrev mX9_count : zMI := (yX9_count, cX9_count, 2, some .int)
abbrev mJ9_max_7cf53 : zMI := (yJ9_max_7cf53, cJ9_max_7cf53, 2, some .int)
abbrev mJ9_max_f86c9 : zMI := (yJ9_max_f86c9, cJ9_max_f86c9, 4, some .long)
abbrev mJ9_min_7cf53 : zMI := (yJ9_min_7cf53, cJ9_min_7cf53, 2, some .int)
abbrev mJ9_min_f86c9 : zMI := (yJ9_min_f86c9, cJ9_min_f86c9, 4, some .long)
abbrev mJ0_length_8abf5 : zMI := (yJ0_length_8abf5, cJ0_length_8abf5, 1, some .int)
abbrev mJ0_charAt_5068e : zMI := (yJ0_charAt_5068e, cJ0_charAt_5068e, 2, some .char)
abbrev mJ0_coder_7d493 : zMI := (yJ0_coder_7d493, cJ0_coder_7d493, 1, some .byte)
abbrev mJ0_isLatin1_aae02 : zMI := (yJ0_isLatin1_aae02, cJ0_isLatin1_aae02, 1, some .boolean)
abbrev mJ0_checkIndex_df160 : zMI := (yJ0_checkIndex_df160, cJ0_checkIndex_df160, 2, none)
abbrev mJ1_charAt_3b067 : zMI := (yJ1_charAt_3b067, cJ1_charAt_3b067, 2, some .char)
abbrev mJ2_getChar_3b067 : zMI := (yJ2_getChar_3b067, cJ2_getChar_3b067, 2, some .char)
abbrev mJ2_length_9d52b : zMI := (yJ2_length_9d52b, cJ2_length_9d52b, 1, some .int)
abbrev mJ2_charAt_3b067 : zMI := (yJ2_charAt_3b067, cJ2_charAt_3b067, 2, some .char)
abbrev mJ2_checkIndex_2214a : zMI := (yJ2_checkIndex_2214a, cJ2_checkIndex_2214a, 2, none)
abbrev mJ7_fill_d0a16 : zMI := (yJ7_fill_d0a16, cJ7_fill_d0a16, 5, none)
abbrev mJ7_fill_53178 : zMI := (yJ7_fill_53178, cJ7_fill_53178, 4, none)
abbrev mJ7_copyOf_59c91 : zMI := (yJ7_copyOf_59c91, cJ7_copyOf_59c91, 3, some (.array .int))
abbrev mJ3_checkIndex_8e157 : zMI := (yJ3_checkIndex_8e157, cJ3_checkIndex_8e157, 3, some .int)
set_option maxRecDepth 40000 in
theorem zcX0_init : Cond.code yX0_init cX0_init 1 none ∈ zTB := ztb 149 (by rfl) (by decide +kernel)
set_option maxRecDepth 40000 in
theorem ziX0_init : Cond.instanceMethod yX0_init ∈ zTB := ztb 148 (by rfl) (by decide +kernel)
set_option maxRecDepth 40000 in
theorem zcX0_read : Cond.code yX0_read cX0_read 2 (some .boolean) ∈ zTB := ztb 404 (by rfl) (by decide +kernel)
set_option maxRecDepth 40000 in
theorem ziX0_read : Cond.instanceMethod yX0_read ∈ zTB := ztb 402 (by rfl) (by decide +kernel)
set_option maxRecDepth 40000 in
theorem zsX0_read : Cond.selects yX0_read.cls yX0_read yX0_read ∈ zTB := ztb 403 (by rfl) (by decide +kernel)
set_option maxRecDepth 40000 in
theorem zcX0_copy : Cond.code yX0_copy cX0_copy 3 none ∈ zTB := ztb 521 (by rfl) (by decide +kernel)
set_option maxRecDepth 40000 in
theorem ziX0_copy : Cond.instanceMethod yX0_copy ∈ zTB := ztb 519 (by rfl) (by decide +kernel)
set_option maxRecDepth 40000 in
theorem zsX0_copy : Cond.selects yX0_copy.cls yX0_copy yX0_copy ∈ zTB := ztb 520 (by rfl) (by decide +kernel)
set_option maxRecDepth 40000 in
theorem zcX0_clear : Cond.code yX0_clear cX0_clear 2 none ∈ zTB := ztb 408 (by rfl) (by decide +kernel)
set_option maxRecDepth 40000 in
theorem ziX0_clear : Cond.instanceMethod yX0_clear ∈ zTB := ztb 407 (by rfl) (by decide +kernel)
set_option maxRecDepth 40000 in
theorem zsX0_clear : Cond.selects yX0_clear.cls yX0_clear yX0_clear ∈ zTB := ztb 0 (by rfl) (by decide +kernel)
set_option maxRecDepth 40000 in
theorem zcX0_readTaboos : Cond.code yX0_readTaboos cX0_readTaboos 4 (some .boolean) ∈ zTB := ztb 421 (by rfl) (by decide +kernel)
set_option maxRecDepth 40000 in
theorem ziX0_readTaboos : Cond.instanceMethod yX0_readTaboos ∈ zTB := ztb 420 (by rfl) (by decide +kernel)
set_option maxRecDepth 40000 in
theorem zsX0_readTaboos : Cond.selects yX0_readTaboos.cls yX0_readTaboos yX0_readTaboos ∈ zTB := ztb 2 (by rfl) (by decide +kernel)
set_option maxRecDepth 40000 in
theorem zcX0_readWays : Cond.code yX0_readWays cX0_readWays 3 (some .boolean) ∈ zTB := ztb 440 (by rfl) (by decide +kernel)
set_option maxRecDepth 40000 in
theorem ziX0_readWays : Cond.instanceMethod yX0_readWays ∈ zTB := ztb 439 (by rfl) (by decide +kernel)
set_option maxRecDepth 40000 in
theorem zsX0_readWays : Cond.selects yX0_readWays.cls yX0_readWays yX0_readWays ∈ zTB := ztb 3 (by rfl) (by decide +kernel)
set_option maxRecDepth 40000 in
theorem zcX0_readWay : Cond.code yX0_readWay cX0_readWay 5 (some .boolean) ∈ zTB := ztb 444 (by rfl) (by decide +kernel)
set_option maxRecDepth 40000 in
theorem ziX0_readWay : Cond.instanceMethod yX0_readWay ∈ zTB := ztb 443 (by rfl) (by decide +kernel)
set_option maxRecDepth 40000 in
theorem zsX0_readWay : Cond.selects yX0_readWay.cls yX0_readWay yX0_readWay ∈ zTB := ztb 4 (by rfl) (by decide +kernel)
set_option maxRecDepth 40000 in
theorem zcX1_init : Cond.code yX1_init cX1_init 4 none ∈ zTB := ztb 542 (by rfl) (by decide +kernel)
set_option maxRecDepth 40000 in
theorem ziX1_init : Cond.instanceMethod yX1_init ∈ zTB := ztb 541 (by rfl) (by decide +kernel)
set_option maxRecDepth 40000 in
theorem zcX1_worth : Cond.code yX1_worth cX1_worth 9 (some .int) ∈ zTB := ztb 611 (by rfl) (by decide +kernel)
set_option maxRecDepth 40000 in
theorem ziX1_worth : Cond.instanceMethod yX1_worth ∈ zTB := ztb 609 (by rfl) (by decide +kernel)
set_option maxRecDepth 40000 in
theorem zsX1_worth : Cond.selects yX1_worth.cls yX1_worth yX1_worth ∈ zTB := ztb 610 (by rfl) (by decide +kernel)
set_option maxRecDepth 40000 in
theorem zcX1_joins : Cond.code yX1_joins cX1_joins 1 (some .boolean) ∈ zTB := ztb 614 (by rfl) (by decide +kernel)
set_option maxRecDepth 40000 in
theorem ztX1_joins : Cond.static yX1_joins ∈ zTB := ztb 613 (by rfl) (by decide +kernel)
set_option maxRecDepth 40000 in
theorem zcX1_letter : Cond.code yX1_letter cX1_letter 5 (some .int) ∈ zTB := ztb 617 (by rfl) (by decide +kernel)
set_option maxRecDepth 40000 in
theorem ztX1_letter : Cond.static yX1_letter ∈ zTB := ztb 616 (by rfl) (by decide +kernel)
set_option maxRecDepth 40000 in
theorem zcX1_joined : Cond.code yX1_joined cX1_joined 5 (some .long) ∈ zTB := ztb 620 (by rfl) (by decide +kernel)
set_option maxRecDepth 40000 in
theorem ztX1_joined : Cond.static yX1_joined ∈ zTB := ztb 619 (by rfl) (by decide +kernel)
set_option maxRecDepth 40000 in
theorem zcX1_bounded : Cond.code yX1_bounded cX1_bounded 2 (some .int) ∈ zTB := ztb 623 (by rfl) (by decide +kernel)
set_option maxRecDepth 40000 in
theorem ztX1_bounded : Cond.static yX1_bounded ∈ zTB := ztb 622 (by rfl) (by decide +kernel)
set_option maxRecDepth 40000 in
theorem zcX2_init : Cond.code yX2_init cX2_init 2 none ∈ zTB := ztb 173 (by rfl) (by decide +kernel)
set_option maxRecDepth 40000 in
theorem ziX2_init : Cond.instanceMethod yX2_init ∈ zTB := ztb 172 (by rfl) (by decide +kernel)
set_option maxRecDepth 40000 in
theorem zcX2_read : Cond.code yX2_read cX2_read 2 (some .boolean) ∈ zTB := ztb 453 (by rfl) (by decide +kernel)
set_option maxRecDepth 40000 in
theorem ziX2_read : Cond.instanceMethod yX2_read ∈ zTB := ztb 451 (by rfl) (by decide +kernel)
set_option maxRecDepth 40000 in
theorem zsX2_read : Cond.selects yX2_read.cls yX2_read yX2_read ∈ zTB := ztb 452 (by rfl) (by decide +kernel)
set_option maxRecDepth 40000 in
theorem zcX2_compiled : Cond.code yX2_compiled cX2_compiled 1 (some (.object "TabooIsles$Custom")) ∈ zTB := ztb 537 (by rfl) (by decide +kernel)
set_option maxRecDepth 40000 in
theorem ziX2_compiled : Cond.instanceMethod yX2_compiled ∈ zTB := ztb 535 (by rfl) (by decide +kernel)
set_option maxRecDepth 40000 in
theorem zsX2_compiled : Cond.selects yX2_compiled.cls yX2_compiled yX2_compiled ∈ zTB := ztb 536 (by rfl) (by decide +kernel)
set_option maxRecDepth 40000 in
theorem zcX2_clause : Cond.code yX2_clause cX2_clause 2 (some .boolean) ∈ zTB := ztb 458 (by rfl) (by decide +kernel)
set_option maxRecDepth 40000 in
theorem ziX2_clause : Cond.instanceMethod yX2_clause ∈ zTB := ztb 457 (by rfl) (by decide +kernel)
set_option maxRecDepth 40000 in
theorem zsX2_clause : Cond.selects yX2_clause.cls yX2_clause yX2_clause ∈ zTB := ztb 5 (by rfl) (by decide +kernel)
set_option maxRecDepth 40000 in
theorem zcX2_answer : Cond.code yX2_answer cX2_answer 1 (some .boolean) ∈ zTB := ztb 504 (by rfl) (by decide +kernel)
set_option maxRecDepth 40000 in
theorem ziX2_answer : Cond.instanceMethod yX2_answer ∈ zTB := ztb 503 (by rfl) (by decide +kernel)
set_option maxRecDepth 40000 in
theorem zsX2_answer : Cond.selects yX2_answer.cls yX2_answer yX2_answer ∈ zTB := ztb 15 (by rfl) (by decide +kernel)
set_option maxRecDepth 40000 in
theorem zcX2_condition : Cond.code yX2_condition cX2_condition 2 (some .boolean) ∈ zTB := ztb 464 (by rfl) (by decide +kernel)
set_option maxRecDepth 40000 in
theorem ziX2_condition : Cond.instanceMethod yX2_condition ∈ zTB := ztb 463 (by rfl) (by decide +kernel)
set_option maxRecDepth 40000 in
theorem zsX2_condition : Cond.selects yX2_condition.cls yX2_condition yX2_condition ∈ zTB := ztb 6 (by rfl) (by decide +kernel)
set_option maxRecDepth 40000 in
theorem zcX2_moreTruths : Cond.code yX2_moreTruths cX2_moreTruths 3 (some .boolean) ∈ zTB := ztb 496 (by rfl) (by decide +kernel)
set_option maxRecDepth 40000 in
theorem ziX2_moreTruths : Cond.instanceMethod yX2_moreTruths ∈ zTB := ztb 495 (by rfl) (by decide +kernel)
set_option maxRecDepth 40000 in
theorem zsX2_moreTruths : Cond.selects yX2_moreTruths.cls yX2_moreTruths yX2_moreTruths ∈ zTB := ztb 13 (by rfl) (by decide +kernel)
set_option maxRecDepth 40000 in
theorem zcX2_moreUnits : Cond.code yX2_moreUnits cX2_moreUnits 3 (some .boolean) ∈ zTB := ztb 500 (by rfl) (by decide +kernel)
set_option maxRecDepth 40000 in
theorem ziX2_moreUnits : Cond.instanceMethod yX2_moreUnits ∈ zTB := ztb 499 (by rfl) (by decide +kernel)
set_option maxRecDepth 40000 in
theorem zsX2_moreUnits : Cond.selects yX2_moreUnits.cls yX2_moreUnits yX2_moreUnits ∈ zTB := ztb 14 (by rfl) (by decide +kernel)
set_option maxRecDepth 40000 in
theorem zcX2_unit : Cond.code yX2_unit cX2_unit 4 (some .boolean) ∈ zTB := ztb 468 (by rfl) (by decide +kernel)
set_option maxRecDepth 40000 in
theorem ziX2_unit : Cond.instanceMethod yX2_unit ∈ zTB := ztb 467 (by rfl) (by decide +kernel)
set_option maxRecDepth 40000 in
theorem zsX2_unit : Cond.selects yX2_unit.cls yX2_unit yX2_unit ∈ zTB := ztb 7 (by rfl) (by decide +kernel)
set_option maxRecDepth 40000 in
theorem zcX2_comparison : Cond.code yX2_comparison cX2_comparison 3 (some .int) ∈ zTB := ztb 492 (by rfl) (by decide +kernel)
set_option maxRecDepth 40000 in
theorem ziX2_comparison : Cond.instanceMethod yX2_comparison ∈ zTB := ztb 491 (by rfl) (by decide +kernel)
set_option maxRecDepth 40000 in
theorem zsX2_comparison : Cond.selects yX2_comparison.cls yX2_comparison yX2_comparison ∈ zTB := ztb 12 (by rfl) (by decide +kernel)
set_option maxRecDepth 40000 in
theorem zcX2_sum : Cond.code yX2_sum cX2_sum 4 (some .boolean) ∈ zTB := ztb 472 (by rfl) (by decide +kernel)
set_option maxRecDepth 40000 in
theorem ziX2_sum : Cond.instanceMethod yX2_sum ∈ zTB := ztb 471 (by rfl) (by decide +kernel)
set_option maxRecDepth 40000 in
theorem zsX2_sum : Cond.selects yX2_sum.cls yX2_sum yX2_sum ∈ zTB := ztb 8 (by rfl) (by decide +kernel)
set_option maxRecDepth 40000 in
theorem zcX2_term : Cond.code yX2_term cX2_term 4 (some .boolean) ∈ zTB := ztb 476 (by rfl) (by decide +kernel)
set_option maxRecDepth 40000 in
theorem ziX2_term : Cond.instanceMethod yX2_term ∈ zTB := ztb 475 (by rfl) (by decide +kernel)
set_option maxRecDepth 40000 in
theorem zsX2_term : Cond.selects yX2_term.cls yX2_term yX2_term ∈ zTB := ztb 9 (by rfl) (by decide +kernel)
set_option maxRecDepth 40000 in
theorem zcX2_atom : Cond.code yX2_atom cX2_atom 4 (some .boolean) ∈ zTB := ztb 480 (by rfl) (by decide +kernel)
set_option maxRecDepth 40000 in
theorem ziX2_atom : Cond.instanceMethod yX2_atom ∈ zTB := ztb 479 (by rfl) (by decide +kernel)
set_option maxRecDepth 40000 in
theorem zsX2_atom : Cond.selects yX2_atom.cls yX2_atom yX2_atom ∈ zTB := ztb 10 (by rfl) (by decide +kernel)
set_option maxRecDepth 40000 in
theorem zcX2_isLetter : Cond.code yX2_isLetter cX2_isLetter 1 (some .boolean) ∈ zTB := ztb 483 (by rfl) (by decide +kernel)
set_option maxRecDepth 40000 in
theorem ztX2_isLetter : Cond.static yX2_isLetter ∈ zTB := ztb 482 (by rfl) (by decide +kernel)
set_option maxRecDepth 40000 in
theorem zcX2_emit : Cond.code yX2_emit cX2_emit 2 none ∈ zTB := ztb 487 (by rfl) (by decide +kernel)
set_option maxRecDepth 40000 in
theorem ziX2_emit : Cond.instanceMethod yX2_emit ∈ zTB := ztb 486 (by rfl) (by decide +kernel)
set_option maxRecDepth 40000 in
theorem zsX2_emit : Cond.selects yX2_emit.cls yX2_emit yX2_emit ∈ zTB := ztb 11 (by rfl) (by decide +kernel)
set_option maxRecDepth 40000 in
theorem zcX3_init : Cond.code yX3_init cX3_init 1 none ∈ zTB := ztb 197 (by rfl) (by decide +kernel)
set_option maxRecDepth 40000 in
theorem ziX3_init : Cond.instanceMethod yX3_init ∈ zTB := ztb 196 (by rfl) (by decide +kernel)
set_option maxRecDepth 40000 in
theorem zcX3_clear : Cond.code yX3_clear cX3_clear 1 none ∈ zTB := ztb 528 (by rfl) (by decide +kernel)
set_option maxRecDepth 40000 in
theorem ziX3_clear : Cond.instanceMethod yX3_clear ∈ zTB := ztb 526 (by rfl) (by decide +kernel)
set_option maxRecDepth 40000 in
theorem zsX3_clear : Cond.selects yX3_clear.cls yX3_clear yX3_clear ∈ zTB := ztb 527 (by rfl) (by decide +kernel)
set_option maxRecDepth 40000 in
theorem zcX3_copy : Cond.code yX3_copy cX3_copy 2 none ∈ zTB := ztb 1011 (by rfl) (by decide +kernel)
set_option maxRecDepth 40000 in
theorem ziX3_copy : Cond.instanceMethod yX3_copy ∈ zTB := ztb 1009 (by rfl) (by decide +kernel)
set_option maxRecDepth 40000 in
theorem zsX3_copy : Cond.selects yX3_copy.cls yX3_copy yX3_copy ∈ zTB := ztb 1010 (by rfl) (by decide +kernel)
set_option maxRecDepth 40000 in
theorem zcX3_addChange : Cond.code yX3_addChange cX3_addChange 4 (some .boolean) ∈ zTB := ztb 893 (by rfl) (by decide +kernel)
set_option maxRecDepth 40000 in
theorem ziX3_addChange : Cond.instanceMethod yX3_addChange ∈ zTB := ztb 891 (by rfl) (by decide +kernel)
set_option maxRecDepth 40000 in
theorem zsX3_addChange : Cond.selects yX3_addChange.cls yX3_addChange yX3_addChange ∈ zTB := ztb 892 (by rfl) (by decide +kernel)
set_option maxRecDepth 40000 in
theorem zcX3_addSaid : Cond.code yX3_addSaid cX3_addSaid 3 (some .boolean) ∈ zTB := ztb 917 (by rfl) (by decide +kernel)
set_option maxRecDepth 40000 in
theorem ziX3_addSaid : Cond.instanceMethod yX3_addSaid ∈ zTB := ztb 915 (by rfl) (by decide +kernel)
set_option maxRecDepth 40000 in
theorem zsX3_addSaid : Cond.selects yX3_addSaid.cls yX3_addSaid yX3_addSaid ∈ zTB := ztb 916 (by rfl) (by decide +kernel)
set_option maxRecDepth 40000 in
theorem zcX3_tabooOn : Cond.code yX3_tabooOn cX3_tabooOn 7 (some .int) ∈ zTB := ztb 603 (by rfl) (by decide +kernel)
set_option maxRecDepth 40000 in
theorem ziX3_tabooOn : Cond.instanceMethod yX3_tabooOn ∈ zTB := ztb 601 (by rfl) (by decide +kernel)
set_option maxRecDepth 40000 in
theorem zsX3_tabooOn : Cond.selects yX3_tabooOn.cls yX3_tabooOn yX3_tabooOn ∈ zTB := ztb 602 (by rfl) (by decide +kernel)
set_option maxRecDepth 40000 in
theorem zcX3_drownings : Cond.code yX3_drownings cX3_drownings 8 none ∈ zTB := ztb 901 (by rfl) (by decide +kernel)
set_option maxRecDepth 40000 in
theorem ziX3_drownings : Cond.instanceMethod yX3_drownings ∈ zTB := ztb 899 (by rfl) (by decide +kernel)
set_option maxRecDepth 40000 in
theorem zsX3_drownings : Cond.selects yX3_drownings.cls yX3_drownings yX3_drownings ∈ zTB := ztb 900 (by rfl) (by decide +kernel)
set_option maxRecDepth 40000 in
theorem zcX3_draw : Cond.code yX3_draw cX3_draw 2 (some .int) ∈ zTB := ztb 906 (by rfl) (by decide +kernel)
set_option maxRecDepth 40000 in
theorem ziX3_draw : Cond.instanceMethod yX3_draw ∈ zTB := ztb 905 (by rfl) (by decide +kernel)
set_option maxRecDepth 40000 in
theorem zsX3_draw : Cond.selects yX3_draw.cls yX3_draw yX3_draw ∈ zTB := ztb 41 (by rfl) (by decide +kernel)
set_option maxRecDepth 40000 in
theorem zcX4_init : Cond.code yX4_init cX4_init 1 none ∈ zTB := ztb 269 (by rfl) (by decide +kernel)
set_option maxRecDepth 40000 in
theorem ziX4_init : Cond.instanceMethod yX4_init ∈ zTB := ztb 268 (by rfl) (by decide +kernel)
set_option maxRecDepth 40000 in
theorem zcX4_open : Cond.code yX4_open cX4_open 3 none ∈ zTB := ztb 650 (by rfl) (by decide +kernel)
set_option maxRecDepth 40000 in
theorem ziX4_open : Cond.instanceMethod yX4_open ∈ zTB := ztb 648 (by rfl) (by decide +kernel)
set_option maxRecDepth 40000 in
theorem zsX4_open : Cond.selects yX4_open.cls yX4_open yX4_open ∈ zTB := ztb 649 (by rfl) (by decide +kernel)
set_option maxRecDepth 40000 in
theorem zcX4_countForward : Cond.code yX4_countForward cX4_countForward 5 none ∈ zTB := ztb 713 (by rfl) (by decide +kernel)
set_option maxRecDepth 40000 in
theorem ziX4_countForward : Cond.instanceMethod yX4_countForward ∈ zTB := ztb 711 (by rfl) (by decide +kernel)
set_option maxRecDepth 40000 in
theorem zsX4_countForward : Cond.selects yX4_countForward.cls yX4_countForward yX4_countForward ∈ zTB := ztb 712 (by rfl) (by decide +kernel)
set_option maxRecDepth 40000 in
theorem zcX4_unpaid : Cond.code yX4_unpaid cX4_unpaid 3 (some .int) ∈ zTB := ztb 717 (by rfl) (by decide +kernel)
set_option maxRecDepth 40000 in
theorem ziX4_unpaid : Cond.instanceMethod yX4_unpaid ∈ zTB := ztb 715 (by rfl) (by decide +kernel)
set_option maxRecDepth 40000 in
theorem zsX4_unpaid : Cond.selects yX4_unpaid.cls yX4_unpaid yX4_unpaid ∈ zTB := ztb 716 (by rfl) (by decide +kernel)
set_option maxRecDepth 40000 in
theorem zcX4_unpaidAt : Cond.code yX4_unpaidAt cX4_unpaidAt 4 (some .int) ∈ zTB := ztb 725 (by rfl) (by decide +kernel)
set_option maxRecDepth 40000 in
theorem ziX4_unpaidAt : Cond.instanceMethod yX4_unpaidAt ∈ zTB := ztb 723 (by rfl) (by decide +kernel)
set_option maxRecDepth 40000 in
theorem zsX4_unpaidAt : Cond.selects yX4_unpaidAt.cls yX4_unpaidAt yX4_unpaidAt ∈ zTB := ztb 724 (by rfl) (by decide +kernel)
set_option maxRecDepth 40000 in
theorem zcX4_isPaid : Cond.code yX4_isPaid cX4_isPaid 2 (some .boolean) ∈ zTB := ztb 721 (by rfl) (by decide +kernel)
set_option maxRecDepth 40000 in
theorem ziX4_isPaid : Cond.instanceMethod yX4_isPaid ∈ zTB := ztb 719 (by rfl) (by decide +kernel)
set_option maxRecDepth 40000 in
theorem zsX4_isPaid : Cond.selects yX4_isPaid.cls yX4_isPaid yX4_isPaid ∈ zTB := ztb 720 (by rfl) (by decide +kernel)
set_option maxRecDepth 40000 in
theorem zcX4_rowPart : Cond.code yX4_rowPart cX4_rowPart 7 (some .int) ∈ zTB := ztb 659 (by rfl) (by decide +kernel)
set_option maxRecDepth 40000 in
theorem ziX4_rowPart : Cond.instanceMethod yX4_rowPart ∈ zTB := ztb 657 (by rfl) (by decide +kernel)
set_option maxRecDepth 40000 in
theorem zsX4_rowPart : Cond.selects yX4_rowPart.cls yX4_rowPart yX4_rowPart ∈ zTB := ztb 658 (by rfl) (by decide +kernel)
set_option maxRecDepth 40000 in
theorem zcX4_rows : Cond.code yX4_rows cX4_rows 5 (some .long) ∈ zTB := ztb 698 (by rfl) (by decide +kernel)
set_option maxRecDepth 40000 in
theorem ziX4_rows : Cond.instanceMethod yX4_rows ∈ zTB := ztb 696 (by rfl) (by decide +kernel)
set_option maxRecDepth 40000 in
theorem zsX4_rows : Cond.selects yX4_rows.cls yX4_rows yX4_rows ∈ zTB := ztb 697 (by rfl) (by decide +kernel)
set_option maxRecDepth 40000 in
theorem zcX4_partitions : Cond.code yX4_partitions cX4_partitions 4 (some .int) ∈ zTB := ztb 745 (by rfl) (by decide +kernel)
set_option maxRecDepth 40000 in
theorem ziX4_partitions : Cond.instanceMethod yX4_partitions ∈ zTB := ztb 743 (by rfl) (by decide +kernel)
set_option maxRecDepth 40000 in
theorem zsX4_partitions : Cond.selects yX4_partitions.cls yX4_partitions yX4_partitions ∈ zTB := ztb 744 (by rfl) (by decide +kernel)
set_option maxRecDepth 40000 in
theorem zcX4_isBarred : Cond.code yX4_isBarred cX4_isBarred 2 (some .boolean) ∈ zTB := ztb 671 (by rfl) (by decide +kernel)
set_option maxRecDepth 40000 in
theorem ziX4_isBarred : Cond.instanceMethod yX4_isBarred ∈ zTB := ztb 669 (by rfl) (by decide +kernel)
set_option maxRecDepth 40000 in
theorem zsX4_isBarred : Cond.selects yX4_isBarred.cls yX4_isBarred yX4_isBarred ∈ zTB := ztb 670 (by rfl) (by decide +kernel)
set_option maxRecDepth 40000 in
theorem zcX4_isPart : Cond.code yX4_isPart cX4_isPart 2 (some .boolean) ∈ zTB := ztb 675 (by rfl) (by decide +kernel)
set_option maxRecDepth 40000 in
theorem ziX4_isPart : Cond.instanceMethod yX4_isPart ∈ zTB := ztb 674 (by rfl) (by decide +kernel)
set_option maxRecDepth 40000 in
theorem zsX4_isPart : Cond.selects yX4_isPart.cls yX4_isPart yX4_isPart ∈ zTB := ztb 22 (by rfl) (by decide +kernel)
set_option maxRecDepth 40000 in
theorem zcX4_isTotal : Cond.code yX4_isTotal cX4_isTotal 2 (some .boolean) ∈ zTB := ztb 667 (by rfl) (by decide +kernel)
set_option maxRecDepth 40000 in
theorem ziX4_isTotal : Cond.instanceMethod yX4_isTotal ∈ zTB := ztb 666 (by rfl) (by decide +kernel)
set_option maxRecDepth 40000 in
theorem zsX4_isTotal : Cond.selects yX4_isTotal.cls yX4_isTotal yX4_isTotal ∈ zTB := ztb 21 (by rfl) (by decide +kernel)
set_option maxRecDepth 40000 in
theorem zcX4_isCount : Cond.code yX4_isCount cX4_isCount 2 (some .boolean) ∈ zTB := ztb 684 (by rfl) (by decide +kernel)
set_option maxRecDepth 40000 in
theorem ziX4_isCount : Cond.instanceMethod yX4_isCount ∈ zTB := ztb 683 (by rfl) (by decide +kernel)
set_option maxRecDepth 40000 in
theorem zsX4_isCount : Cond.selects yX4_isCount.cls yX4_isCount yX4_isCount ∈ zTB := ztb 24 (by rfl) (by decide +kernel)
set_option maxRecDepth 40000 in
theorem zcX4_fewest : Cond.code yX4_fewest cX4_fewest 4 (some .int) ∈ zTB := ztb 680 (by rfl) (by decide +kernel)
set_option maxRecDepth 40000 in
theorem ziX4_fewest : Cond.instanceMethod yX4_fewest ∈ zTB := ztb 679 (by rfl) (by decide +kernel)
set_option maxRecDepth 40000 in
theorem zsX4_fewest : Cond.selects yX4_fewest.cls yX4_fewest yX4_fewest ∈ zTB := ztb 23 (by rfl) (by decide +kernel)
set_option maxRecDepth 40000 in
theorem zcX4_countBack : Cond.code yX4_countBack cX4_countBack 6 none ∈ zTB := ztb 663 (by rfl) (by decide +kernel)
set_option maxRecDepth 40000 in
theorem ziX4_countBack : Cond.instanceMethod yX4_countBack ∈ zTB := ztb 662 (by rfl) (by decide +kernel)
set_option maxRecDepth 40000 in
theorem zsX4_countBack : Cond.selects yX4_countBack.cls yX4_countBack yX4_countBack ∈ zTB := ztb 20 (by rfl) (by decide +kernel)
set_option maxRecDepth 40000 in
theorem zcX4_greatestPart : Cond.code yX4_greatestPart cX4_greatestPart 5 (some .int) ∈ zTB := ztb 688 (by rfl) (by decide +kernel)
set_option maxRecDepth 40000 in
theorem ziX4_greatestPart : Cond.instanceMethod yX4_greatestPart ∈ zTB := ztb 687 (by rfl) (by decide +kernel)
set_option maxRecDepth 40000 in
theorem zsX4_greatestPart : Cond.selects yX4_greatestPart.cls yX4_greatestPart yX4_greatestPart ∈ zTB := ztb 25 (by rfl) (by decide +kernel)
set_option maxRecDepth 40000 in
theorem zcX4_waysBefore : Cond.code yX4_waysBefore cX4_waysBefore 5 (some .long) ∈ zTB := ztb 705 (by rfl) (by decide +kernel)
set_option maxRecDepth 40000 in
theorem ziX4_waysBefore : Cond.instanceMethod yX4_waysBefore ∈ zTB := ztb 704 (by rfl) (by decide +kernel)
set_option maxRecDepth 40000 in
theorem zsX4_waysBefore : Cond.selects yX4_waysBefore.cls yX4_waysBefore yX4_waysBefore ∈ zTB := ztb 26 (by rfl) (by decide +kernel)
set_option maxRecDepth 40000 in
theorem zcX4_addSize : Cond.code yX4_addSize cX4_addSize 5 none ∈ zTB := ztb 750 (by rfl) (by decide +kernel)
set_option maxRecDepth 40000 in
theorem ziX4_addSize : Cond.instanceMethod yX4_addSize ∈ zTB := ztb 749 (by rfl) (by decide +kernel)
set_option maxRecDepth 40000 in
theorem zsX4_addSize : Cond.selects yX4_addSize.cls yX4_addSize yX4_addSize ∈ zTB := ztb 29 (by rfl) (by decide +kernel)
set_option maxRecDepth 40000 in
theorem zcX5_init : Cond.code yX5_init cX5_init 1 none ∈ zTB := ztb 130 (by rfl) (by decide +kernel)
set_option maxRecDepth 40000 in
theorem ziX5_init : Cond.instanceMethod yX5_init ∈ zTB := ztb 129 (by rfl) (by decide +kernel)
set_option maxRecDepth 40000 in
theorem zcX5_add : Cond.code yX5_add cX5_add 4 none ∈ zTB := ztb 392 (by rfl) (by decide +kernel)
set_option maxRecDepth 40000 in
theorem ziX5_add : Cond.instanceMethod yX5_add ∈ zTB := ztb 390 (by rfl) (by decide +kernel)
set_option maxRecDepth 40000 in
theorem zsX5_add : Cond.selects yX5_add.cls yX5_add yX5_add ∈ zTB := ztb 391 (by rfl) (by decide +kernel)
set_option maxRecDepth 40000 in
theorem zcX5_begin : Cond.code yX5_begin cX5_begin 1 none ∈ zTB := ztb 413 (by rfl) (by decide +kernel)
set_option maxRecDepth 40000 in
theorem ziX5_begin : Cond.instanceMethod yX5_begin ∈ zTB := ztb 411 (by rfl) (by decide +kernel)
set_option maxRecDepth 40000 in
theorem zsX5_begin : Cond.selects yX5_begin.cls yX5_begin yX5_begin ∈ zTB := ztb 412 (by rfl) (by decide +kernel)
set_option maxRecDepth 40000 in
theorem zcX5_sign : Cond.code yX5_sign cX5_sign 1 (some .int) ∈ zTB := ztb 429 (by rfl) (by decide +kernel)
set_option maxRecDepth 40000 in
theorem ziX5_sign : Cond.instanceMethod yX5_sign ∈ zTB := ztb 427 (by rfl) (by decide +kernel)
set_option maxRecDepth 40000 in
theorem zsX5_sign : Cond.selects yX5_sign.cls yX5_sign yX5_sign ∈ zTB := ztb 428 (by rfl) (by decide +kernel)
set_option maxRecDepth 40000 in
theorem zcX5_isSpent : Cond.code yX5_isSpent cX5_isSpent 1 (some .boolean) ∈ zTB := ztb 449 (by rfl) (by decide +kernel)
set_option maxRecDepth 40000 in
theorem ziX5_isSpent : Cond.instanceMethod yX5_isSpent ∈ zTB := ztb 447 (by rfl) (by decide +kernel)
set_option maxRecDepth 40000 in
theorem zsX5_isSpent : Cond.selects yX5_isSpent.cls yX5_isSpent yX5_isSpent ∈ zTB := ztb 448 (by rfl) (by decide +kernel)
set_option maxRecDepth 40000 in
theorem zcX5_accept : Cond.code yX5_accept cX5_accept 2 (some .boolean) ∈ zTB := ztb 436 (by rfl) (by decide +kernel)
set_option maxRecDepth 40000 in
theorem ziX5_accept : Cond.instanceMethod yX5_accept ∈ zTB := ztb 434 (by rfl) (by decide +kernel)
set_option maxRecDepth 40000 in
theorem zsX5_accept : Cond.selects yX5_accept.cls yX5_accept yX5_accept ∈ zTB := ztb 435 (by rfl) (by decide +kernel)
set_option maxRecDepth 40000 in
theorem zcX5_number : Cond.code yX5_number cX5_number 4 (some .int) ∈ zTB := ztb 425 (by rfl) (by decide +kernel)
set_option maxRecDepth 40000 in
theorem ziX5_number : Cond.instanceMethod yX5_number ∈ zTB := ztb 423 (by rfl) (by decide +kernel)
set_option maxRecDepth 40000 in
theorem zsX5_number : Cond.selects yX5_number.cls yX5_number yX5_number ∈ zTB := ztb 424 (by rfl) (by decide +kernel)
set_option maxRecDepth 40000 in
theorem zcX5_isDigit : Cond.code yX5_isDigit cX5_isDigit 1 (some .boolean) ∈ zTB := ztb 432 (by rfl) (by decide +kernel)
set_option maxRecDepth 40000 in
theorem ztX5_isDigit : Cond.static yX5_isDigit ∈ zTB := ztb 431 (by rfl) (by decide +kernel)
set_option maxRecDepth 40000 in
theorem zcX5_skipBlanks : Cond.code yX5_skipBlanks cX5_skipBlanks 2 none ∈ zTB := ztb 417 (by rfl) (by decide +kernel)
set_option maxRecDepth 40000 in
theorem ziX5_skipBlanks : Cond.instanceMethod yX5_skipBlanks ∈ zTB := ztb 416 (by rfl) (by decide +kernel)
set_option maxRecDepth 40000 in
theorem zsX5_skipBlanks : Cond.selects yX5_skipBlanks.cls yX5_skipBlanks yX5_skipBlanks ∈ zTB := ztb 1 (by rfl) (by decide +kernel)
set_option maxRecDepth 40000 in
theorem zcX6_init : Cond.code yX6_init cX6_init 3 none ∈ zTB := ztb 299 (by rfl) (by decide +kernel)
set_option maxRecDepth 40000 in
theorem ziX6_init : Cond.instanceMethod yX6_init ∈ zTB := ztb 298 (by rfl) (by decide +kernel)
set_option maxRecDepth 40000 in
theorem zcX6_addGood : Cond.code yX6_addGood cX6_addGood 1 (some .int) ∈ zTB := ztb 800 (by rfl) (by decide +kernel)
set_option maxRecDepth 40000 in
theorem ziX6_addGood : Cond.instanceMethod yX6_addGood ∈ zTB := ztb 798 (by rfl) (by decide +kernel)
set_option maxRecDepth 40000 in
theorem zsX6_addGood : Cond.selects yX6_addGood.cls yX6_addGood yX6_addGood ∈ zTB := ztb 799 (by rfl) (by decide +kernel)
set_option maxRecDepth 40000 in
theorem zcX6_isGood : Cond.code yX6_isGood cX6_isGood 2 (some .boolean) ∈ zTB := ztb 809 (by rfl) (by decide +kernel)
set_option maxRecDepth 40000 in
theorem ziX6_isGood : Cond.instanceMethod yX6_isGood ∈ zTB := ztb 807 (by rfl) (by decide +kernel)
set_option maxRecDepth 40000 in
theorem zsX6_isGood : Cond.selects yX6_isGood.cls yX6_isGood yX6_isGood ∈ zTB := ztb 808 (by rfl) (by decide +kernel)
set_option maxRecDepth 40000 in
theorem zcX6_lawfulDeals : Cond.code yX6_lawfulDeals cX6_lawfulDeals 7 (some .int) ∈ zTB := ztb 817 (by rfl) (by decide +kernel)
set_option maxRecDepth 40000 in
theorem ziX6_lawfulDeals : Cond.instanceMethod yX6_lawfulDeals ∈ zTB := ztb 815 (by rfl) (by decide +kernel)
set_option maxRecDepth 40000 in
theorem zsX6_lawfulDeals : Cond.selects yX6_lawfulDeals.cls yX6_lawfulDeals yX6_lawfulDeals ∈ zTB := ztb 816 (by rfl) (by decide +kernel)
set_option maxRecDepth 40000 in
theorem zcX6_allows : Cond.code yX6_allows cX6_allows 3 (some .boolean) ∈ zTB := ztb 829 (by rfl) (by decide +kernel)
set_option maxRecDepth 40000 in
theorem ztX6_allows : Cond.static yX6_allows ∈ zTB := ztb 828 (by rfl) (by decide +kernel)
set_option maxRecDepth 40000 in
theorem zcX6_learnDeals : Cond.code yX6_learnDeals cX6_learnDeals 6 none ∈ zTB := ztb 838 (by rfl) (by decide +kernel)
set_option maxRecDepth 40000 in
theorem ziX6_learnDeals : Cond.instanceMethod yX6_learnDeals ∈ zTB := ztb 836 (by rfl) (by decide +kernel)
set_option maxRecDepth 40000 in
theorem zsX6_learnDeals : Cond.selects yX6_learnDeals.cls yX6_learnDeals yX6_learnDeals ∈ zTB := ztb 837 (by rfl) (by decide +kernel)
set_option maxRecDepth 40000 in
theorem zcX6_mostMoney : Cond.code yX6_mostMoney cX6_mostMoney 5 (some .int) ∈ zTB := ztb 848 (by rfl) (by decide +kernel)
set_option maxRecDepth 40000 in
theorem ziX6_mostMoney : Cond.instanceMethod yX6_mostMoney ∈ zTB := ztb 846 (by rfl) (by decide +kernel)
set_option maxRecDepth 40000 in
theorem zsX6_mostMoney : Cond.selects yX6_mostMoney.cls yX6_mostMoney yX6_mostMoney ∈ zTB := ztb 847 (by rfl) (by decide +kernel)
set_option maxRecDepth 40000 in
theorem zcX6_dealBit : Cond.code yX6_dealBit cX6_dealBit 2 (some .int) ∈ zTB := ztb 826 (by rfl) (by decide +kernel)
set_option maxRecDepth 40000 in
theorem ztX6_dealBit : Cond.static yX6_dealBit ∈ zTB := ztb 825 (by rfl) (by decide +kernel)
set_option maxRecDepth 40000 in
theorem zcX6_markNext : Cond.code yX6_markNext cX6_markNext 6 none ∈ zTB := ztb 844 (by rfl) (by decide +kernel)
set_option maxRecDepth 40000 in
theorem ziX6_markNext : Cond.instanceMethod yX6_markNext ∈ zTB := ztb 843 (by rfl) (by decide +kernel)
set_option maxRecDepth 40000 in
theorem zsX6_markNext : Cond.selects yX6_markNext.cls yX6_markNext yX6_markNext ∈ zTB := ztb 33 (by rfl) (by decide +kernel)
set_option maxRecDepth 40000 in
theorem zcX6_land : Cond.code yX6_land cX6_land 10 none ∈ zTB := ztb 859 (by rfl) (by decide +kernel)
set_option maxRecDepth 40000 in
theorem ziX6_land : Cond.instanceMethod yX6_land ∈ zTB := ztb 858 (by rfl) (by decide +kernel)
set_option maxRecDepth 40000 in
theorem zsX6_land : Cond.selects yX6_land.cls yX6_land yX6_land ∈ zTB := ztb 35 (by rfl) (by decide +kernel)
set_option maxRecDepth 40000 in
theorem zcX6_trade : Cond.code yX6_trade cX6_trade 9 none ∈ zTB := ztb 881 (by rfl) (by decide +kernel)
set_option maxRecDepth 40000 in
theorem ziX6_trade : Cond.instanceMethod yX6_trade ∈ zTB := ztb 880 (by rfl) (by decide +kernel)
set_option maxRecDepth 40000 in
theorem zsX6_trade : Cond.selects yX6_trade.cls yX6_trade yX6_trade ∈ zTB := ztb 40 (by rfl) (by decide +kernel)
set_option maxRecDepth 40000 in
theorem zcX6_leave : Cond.code yX6_leave cX6_leave 9 none ∈ zTB := ztb 877 (by rfl) (by decide +kernel)
set_option maxRecDepth 40000 in
theorem ziX6_leave : Cond.instanceMethod yX6_leave ∈ zTB := ztb 876 (by rfl) (by decide +kernel)
set_option maxRecDepth 40000 in
theorem zsX6_leave : Cond.selects yX6_leave.cls yX6_leave yX6_leave ∈ zTB := ztb 39 (by rfl) (by decide +kernel)
set_option maxRecDepth 40000 in
theorem zcX6_buyNothing : Cond.code yX6_buyNothing cX6_buyNothing 2 none ∈ zTB := ztb 873 (by rfl) (by decide +kernel)
set_option maxRecDepth 40000 in
theorem ziX6_buyNothing : Cond.instanceMethod yX6_buyNothing ∈ zTB := ztb 872 (by rfl) (by decide +kernel)
set_option maxRecDepth 40000 in
theorem zsX6_buyNothing : Cond.selects yX6_buyNothing.cls yX6_buyNothing yX6_buyNothing ∈ zTB := ztb 38 (by rfl) (by decide +kernel)
set_option maxRecDepth 40000 in
theorem zcX6_widestSpread : Cond.code yX6_widestSpread cX6_widestSpread 6 (some .int) ∈ zTB := ztb 852 (by rfl) (by decide +kernel)
set_option maxRecDepth 40000 in
theorem ziX6_widestSpread : Cond.instanceMethod yX6_widestSpread ∈ zTB := ztb 851 (by rfl) (by decide +kernel)
set_option maxRecDepth 40000 in
theorem zsX6_widestSpread : Cond.selects yX6_widestSpread.cls yX6_widestSpread yX6_widestSpread ∈ zTB := ztb 34 (by rfl) (by decide +kernel)
set_option maxRecDepth 40000 in
theorem zcX6_lawfulAt : Cond.code yX6_lawfulAt cX6_lawfulAt 4 (some .int) ∈ zTB := ztb 863 (by rfl) (by decide +kernel)
set_option maxRecDepth 40000 in
theorem ziX6_lawfulAt : Cond.instanceMethod yX6_lawfulAt ∈ zTB := ztb 862 (by rfl) (by decide +kernel)
set_option maxRecDepth 40000 in
theorem zsX6_lawfulAt : Cond.selects yX6_lawfulAt.cls yX6_lawfulAt yX6_lawfulAt ∈ zTB := ztb 36 (by rfl) (by decide +kernel)
set_option maxRecDepth 40000 in
theorem zcX6_keep : Cond.code yX6_keep cX6_keep 2 none ∈ zTB := ztb 868 (by rfl) (by decide +kernel)
set_option maxRecDepth 40000 in
theorem ziX6_keep : Cond.instanceMethod yX6_keep ∈ zTB := ztb 867 (by rfl) (by decide +kernel)
set_option maxRecDepth 40000 in
theorem zsX6_keep : Cond.selects yX6_keep.cls yX6_keep yX6_keep ∈ zTB := ztb 37 (by rfl) (by decide +kernel)
set_option maxRecDepth 40000 in
theorem zcX7_init : Cond.code yX7_init cX7_init 1 none ∈ zTB := ztb 189 (by rfl) (by decide +kernel)
set_option maxRecDepth 40000 in
theorem ziX7_init : Cond.instanceMethod yX7_init ∈ zTB := ztb 188 (by rfl) (by decide +kernel)
set_option maxRecDepth 40000 in
theorem zcX7_settle : Cond.code yX7_settle cX7_settle 2 none ∈ zTB := ztb 517 (by rfl) (by decide +kernel)
set_option maxRecDepth 40000 in
theorem ziX7_settle : Cond.instanceMethod yX7_settle ∈ zTB := ztb 515 (by rfl) (by decide +kernel)
set_option maxRecDepth 40000 in
theorem zsX7_settle : Cond.selects yX7_settle.cls yX7_settle yX7_settle ∈ zTB := ztb 516 (by rfl) (by decide +kernel)
set_option maxRecDepth 40000 in
theorem zcX7_addCustom : Cond.code yX7_addCustom cX7_addCustom 2 (some .int) ∈ zTB := ztb 568 (by rfl) (by decide +kernel)
set_option maxRecDepth 40000 in
theorem ziX7_addCustom : Cond.instanceMethod yX7_addCustom ∈ zTB := ztb 566 (by rfl) (by decide +kernel)
set_option maxRecDepth 40000 in
theorem zsX7_addCustom : Cond.selects yX7_addCustom.cls yX7_addCustom yX7_addCustom ∈ zTB := ztb 567 (by rfl) (by decide +kernel)
set_option maxRecDepth 40000 in
theorem zcX7_isIsle : Cond.code yX7_isIsle cX7_isIsle 2 (some .boolean) ∈ zTB := ztb 576 (by rfl) (by decide +kernel)
set_option maxRecDepth 40000 in
theorem ziX7_isIsle : Cond.instanceMethod yX7_isIsle ∈ zTB := ztb 574 (by rfl) (by decide +kernel)
set_option maxRecDepth 40000 in
theorem zsX7_isIsle : Cond.selects yX7_isIsle.cls yX7_isIsle yX7_isIsle ∈ zTB := ztb 575 (by rfl) (by decide +kernel)
set_option maxRecDepth 40000 in
theorem zcX7_tabooOn : Cond.code yX7_tabooOn cX7_tabooOn 3 (some .int) ∈ zTB := ztb 598 (by rfl) (by decide +kernel)
set_option maxRecDepth 40000 in
theorem ziX7_tabooOn : Cond.instanceMethod yX7_tabooOn ∈ zTB := ztb 596 (by rfl) (by decide +kernel)
set_option maxRecDepth 40000 in
theorem zsX7_tabooOn : Cond.selects yX7_tabooOn.cls yX7_tabooOn yX7_tabooOn ∈ zTB := ztb 597 (by rfl) (by decide +kernel)
set_option maxRecDepth 40000 in
theorem zcX7_forbids : Cond.code yX7_forbids cX7_forbids 4 (some .boolean) ∈ zTB := ztb 594 (by rfl) (by decide +kernel)
set_option maxRecDepth 40000 in
theorem ziX7_forbids : Cond.instanceMethod yX7_forbids ∈ zTB := ztb 592 (by rfl) (by decide +kernel)
set_option maxRecDepth 40000 in
theorem zsX7_forbids : Cond.selects yX7_forbids.cls yX7_forbids yX7_forbids ∈ zTB := ztb 593 (by rfl) (by decide +kernel)
set_option maxRecDepth 40000 in
theorem zcX7_forbidsNow : Cond.code yX7_forbidsNow cX7_forbidsNow 3 (some .boolean) ∈ zTB := ztb 758 (by rfl) (by decide +kernel)
set_option maxRecDepth 40000 in
theorem ziX7_forbidsNow : Cond.instanceMethod yX7_forbidsNow ∈ zTB := ztb 756 (by rfl) (by decide +kernel)
set_option maxRecDepth 40000 in
theorem zsX7_forbidsNow : Cond.selects yX7_forbidsNow.cls yX7_forbidsNow yX7_forbidsNow ∈ zTB := ztb 757 (by rfl) (by decide +kernel)
set_option maxRecDepth 40000 in
theorem zcX7_forbidsBy : Cond.code yX7_forbidsBy cX7_forbidsBy 6 (some .boolean) ∈ zTB := ztb 607 (by rfl) (by decide +kernel)
set_option maxRecDepth 40000 in
theorem ziX7_forbidsBy : Cond.instanceMethod yX7_forbidsBy ∈ zTB := ztb 605 (by rfl) (by decide +kernel)
set_option maxRecDepth 40000 in
theorem zsX7_forbidsBy : Cond.selects yX7_forbidsBy.cls yX7_forbidsBy yX7_forbidsBy ∈ zTB := ztb 606 (by rfl) (by decide +kernel)
set_option maxRecDepth 40000 in
theorem zcX7_bar : Cond.code yX7_bar cX7_bar 6 none ∈ zTB := ztb 655 (by rfl) (by decide +kernel)
set_option maxRecDepth 40000 in
theorem ziX7_bar : Cond.instanceMethod yX7_bar ∈ zTB := ztb 653 (by rfl) (by decide +kernel)
set_option maxRecDepth 40000 in
theorem zsX7_bar : Cond.selects yX7_bar.cls yX7_bar yX7_bar ∈ zTB := ztb 654 (by rfl) (by decide +kernel)
set_option maxRecDepth 40000 in
theorem zcX7_barAlso : Cond.code yX7_barAlso cX7_barAlso 5 none ∈ zTB := ztb 981 (by rfl) (by decide +kernel)
set_option maxRecDepth 40000 in
theorem ziX7_barAlso : Cond.instanceMethod yX7_barAlso ∈ zTB := ztb 979 (by rfl) (by decide +kernel)
set_option maxRecDepth 40000 in
theorem zsX7_barAlso : Cond.selects yX7_barAlso.cls yX7_barAlso yX7_barAlso ∈ zTB := ztb 980 (by rfl) (by decide +kernel)
set_option maxRecDepth 40000 in
theorem zcX7_neverForbids : Cond.code yX7_neverForbids cX7_neverForbids 5 (some .boolean) ∈ zTB := ztb 943 (by rfl) (by decide +kernel)
set_option maxRecDepth 40000 in
theorem ziX7_neverForbids : Cond.instanceMethod yX7_neverForbids ∈ zTB := ztb 941 (by rfl) (by decide +kernel)
set_option maxRecDepth 40000 in
theorem zsX7_neverForbids : Cond.selects yX7_neverForbids.cls yX7_neverForbids yX7_neverForbids ∈ zTB := ztb 942 (by rfl) (by decide +kernel)
set_option maxRecDepth 40000 in
theorem zcX7_isBreach : Cond.code yX7_isBreach cX7_isBreach 2 (some .boolean) ∈ zTB := ztb 925 (by rfl) (by decide +kernel)
set_option maxRecDepth 40000 in
theorem ziX7_isBreach : Cond.instanceMethod yX7_isBreach ∈ zTB := ztb 923 (by rfl) (by decide +kernel)
set_option maxRecDepth 40000 in
theorem zsX7_isBreach : Cond.selects yX7_isBreach.cls yX7_isBreach yX7_isBreach ∈ zTB := ztb 924 (by rfl) (by decide +kernel)
set_option maxRecDepth 40000 in
theorem zcX7_finesOf : Cond.code yX7_finesOf cX7_finesOf 4 (some .int) ∈ zTB := ztb 933 (by rfl) (by decide +kernel)
set_option maxRecDepth 40000 in
theorem ziX7_finesOf : Cond.instanceMethod yX7_finesOf ∈ zTB := ztb 931 (by rfl) (by decide +kernel)
set_option maxRecDepth 40000 in
theorem zsX7_finesOf : Cond.selects yX7_finesOf.cls yX7_finesOf yX7_finesOf ∈ zTB := ztb 932 (by rfl) (by decide +kernel)
set_option maxRecDepth 40000 in
theorem zcX7_spokenAs : Cond.code yX7_spokenAs cX7_spokenAs 4 (some .int) ∈ zTB := ztb 959 (by rfl) (by decide +kernel)
set_option maxRecDepth 40000 in
theorem ziX7_spokenAs : Cond.instanceMethod yX7_spokenAs ∈ zTB := ztb 957 (by rfl) (by decide +kernel)
set_option maxRecDepth 40000 in
theorem zsX7_spokenAs : Cond.selects yX7_spokenAs.cls yX7_spokenAs yX7_spokenAs ∈ zTB := ztb 958 (by rfl) (by decide +kernel)
set_option maxRecDepth 40000 in
theorem zcX7_dateFrom : Cond.code yX7_dateFrom cX7_dateFrom 7 (some .int) ∈ zTB := ztb 767 (by rfl) (by decide +kernel)
set_option maxRecDepth 40000 in
theorem ziX7_dateFrom : Cond.instanceMethod yX7_dateFrom ∈ zTB := ztb 765 (by rfl) (by decide +kernel)
set_option maxRecDepth 40000 in
theorem zsX7_dateFrom : Cond.selects yX7_dateFrom.cls yX7_dateFrom yX7_dateFrom ∈ zTB := ztb 766 (by rfl) (by decide +kernel)
set_option maxRecDepth 40000 in
theorem zcX7_dateBehind : Cond.code yX7_dateBehind cX7_dateBehind 5 (some .int) ∈ zTB := ztb 997 (by rfl) (by decide +kernel)
set_option maxRecDepth 40000 in
theorem ziX7_dateBehind : Cond.instanceMethod yX7_dateBehind ∈ zTB := ztb 995 (by rfl) (by decide +kernel)
set_option maxRecDepth 40000 in
theorem zsX7_dateBehind : Cond.selects yX7_dateBehind.cls yX7_dateBehind yX7_dateBehind ∈ zTB := ztb 996 (by rfl) (by decide +kernel)
set_option maxRecDepth 40000 in
theorem zcX8_init : Cond.code yX8_init cX8_init 1 none ∈ zTB := ztb 122 (by rfl) (by decide +kernel)
set_option maxRecDepth 40000 in
theorem ziX8_init : Cond.instanceMethod yX8_init ∈ zTB := ztb 121 (by rfl) (by decide +kernel)
set_option maxRecDepth 40000 in
theorem zcX8_feed : Cond.code yX8_feed cX8_feed 7 (some .int) ∈ zTB := ztb 385 (by rfl) (by decide +kernel)
set_option maxRecDepth 40000 in
theorem ziX8_feed : Cond.instanceMethod yX8_feed ∈ zTB := ztb 383 (by rfl) (by decide +kernel)
set_option maxRecDepth 40000 in
theorem zsX8_feed : Cond.selects yX8_feed.cls yX8_feed yX8_feed ∈ zTB := ztb 384 (by rfl) (by decide +kernel)
set_option maxRecDepth 40000 in
theorem zcX8_end : Cond.code yX8_end cX8_end 2 (some .boolean) ∈ zTB := ztb 396 (by rfl) (by decide +kernel)
set_option maxRecDepth 40000 in
theorem ziX8_end : Cond.instanceMethod yX8_end ∈ zTB := ztb 394 (by rfl) (by decide +kernel)
set_option maxRecDepth 40000 in
theorem zsX8_end : Cond.selects yX8_end.cls yX8_end yX8_end ∈ zTB := ztb 395 (by rfl) (by decide +kernel)
set_option maxRecDepth 40000 in
theorem zcX8_fault : Cond.code yX8_fault cX8_fault 2 (some .int) ∈ zTB := ztb 400 (by rfl) (by decide +kernel)
set_option maxRecDepth 40000 in
theorem ziX8_fault : Cond.instanceMethod yX8_fault ∈ zTB := ztb 398 (by rfl) (by decide +kernel)
set_option maxRecDepth 40000 in
theorem zsX8_fault : Cond.selects yX8_fault.cls yX8_fault yX8_fault ∈ zTB := ztb 399 (by rfl) (by decide +kernel)
set_option maxRecDepth 40000 in
theorem zcX8_text : Cond.code yX8_text cX8_text 2 (some .int) ∈ zTB := ztb 509 (by rfl) (by decide +kernel)
set_option maxRecDepth 40000 in
theorem ziX8_text : Cond.instanceMethod yX8_text ∈ zTB := ztb 507 (by rfl) (by decide +kernel)
set_option maxRecDepth 40000 in
theorem zsX8_text : Cond.selects yX8_text.cls yX8_text yX8_text ∈ zTB := ztb 508 (by rfl) (by decide +kernel)
set_option maxRecDepth 40000 in
theorem zcX8_taboo : Cond.code yX8_taboo cX8_taboo 3 (some .int) ∈ zTB := ztb 1028 (by rfl) (by decide +kernel)
set_option maxRecDepth 40000 in
theorem ziX8_taboo : Cond.instanceMethod yX8_taboo ∈ zTB := ztb 1026 (by rfl) (by decide +kernel)
set_option maxRecDepth 40000 in
theorem zsX8_taboo : Cond.selects yX8_taboo.cls yX8_taboo yX8_taboo ∈ zTB := ztb 1027 (by rfl) (by decide +kernel)
set_option maxRecDepth 40000 in
theorem zcX8_way : Cond.code yX8_way cX8_way 4 (some .int) ∈ zTB := ztb 572 (by rfl) (by decide +kernel)
set_option maxRecDepth 40000 in
theorem ziX8_way : Cond.instanceMethod yX8_way ∈ zTB := ztb 570 (by rfl) (by decide +kernel)
set_option maxRecDepth 40000 in
theorem zsX8_way : Cond.selects yX8_way.cls yX8_way yX8_way ∈ zTB := ztb 571 (by rfl) (by decide +kernel)
set_option maxRecDepth 40000 in
theorem zcX8_custom : Cond.code yX8_custom cX8_custom 3 (some .boolean) ∈ zTB := ztb 580 (by rfl) (by decide +kernel)
set_option maxRecDepth 40000 in
theorem ziX8_custom : Cond.instanceMethod yX8_custom ∈ zTB := ztb 578 (by rfl) (by decide +kernel)
set_option maxRecDepth 40000 in
theorem zsX8_custom : Cond.selects yX8_custom.cls yX8_custom yX8_custom ∈ zTB := ztb 579 (by rfl) (by decide +kernel)
set_option maxRecDepth 40000 in
theorem zcX8_forbidden : Cond.code yX8_forbidden cX8_forbidden 4 (some .int) ∈ zTB := ztb 584 (by rfl) (by decide +kernel)
set_option maxRecDepth 40000 in
theorem ziX8_forbidden : Cond.instanceMethod yX8_forbidden ∈ zTB := ztb 582 (by rfl) (by decide +kernel)
set_option maxRecDepth 40000 in
theorem zsX8_forbidden : Cond.selects yX8_forbidden.cls yX8_forbidden yX8_forbidden ∈ zTB := ztb 583 (by rfl) (by decide +kernel)
set_option maxRecDepth 40000 in
theorem zcX8_hand : Cond.code yX8_hand cX8_hand 2 (some .boolean) ∈ zTB := ztb 631 (by rfl) (by decide +kernel)
set_option maxRecDepth 40000 in
theorem ziX8_hand : Cond.instanceMethod yX8_hand ∈ zTB := ztb 629 (by rfl) (by decide +kernel)
set_option maxRecDepth 40000 in
theorem zsX8_hand : Cond.selects yX8_hand.cls yX8_hand yX8_hand ∈ zTB := ztb 630 (by rfl) (by decide +kernel)
set_option maxRecDepth 40000 in
theorem zcX8_pay : Cond.code yX8_pay cX8_pay 5 (some .int) ∈ zTB := ztb 635 (by rfl) (by decide +kernel)
set_option maxRecDepth 40000 in
theorem ziX8_pay : Cond.instanceMethod yX8_pay ∈ zTB := ztb 633 (by rfl) (by decide +kernel)
set_option maxRecDepth 40000 in
theorem zsX8_pay : Cond.selects yX8_pay.cls yX8_pay yX8_pay ∈ zTB := ztb 634 (by rfl) (by decide +kernel)
set_option maxRecDepth 40000 in
theorem zcX8_ways : Cond.code yX8_ways cX8_ways 5 (some .long) ∈ zTB := ztb 693 (by rfl) (by decide +kernel)
set_option maxRecDepth 40000 in
theorem ziX8_ways : Cond.instanceMethod yX8_ways ∈ zTB := ztb 691 (by rfl) (by decide +kernel)
set_option maxRecDepth 40000 in
theorem zsX8_ways : Cond.selects yX8_ways.cls yX8_ways yX8_ways ∈ zTB := ztb 692 (by rfl) (by decide +kernel)
set_option maxRecDepth 40000 in
theorem zcX8_cant : Cond.code yX8_cant cX8_cant 4 (some .int) ∈ zTB := ztb 709 (by rfl) (by decide +kernel)
set_option maxRecDepth 40000 in
theorem ziX8_cant : Cond.instanceMethod yX8_cant ∈ zTB := ztb 707 (by rfl) (by decide +kernel)
set_option maxRecDepth 40000 in
theorem zsX8_cant : Cond.selects yX8_cant.cls yX8_cant yX8_cant ∈ zTB := ztb 708 (by rfl) (by decide +kernel)
set_option maxRecDepth 40000 in
theorem zcX8_family : Cond.code yX8_family cX8_family 4 (some .int) ∈ zTB := ztb 729 (by rfl) (by decide +kernel)
set_option maxRecDepth 40000 in
theorem ziX8_family : Cond.instanceMethod yX8_family ∈ zTB := ztb 727 (by rfl) (by decide +kernel)
set_option maxRecDepth 40000 in
theorem zsX8_family : Cond.selects yX8_family.cls yX8_family yX8_family ∈ zTB := ztb 728 (by rfl) (by decide +kernel)
set_option maxRecDepth 40000 in
theorem zcX8_splits : Cond.code yX8_splits cX8_splits 3 (some .int) ∈ zTB := ztb 741 (by rfl) (by decide +kernel)
set_option maxRecDepth 40000 in
theorem ziX8_splits : Cond.instanceMethod yX8_splits ∈ zTB := ztb 739 (by rfl) (by decide +kernel)
set_option maxRecDepth 40000 in
theorem zsX8_splits : Cond.selects yX8_splits.cls yX8_splits yX8_splits ∈ zTB := ztb 740 (by rfl) (by decide +kernel)
set_option maxRecDepth 40000 in
theorem zcX8_date : Cond.code yX8_date cX8_date 5 (some .int) ∈ zTB := ztb 754 (by rfl) (by decide +kernel)
set_option maxRecDepth 40000 in
theorem ziX8_date : Cond.instanceMethod yX8_date ∈ zTB := ztb 752 (by rfl) (by decide +kernel)
set_option maxRecDepth 40000 in
theorem zsX8_date : Cond.selects yX8_date.cls yX8_date yX8_date ∈ zTB := ztb 753 (by rfl) (by decide +kernel)
set_option maxRecDepth 40000 in
theorem zcX8_debt : Cond.code yX8_debt cX8_debt 5 (some .int) ∈ zTB := ztb 763 (by rfl) (by decide +kernel)
set_option maxRecDepth 40000 in
theorem ziX8_debt : Cond.instanceMethod yX8_debt ∈ zTB := ztb 761 (by rfl) (by decide +kernel)
set_option maxRecDepth 40000 in
theorem zsX8_debt : Cond.selects yX8_debt.cls yX8_debt yX8_debt ∈ zTB := ztb 762 (by rfl) (by decide +kernel)
set_option maxRecDepth 40000 in
theorem zcX8_bit : Cond.code yX8_bit cX8_bit 5 (some .int) ∈ zTB := ztb 771 (by rfl) (by decide +kernel)
set_option maxRecDepth 40000 in
theorem ziX8_bit : Cond.instanceMethod yX8_bit ∈ zTB := ztb 769 (by rfl) (by decide +kernel)
set_option maxRecDepth 40000 in
theorem zsX8_bit : Cond.selects yX8_bit.cls yX8_bit yX8_bit ∈ zTB := ztb 770 (by rfl) (by decide +kernel)
set_option maxRecDepth 40000 in
theorem zcX8_weight : Cond.code yX8_weight cX8_weight 3 (some .boolean) ∈ zTB := ztb 783 (by rfl) (by decide +kernel)
set_option maxRecDepth 40000 in
theorem ziX8_weight : Cond.instanceMethod yX8_weight ∈ zTB := ztb 781 (by rfl) (by decide +kernel)
set_option maxRecDepth 40000 in
theorem zsX8_weight : Cond.selects yX8_weight.cls yX8_weight yX8_weight ∈ zTB := ztb 782 (by rfl) (by decide +kernel)
set_option maxRecDepth 40000 in
theorem zcX8_likely : Cond.code yX8_likely cX8_likely 7 (some .int) ∈ zTB := ztb 787 (by rfl) (by decide +kernel)
set_option maxRecDepth 40000 in
theorem ziX8_likely : Cond.instanceMethod yX8_likely ∈ zTB := ztb 785 (by rfl) (by decide +kernel)
set_option maxRecDepth 40000 in
theorem zsX8_likely : Cond.selects yX8_likely.cls yX8_likely yX8_likely ∈ zTB := ztb 786 (by rfl) (by decide +kernel)
set_option maxRecDepth 40000 in
theorem zcX8_good : Cond.code yX8_good cX8_good 1 (some .int) ∈ zTB := ztb 796 (by rfl) (by decide +kernel)
set_option maxRecDepth 40000 in
theorem ziX8_good : Cond.instanceMethod yX8_good ∈ zTB := ztb 794 (by rfl) (by decide +kernel)
set_option maxRecDepth 40000 in
theorem zsX8_good : Cond.selects yX8_good.cls yX8_good yX8_good ∈ zTB := ztb 795 (by rfl) (by decide +kernel)
set_option maxRecDepth 40000 in
theorem zcX8_price : Cond.code yX8_price cX8_price 4 (some .boolean) ∈ zTB := ztb 805 (by rfl) (by decide +kernel)
set_option maxRecDepth 40000 in
theorem ziX8_price : Cond.instanceMethod yX8_price ∈ zTB := ztb 803 (by rfl) (by decide +kernel)
set_option maxRecDepth 40000 in
theorem zsX8_price : Cond.selects yX8_price.cls yX8_price yX8_price ∈ zTB := ztb 804 (by rfl) (by decide +kernel)
set_option maxRecDepth 40000 in
theorem zcX8_deal : Cond.code yX8_deal cX8_deal 6 (some .int) ∈ zTB := ztb 813 (by rfl) (by decide +kernel)
set_option maxRecDepth 40000 in
theorem ziX8_deal : Cond.instanceMethod yX8_deal ∈ zTB := ztb 811 (by rfl) (by decide +kernel)
set_option maxRecDepth 40000 in
theorem zsX8_deal : Cond.selects yX8_deal.cls yX8_deal yX8_deal ∈ zTB := ztb 812 (by rfl) (by decide +kernel)
set_option maxRecDepth 40000 in
theorem zcX8_gain : Cond.code yX8_gain cX8_gain 7 (some .int) ∈ zTB := ztb 833 (by rfl) (by decide +kernel)
set_option maxRecDepth 40000 in
theorem ziX8_gain : Cond.instanceMethod yX8_gain ∈ zTB := ztb 831 (by rfl) (by decide +kernel)
set_option maxRecDepth 40000 in
theorem zsX8_gain : Cond.selects yX8_gain.cls yX8_gain yX8_gain ∈ zTB := ztb 832 (by rfl) (by decide +kernel)
set_option maxRecDepth 40000 in
theorem zcX8_today : Cond.code yX8_today cX8_today 2 (some .boolean) ∈ zTB := ztb 885 (by rfl) (by decide +kernel)
set_option maxRecDepth 40000 in
theorem ziX8_today : Cond.instanceMethod yX8_today ∈ zTB := ztb 883 (by rfl) (by decide +kernel)
set_option maxRecDepth 40000 in
theorem zsX8_today : Cond.selects yX8_today.cls yX8_today yX8_today ∈ zTB := ztb 884 (by rfl) (by decide +kernel)
set_option maxRecDepth 40000 in
theorem zcX8_change : Cond.code yX8_change cX8_change 4 (some .int) ∈ zTB := ztb 889 (by rfl) (by decide +kernel)
set_option maxRecDepth 40000 in
theorem ziX8_change : Cond.instanceMethod yX8_change ∈ zTB := ztb 887 (by rfl) (by decide +kernel)
set_option maxRecDepth 40000 in
theorem zsX8_change : Cond.selects yX8_change.cls yX8_change yX8_change ∈ zTB := ztb 888 (by rfl) (by decide +kernel)
set_option maxRecDepth 40000 in
theorem zcX8_drown : Cond.code yX8_drown cX8_drown 6 (some .int) ∈ zTB := ztb 897 (by rfl) (by decide +kernel)
set_option maxRecDepth 40000 in
theorem ziX8_drown : Cond.instanceMethod yX8_drown ∈ zTB := ztb 895 (by rfl) (by decide +kernel)
set_option maxRecDepth 40000 in
theorem zsX8_drown : Cond.selects yX8_drown.cls yX8_drown yX8_drown ∈ zTB := ztb 896 (by rfl) (by decide +kernel)
set_option maxRecDepth 40000 in
theorem zcX8_say : Cond.code yX8_say cX8_say 3 (some .int) ∈ zTB := ztb 913 (by rfl) (by decide +kernel)
set_option maxRecDepth 40000 in
theorem ziX8_say : Cond.instanceMethod yX8_say ∈ zTB := ztb 911 (by rfl) (by decide +kernel)
set_option maxRecDepth 40000 in
theorem zsX8_say : Cond.selects yX8_say.cls yX8_say yX8_say ∈ zTB := ztb 912 (by rfl) (by decide +kernel)
set_option maxRecDepth 40000 in
theorem zcX8_breach : Cond.code yX8_breach cX8_breach 4 (some .int) ∈ zTB := ztb 921 (by rfl) (by decide +kernel)
set_option maxRecDepth 40000 in
theorem ziX8_breach : Cond.instanceMethod yX8_breach ∈ zTB := ztb 919 (by rfl) (by decide +kernel)
set_option maxRecDepth 40000 in
theorem zsX8_breach : Cond.selects yX8_breach.cls yX8_breach yX8_breach ∈ zTB := ztb 920 (by rfl) (by decide +kernel)
set_option maxRecDepth 40000 in
theorem zcX8_fines : Cond.code yX8_fines cX8_fines 2 (some .int) ∈ zTB := ztb 929 (by rfl) (by decide +kernel)
set_option maxRecDepth 40000 in
theorem ziX8_fines : Cond.instanceMethod yX8_fines ∈ zTB := ztb 927 (by rfl) (by decide +kernel)
set_option maxRecDepth 40000 in
theorem zsX8_fines : Cond.selects yX8_fines.cls yX8_fines yX8_fines ∈ zTB := ztb 928 (by rfl) (by decide +kernel)
set_option maxRecDepth 40000 in
theorem zcX8_safe : Cond.code yX8_safe cX8_safe 5 (some .int) ∈ zTB := ztb 938 (by rfl) (by decide +kernel)
set_option maxRecDepth 40000 in
theorem ziX8_safe : Cond.instanceMethod yX8_safe ∈ zTB := ztb 936 (by rfl) (by decide +kernel)
set_option maxRecDepth 40000 in
theorem zsX8_safe : Cond.selects yX8_safe.cls yX8_safe yX8_safe ∈ zTB := ztb 937 (by rfl) (by decide +kernel)
set_option maxRecDepth 40000 in
theorem zcX8_game : Cond.code yX8_game cX8_game 8 (some .int) ∈ zTB := ztb 947 (by rfl) (by decide +kernel)
set_option maxRecDepth 40000 in
theorem ziX8_game : Cond.instanceMethod yX8_game ∈ zTB := ztb 945 (by rfl) (by decide +kernel)
set_option maxRecDepth 40000 in
theorem zsX8_game : Cond.selects yX8_game.cls yX8_game yX8_game ∈ zTB := ztb 946 (by rfl) (by decide +kernel)
set_option maxRecDepth 40000 in
theorem zcX8_spoken : Cond.code yX8_spoken cX8_spoken 3 (some .int) ∈ zTB := ztb 955 (by rfl) (by decide +kernel)
set_option maxRecDepth 40000 in
theorem ziX8_spoken : Cond.instanceMethod yX8_spoken ∈ zTB := ztb 953 (by rfl) (by decide +kernel)
set_option maxRecDepth 40000 in
theorem zsX8_spoken : Cond.selects yX8_spoken.cls yX8_spoken yX8_spoken ∈ zTB := ztb 954 (by rfl) (by decide +kernel)
set_option maxRecDepth 40000 in
theorem zcX8_carried : Cond.code yX8_carried cX8_carried 6 (some .int) ∈ zTB := ztb 964 (by rfl) (by decide +kernel)
set_option maxRecDepth 40000 in
theorem ziX8_carried : Cond.instanceMethod yX8_carried ∈ zTB := ztb 962 (by rfl) (by decide +kernel)
set_option maxRecDepth 40000 in
theorem zsX8_carried : Cond.selects yX8_carried.cls yX8_carried yX8_carried ∈ zTB := ztb 963 (by rfl) (by decide +kernel)
set_option maxRecDepth 40000 in
theorem zcX8_near : Cond.code yX8_near cX8_near 5 (some .int) ∈ zTB := ztb 972 (by rfl) (by decide +kernel)
set_option maxRecDepth 40000 in
theorem ziX8_near : Cond.instanceMethod yX8_near ∈ zTB := ztb 970 (by rfl) (by decide +kernel)
set_option maxRecDepth 40000 in
theorem zsX8_near : Cond.selects yX8_near.cls yX8_near yX8_near ∈ zTB := ztb 971 (by rfl) (by decide +kernel)
set_option maxRecDepth 40000 in
theorem zcX8_joint : Cond.code yX8_joint cX8_joint 5 (some .int) ∈ zTB := ztb 977 (by rfl) (by decide +kernel)
set_option maxRecDepth 40000 in
theorem ziX8_joint : Cond.instanceMethod yX8_joint ∈ zTB := ztb 975 (by rfl) (by decide +kernel)
set_option maxRecDepth 40000 in
theorem zsX8_joint : Cond.selects yX8_joint.cls yX8_joint yX8_joint ∈ zTB := ztb 976 (by rfl) (by decide +kernel)
set_option maxRecDepth 40000 in
theorem zcX8_worst : Cond.code yX8_worst cX8_worst 8 (some .int) ∈ zTB := ztb 985 (by rfl) (by decide +kernel)
set_option maxRecDepth 40000 in
theorem ziX8_worst : Cond.instanceMethod yX8_worst ∈ zTB := ztb 983 (by rfl) (by decide +kernel)
set_option maxRecDepth 40000 in
theorem zsX8_worst : Cond.selects yX8_worst.cls yX8_worst yX8_worst ∈ zTB := ztb 984 (by rfl) (by decide +kernel)
set_option maxRecDepth 40000 in
theorem zcX8_owes : Cond.code yX8_owes cX8_owes 5 (some .int) ∈ zTB := ztb 989 (by rfl) (by decide +kernel)
set_option maxRecDepth 40000 in
theorem ziX8_owes : Cond.instanceMethod yX8_owes ∈ zTB := ztb 987 (by rfl) (by decide +kernel)
set_option maxRecDepth 40000 in
theorem zsX8_owes : Cond.selects yX8_owes.cls yX8_owes yX8_owes ∈ zTB := ztb 988 (by rfl) (by decide +kernel)
set_option maxRecDepth 40000 in
theorem zcX8_calendar : Cond.code yX8_calendar cX8_calendar 5 (some .int) ∈ zTB := ztb 993 (by rfl) (by decide +kernel)
set_option maxRecDepth 40000 in
theorem ziX8_calendar : Cond.instanceMethod yX8_calendar ∈ zTB := ztb 991 (by rfl) (by decide +kernel)
set_option maxRecDepth 40000 in
theorem zsX8_calendar : Cond.selects yX8_calendar.cls yX8_calendar yX8_calendar ∈ zTB := ztb 992 (by rfl) (by decide +kernel)
set_option maxRecDepth 40000 in
theorem zcX8_twins : Cond.code yX8_twins cX8_twins 8 (some .int) ∈ zTB := ztb 1003 (by rfl) (by decide +kernel)
set_option maxRecDepth 40000 in
theorem ziX8_twins : Cond.instanceMethod yX8_twins ∈ zTB := ztb 1001 (by rfl) (by decide +kernel)
set_option maxRecDepth 40000 in
theorem zsX8_twins : Cond.selects yX8_twins.cls yX8_twins yX8_twins ∈ zTB := ztb 1002 (by rfl) (by decide +kernel)
set_option maxRecDepth 40000 in
theorem zcX8_image : Cond.code yX8_image cX8_image 1 (some .int) ∈ zTB := ztb 1007 (by rfl) (by decide +kernel)
set_option maxRecDepth 40000 in
theorem ziX8_image : Cond.instanceMethod yX8_image ∈ zTB := ztb 1005 (by rfl) (by decide +kernel)
set_option maxRecDepth 40000 in
theorem zsX8_image : Cond.selects yX8_image.cls yX8_image yX8_image ∈ zTB := ztb 1006 (by rfl) (by decide +kernel)
set_option maxRecDepth 40000 in
theorem zcX8_back : Cond.code yX8_back cX8_back 1 (some .int) ∈ zTB := ztb 1016 (by rfl) (by decide +kernel)
set_option maxRecDepth 40000 in
theorem ziX8_back : Cond.instanceMethod yX8_back ∈ zTB := ztb 1014 (by rfl) (by decide +kernel)
set_option maxRecDepth 40000 in
theorem zsX8_back : Cond.selects yX8_back.cls yX8_back yX8_back ∈ zTB := ztb 1015 (by rfl) (by decide +kernel)
set_option maxRecDepth 40000 in
theorem zcX8_count : Cond.code yX8_count cX8_count 2 (some .int) ∈ zTB := ztb 1020 (by rfl) (by decide +kernel)
set_option maxRecDepth 40000 in
theorem ziX8_count : Cond.instanceMethod yX8_count ∈ zTB := ztb 1018 (by rfl) (by decide +kernel)
set_option maxRecDepth 40000 in
theorem zsX8_count : Cond.selects yX8_count.cls yX8_count yX8_count ∈ zTB := ztb 1019 (by rfl) (by decide +kernel)
set_option maxRecDepth 40000 in
theorem zcX8_bytesIn : Cond.code yX8_bytesIn cX8_bytesIn 3 (some .int) ∈ zTB := ztb 388 (by rfl) (by decide +kernel)
set_option maxRecDepth 40000 in
theorem ztX8_bytesIn : Cond.static yX8_bytesIn ∈ zTB := ztb 387 (by rfl) (by decide +kernel)
set_option maxRecDepth 40000 in
theorem zcX8_takeIsles : Cond.code yX8_takeIsles cX8_takeIsles 1 (some .int) ∈ zTB := ztb 513 (by rfl) (by decide +kernel)
set_option maxRecDepth 40000 in
theorem ziX8_takeIsles : Cond.instanceMethod yX8_takeIsles ∈ zTB := ztb 512 (by rfl) (by decide +kernel)
set_option maxRecDepth 40000 in
theorem zsX8_takeIsles : Cond.selects yX8_takeIsles.cls yX8_takeIsles yX8_takeIsles ∈ zTB := ztb 16 (by rfl) (by decide +kernel)
set_option maxRecDepth 40000 in
theorem zcX8_takeCustom : Cond.code yX8_takeCustom cX8_takeCustom 1 (some .int) ∈ zTB := ztb 533 (by rfl) (by decide +kernel)
set_option maxRecDepth 40000 in
theorem ziX8_takeCustom : Cond.instanceMethod yX8_takeCustom ∈ zTB := ztb 532 (by rfl) (by decide +kernel)
set_option maxRecDepth 40000 in
theorem zsX8_takeCustom : Cond.selects yX8_takeCustom.cls yX8_takeCustom yX8_takeCustom ∈ zTB := ztb 17 (by rfl) (by decide +kernel)
set_option maxRecDepth 40000 in
theorem zcX8_isDay : Cond.code yX8_isDay cX8_isDay 1 (some .boolean) ∈ zTB := ztb 590 (by rfl) (by decide +kernel)
set_option maxRecDepth 40000 in
theorem ztX8_isDay : Cond.static yX8_isDay ∈ zTB := ztb 589 (by rfl) (by decide +kernel)
set_option maxRecDepth 40000 in
theorem zcX8_isNumber : Cond.code yX8_isNumber cX8_isNumber 1 (some .boolean) ∈ zTB := ztb 587 (by rfl) (by decide +kernel)
set_option maxRecDepth 40000 in
theorem ztX8_isNumber : Cond.static yX8_isNumber ∈ zTB := ztb 586 (by rfl) (by decide +kernel)
set_option maxRecDepth 40000 in
theorem zcX8_isRules : Cond.code yX8_isRules cX8_isRules 1 (some .boolean) ∈ zTB := ztb 642 (by rfl) (by decide +kernel)
set_option maxRecDepth 40000 in
theorem ztX8_isRules : Cond.static yX8_isRules ∈ zTB := ztb 641 (by rfl) (by decide +kernel)
set_option maxRecDepth 40000 in
theorem zcX8_isPayment : Cond.code yX8_isPayment cX8_isPayment 4 (some .boolean) ∈ zTB := ztb 639 (by rfl) (by decide +kernel)
set_option maxRecDepth 40000 in
theorem ziX8_isPayment : Cond.instanceMethod yX8_isPayment ∈ zTB := ztb 638 (by rfl) (by decide +kernel)
set_option maxRecDepth 40000 in
theorem zsX8_isPayment : Cond.selects yX8_isPayment.cls yX8_isPayment yX8_isPayment ∈ zTB := ztb 18 (by rfl) (by decide +kernel)
set_option maxRecDepth 40000 in
theorem zcX8_isFamily : Cond.code yX8_isFamily cX8_isFamily 3 (some .boolean) ∈ zTB := ztb 733 (by rfl) (by decide +kernel)
set_option maxRecDepth 40000 in
theorem ziX8_isFamily : Cond.instanceMethod yX8_isFamily ∈ zTB := ztb 732 (by rfl) (by decide +kernel)
set_option maxRecDepth 40000 in
theorem zsX8_isFamily : Cond.selects yX8_isFamily.cls yX8_isFamily yX8_isFamily ∈ zTB := ztb 27 (by rfl) (by decide +kernel)
set_option maxRecDepth 40000 in
theorem zcX8_isBitBase : Cond.code yX8_isBitBase cX8_isBitBase 3 (some .boolean) ∈ zTB := ztb 775 (by rfl) (by decide +kernel)
set_option maxRecDepth 40000 in
theorem ziX8_isBitBase : Cond.instanceMethod yX8_isBitBase ∈ zTB := ztb 774 (by rfl) (by decide +kernel)
set_option maxRecDepth 40000 in
theorem zsX8_isBitBase : Cond.selects yX8_isBitBase.cls yX8_isBitBase yX8_isBitBase ∈ zTB := ztb 30 (by rfl) (by decide +kernel)
set_option maxRecDepth 40000 in
theorem zcX8_openPurse : Cond.code yX8_openPurse cX8_openPurse 4 none ∈ zTB := ztb 646 (by rfl) (by decide +kernel)
set_option maxRecDepth 40000 in
theorem ziX8_openPurse : Cond.instanceMethod yX8_openPurse ∈ zTB := ztb 645 (by rfl) (by decide +kernel)
set_option maxRecDepth 40000 in
theorem zsX8_openPurse : Cond.selects yX8_openPurse.cls yX8_openPurse yX8_openPurse ∈ zTB := ztb 19 (by rfl) (by decide +kernel)
set_option maxRecDepth 40000 in
theorem zcX8_openFamily : Cond.code yX8_openFamily cX8_openFamily 2 none ∈ zTB := ztb 737 (by rfl) (by decide +kernel)
set_option maxRecDepth 40000 in
theorem ziX8_openFamily : Cond.instanceMethod yX8_openFamily ∈ zTB := ztb 736 (by rfl) (by decide +kernel)
set_option maxRecDepth 40000 in
theorem zsX8_openFamily : Cond.selects yX8_openFamily.cls yX8_openFamily yX8_openFamily ∈ zTB := ztb 28 (by rfl) (by decide +kernel)
set_option maxRecDepth 40000 in
theorem zcX8_forbiddenBehind : Cond.code yX8_forbiddenBehind cX8_forbiddenBehind 5 (some .int) ∈ zTB := ztb 779 (by rfl) (by decide +kernel)
set_option maxRecDepth 40000 in
theorem ziX8_forbiddenBehind : Cond.instanceMethod yX8_forbiddenBehind ∈ zTB := ztb 778 (by rfl) (by decide +kernel)
set_option maxRecDepth 40000 in
theorem zsX8_forbiddenBehind : Cond.selects yX8_forbiddenBehind.cls yX8_forbiddenBehind yX8_forbiddenBehind ∈ zTB := ztb 31 (by rfl) (by decide +kernel)
set_option maxRecDepth 40000 in
theorem zcX8_weightOf : Cond.code yX8_weightOf cX8_weightOf 2 (some .int) ∈ zTB := ztb 791 (by rfl) (by decide +kernel)
set_option maxRecDepth 40000 in
theorem ziX8_weightOf : Cond.instanceMethod yX8_weightOf ∈ zTB := ztb 790 (by rfl) (by decide +kernel)
set_option maxRecDepth 40000 in
theorem zsX8_weightOf : Cond.selects yX8_weightOf.cls yX8_weightOf yX8_weightOf ∈ zTB := ztb 32 (by rfl) (by decide +kernel)
set_option maxRecDepth 40000 in
theorem zcX8_winningMove : Cond.code yX8_winningMove cX8_winningMove 6 (some .int) ∈ zTB := ztb 951 (by rfl) (by decide +kernel)
set_option maxRecDepth 40000 in
theorem ziX8_winningMove : Cond.instanceMethod yX8_winningMove ∈ zTB := ztb 950 (by rfl) (by decide +kernel)
set_option maxRecDepth 40000 in
theorem zsX8_winningMove : Cond.selects yX8_winningMove.cls yX8_winningMove yX8_winningMove ∈ zTB := ztb 42 (by rfl) (by decide +kernel)
set_option maxRecDepth 40000 in
theorem zcX8_splitRow : Cond.code yX8_splitRow cX8_splitRow 5 (some .boolean) ∈ zTB := ztb 968 (by rfl) (by decide +kernel)
set_option maxRecDepth 40000 in
theorem ziX8_splitRow : Cond.instanceMethod yX8_splitRow ∈ zTB := ztb 967 (by rfl) (by decide +kernel)
set_option maxRecDepth 40000 in
theorem zsX8_splitRow : Cond.selects yX8_splitRow.cls yX8_splitRow yX8_splitRow ∈ zTB := ztb 43 (by rfl) (by decide +kernel)
set_option maxRecDepth 40000 in
theorem zcX9_init : Cond.code yX9_init cX9_init 1 none ∈ zTB := ztb 1099 (by rfl) (by decide +kernel)
set_option maxRecDepth 40000 in
theorem ziX9_init : Cond.instanceMethod yX9_init ∈ zTB := ztb 1098 (by rfl) (by decide +kernel)
set_option maxRecDepth 40000 in
theorem zcX9_thrown : Cond.code yX9_thrown cX9_thrown 1 (some .int) ∈ zTB := ztb 1291 (by rfl) (by decide +kernel)
set_option maxRecDepth 40000 in
theorem ziX9_thrown : Cond.instanceMethod yX9_thrown ∈ zTB := ztb 1289 (by rfl) (by decide +kernel)
set_option maxRecDepth 40000 in
theorem zsX9_thrown : Cond.selects yX9_thrown.cls yX9_thrown yX9_thrown ∈ zTB := ztb 1290 (by rfl) (by decide +kernel)
set_option maxRecDepth 40000 in
theorem zcX9_isIn : Cond.code yX9_isIn cX9_isIn 6 (some .boolean) ∈ zTB := ztb 1313 (by rfl) (by decide +kernel)
set_option maxRecDepth 40000 in
theorem ztX9_isIn : Cond.static yX9_isIn ∈ zTB := ztb 1312 (by rfl) (by decide +kernel)
set_option maxRecDepth 40000 in
theorem zcX9_has : Cond.code yX9_has cX9_has 2 (some .boolean) ∈ zTB := ztb 1529 (by rfl) (by decide +kernel)
set_option maxRecDepth 40000 in
theorem ztX9_has : Cond.static yX9_has ∈ zTB := ztb 1528 (by rfl) (by decide +kernel)
set_option maxRecDepth 40000 in
theorem zcX9_isAmong : Cond.code yX9_isAmong cX9_isAmong 3 (some .boolean) ∈ zTB := ztb 1360 (by rfl) (by decide +kernel)
set_option maxRecDepth 40000 in
theorem ztX9_isAmong : Cond.static yX9_isAmong ∈ zTB := ztb 1359 (by rfl) (by decide +kernel)
set_option maxRecDepth 40000 in
theorem zcX9_bytesIn : Cond.code yX9_bytesIn cX9_bytesIn 3 (some .int) ∈ zTB := ztb 1298 (by rfl) (by decide +kernel)
set_option maxRecDepth 40000 in
theorem ztX9_bytesIn : Cond.static yX9_bytesIn ∈ zTB := ztb 1297 (by rfl) (by decide +kernel)
set_option maxRecDepth 40000 in
theorem zcX9_put : Cond.code yX9_put cX9_put 3 none ∈ zTB := ztb 1302 (by rfl) (by decide +kernel)
set_option maxRecDepth 40000 in
theorem ziX9_put : Cond.instanceMethod yX9_put ∈ zTB := ztb 1301 (by rfl) (by decide +kernel)
set_option maxRecDepth 40000 in
theorem zsX9_put : Cond.selects yX9_put.cls yX9_put yX9_put ∈ zTB := ztb 45 (by rfl) (by decide +kernel)
set_option maxRecDepth 40000 in
theorem zcX9_feed : Cond.code yX9_feed cX9_feed 6 (some .int) ∈ zTB := ztb 1295 (by rfl) (by decide +kernel)
set_option maxRecDepth 40000 in
theorem ziX9_feed : Cond.instanceMethod yX9_feed ∈ zTB := ztb 1293 (by rfl) (by decide +kernel)
set_option maxRecDepth 40000 in
theorem zsX9_feed : Cond.selects yX9_feed.cls yX9_feed yX9_feed ∈ zTB := ztb 1294 (by rfl) (by decide +kernel)
set_option maxRecDepth 40000 in
theorem zcX9_end : Cond.code yX9_end cX9_end 2 (some .boolean) ∈ zTB := ztb 1306 (by rfl) (by decide +kernel)
set_option maxRecDepth 40000 in
theorem ziX9_end : Cond.instanceMethod yX9_end ∈ zTB := ztb 1304 (by rfl) (by decide +kernel)
set_option maxRecDepth 40000 in
theorem zsX9_end : Cond.selects yX9_end.cls yX9_end yX9_end ∈ zTB := ztb 1305 (by rfl) (by decide +kernel)
set_option maxRecDepth 40000 in
theorem zcX9_look : Cond.code yX9_look cX9_look 1 (some .int) ∈ zTB := ztb 1329 (by rfl) (by decide +kernel)
set_option maxRecDepth 40000 in
theorem ziX9_look : Cond.instanceMethod yX9_look ∈ zTB := ztb 1328 (by rfl) (by decide +kernel)
set_option maxRecDepth 40000 in
theorem zsX9_look : Cond.selects yX9_look.cls yX9_look yX9_look ∈ zTB := ztb 49 (by rfl) (by decide +kernel)
set_option maxRecDepth 40000 in
theorem zcX9_fails : Cond.code yX9_fails cX9_fails 1 (some .boolean) ∈ zTB := ztb 1337 (by rfl) (by decide +kernel)
set_option maxRecDepth 40000 in
theorem ziX9_fails : Cond.instanceMethod yX9_fails ∈ zTB := ztb 1336 (by rfl) (by decide +kernel)
set_option maxRecDepth 40000 in
theorem zsX9_fails : Cond.selects yX9_fails.cls yX9_fails yX9_fails ∈ zTB := ztb 51 (by rfl) (by decide +kernel)
set_option maxRecDepth 40000 in
theorem zcX9_goesIn : Cond.code yX9_goesIn cX9_goesIn 1 (some .boolean) ∈ zTB := ztb 1440 (by rfl) (by decide +kernel)
set_option maxRecDepth 40000 in
theorem ziX9_goesIn : Cond.instanceMethod yX9_goesIn ∈ zTB := ztb 1439 (by rfl) (by decide +kernel)
set_option maxRecDepth 40000 in
theorem zsX9_goesIn : Cond.selects yX9_goesIn.cls yX9_goesIn yX9_goesIn ∈ zTB := ztb 64 (by rfl) (by decide +kernel)
set_option maxRecDepth 40000 in
theorem zcX9_takes : Cond.code yX9_takes cX9_takes 2 (some .boolean) ∈ zTB := ztb 1412 (by rfl) (by decide +kernel)
set_option maxRecDepth 40000 in
theorem ziX9_takes : Cond.instanceMethod yX9_takes ∈ zTB := ztb 1411 (by rfl) (by decide +kernel)
set_option maxRecDepth 40000 in
theorem zsX9_takes : Cond.selects yX9_takes.cls yX9_takes yX9_takes ∈ zTB := ztb 57 (by rfl) (by decide +kernel)
set_option maxRecDepth 40000 in
theorem zcX9_isDigit : Cond.code yX9_isDigit cX9_isDigit 1 (some .boolean) ∈ zTB := ztb 1333 (by rfl) (by decide +kernel)
set_option maxRecDepth 40000 in
theorem ziX9_isDigit : Cond.instanceMethod yX9_isDigit ∈ zTB := ztb 1332 (by rfl) (by decide +kernel)
set_option maxRecDepth 40000 in
theorem zsX9_isDigit : Cond.selects yX9_isDigit.cls yX9_isDigit yX9_isDigit ∈ zTB := ztb 50 (by rfl) (by decide +kernel)
set_option maxRecDepth 40000 in
theorem zcX9_within : Cond.code yX9_within cX9_within 2 (some .int) ∈ zTB := ztb 1443 (by rfl) (by decide +kernel)
set_option maxRecDepth 40000 in
theorem ztX9_within : Cond.static yX9_within ∈ zTB := ztb 1442 (by rfl) (by decide +kernel)
set_option maxRecDepth 40000 in
theorem zcX9_atom : Cond.code yX9_atom cX9_atom 4 (some .int) ∈ zTB := ztb 1436 (by rfl) (by decide +kernel)
set_option maxRecDepth 40000 in
theorem ziX9_atom : Cond.instanceMethod yX9_atom ∈ zTB := ztb 1435 (by rfl) (by decide +kernel)
set_option maxRecDepth 40000 in
theorem zsX9_atom : Cond.selects yX9_atom.cls yX9_atom yX9_atom ∈ zTB := ztb 63 (by rfl) (by decide +kernel)
set_option maxRecDepth 40000 in
theorem zcX9_term : Cond.code yX9_term cX9_term 5 (some .int) ∈ zTB := ztb 1432 (by rfl) (by decide +kernel)
set_option maxRecDepth 40000 in
theorem ziX9_term : Cond.instanceMethod yX9_term ∈ zTB := ztb 1431 (by rfl) (by decide +kernel)
set_option maxRecDepth 40000 in
theorem zsX9_term : Cond.selects yX9_term.cls yX9_term yX9_term ∈ zTB := ztb 62 (by rfl) (by decide +kernel)
set_option maxRecDepth 40000 in
theorem zcX9_sum : Cond.code yX9_sum cX9_sum 5 (some .int) ∈ zTB := ztb 1428 (by rfl) (by decide +kernel)
set_option maxRecDepth 40000 in
theorem ziX9_sum : Cond.instanceMethod yX9_sum ∈ zTB := ztb 1427 (by rfl) (by decide +kernel)
set_option maxRecDepth 40000 in
theorem zsX9_sum : Cond.selects yX9_sum.cls yX9_sum yX9_sum ∈ zTB := ztb 61 (by rfl) (by decide +kernel)
set_option maxRecDepth 40000 in
theorem zcX9_isSign : Cond.code yX9_isSign cX9_isSign 1 (some .boolean) ∈ zTB := ztb 1454 (by rfl) (by decide +kernel)
set_option maxRecDepth 40000 in
theorem ztX9_isSign : Cond.static yX9_isSign ∈ zTB := ztb 1453 (by rfl) (by decide +kernel)
set_option maxRecDepth 40000 in
theorem zcX9_compares : Cond.code yX9_compares cX9_compares 6 (some .boolean) ∈ zTB := ztb 1424 (by rfl) (by decide +kernel)
set_option maxRecDepth 40000 in
theorem ziX9_compares : Cond.instanceMethod yX9_compares ∈ zTB := ztb 1423 (by rfl) (by decide +kernel)
set_option maxRecDepth 40000 in
theorem zsX9_compares : Cond.selects yX9_compares.cls yX9_compares yX9_compares ∈ zTB := ztb 60 (by rfl) (by decide +kernel)
set_option maxRecDepth 40000 in
theorem zcX9_unit : Cond.code yX9_unit cX9_unit 3 (some .boolean) ∈ zTB := ztb 1458 (by rfl) (by decide +kernel)
set_option maxRecDepth 40000 in
theorem ziX9_unit : Cond.instanceMethod yX9_unit ∈ zTB := ztb 1457 (by rfl) (by decide +kernel)
set_option maxRecDepth 40000 in
theorem zsX9_unit : Cond.selects yX9_unit.cls yX9_unit yX9_unit ∈ zTB := ztb 65 (by rfl) (by decide +kernel)
set_option maxRecDepth 40000 in
theorem zcX9_part : Cond.code yX9_part cX9_part 5 (some .boolean) ∈ zTB := ztb 1420 (by rfl) (by decide +kernel)
set_option maxRecDepth 40000 in
theorem ziX9_part : Cond.instanceMethod yX9_part ∈ zTB := ztb 1419 (by rfl) (by decide +kernel)
set_option maxRecDepth 40000 in
theorem zsX9_part : Cond.selects yX9_part.cls yX9_part yX9_part ∈ zTB := ztb 59 (by rfl) (by decide +kernel)
set_option maxRecDepth 40000 in
theorem zcX9_condition : Cond.code yX9_condition cX9_condition 5 (some .boolean) ∈ zTB := ztb 1416 (by rfl) (by decide +kernel)
set_option maxRecDepth 40000 in
theorem ziX9_condition : Cond.instanceMethod yX9_condition ∈ zTB := ztb 1415 (by rfl) (by decide +kernel)
set_option maxRecDepth 40000 in
theorem zsX9_condition : Cond.selects yX9_condition.cls yX9_condition yX9_condition ∈ zTB := ztb 58 (by rfl) (by decide +kernel)
set_option maxRecDepth 40000 in
theorem zcX9_clause : Cond.code yX9_clause cX9_clause 5 none ∈ zTB := ztb 1357 (by rfl) (by decide +kernel)
set_option maxRecDepth 40000 in
theorem ziX9_clause : Cond.instanceMethod yX9_clause ∈ zTB := ztb 1356 (by rfl) (by decide +kernel)
set_option maxRecDepth 40000 in
theorem zsX9_clause : Cond.selects yX9_clause.cls yX9_clause yX9_clause ∈ zTB := ztb 56 (by rfl) (by decide +kernel)
set_option maxRecDepth 40000 in
theorem zcX9_opens : Cond.code yX9_opens cX9_opens 4 none ∈ zTB := ztb 1321 (by rfl) (by decide +kernel)
set_option maxRecDepth 40000 in
theorem ziX9_opens : Cond.instanceMethod yX9_opens ∈ zTB := ztb 1320 (by rfl) (by decide +kernel)
set_option maxRecDepth 40000 in
theorem zsX9_opens : Cond.selects yX9_opens.cls yX9_opens yX9_opens ∈ zTB := ztb 47 (by rfl) (by decide +kernel)
set_option maxRecDepth 40000 in
theorem zcX9_goThrough : Cond.code yX9_goThrough cX9_goThrough 4 none ∈ zTB := ztb 1353 (by rfl) (by decide +kernel)
set_option maxRecDepth 40000 in
theorem ziX9_goThrough : Cond.instanceMethod yX9_goThrough ∈ zTB := ztb 1352 (by rfl) (by decide +kernel)
set_option maxRecDepth 40000 in
theorem zsX9_goThrough : Cond.selects yX9_goThrough.cls yX9_goThrough yX9_goThrough ∈ zTB := ztb 55 (by rfl) (by decide +kernel)
set_option maxRecDepth 40000 in
theorem zcX9_here : Cond.code yX9_here cX9_here 1 (some .int) ∈ zTB := ztb 1341 (by rfl) (by decide +kernel)
set_option maxRecDepth 40000 in
theorem ziX9_here : Cond.instanceMethod yX9_here ∈ zTB := ztb 1340 (by rfl) (by decide +kernel)
set_option maxRecDepth 40000 in
theorem zsX9_here : Cond.selects yX9_here.cls yX9_here yX9_here ∈ zTB := ztb 52 (by rfl) (by decide +kernel)
set_option maxRecDepth 40000 in
theorem zcX9_twoDigits : Cond.code yX9_twoDigits cX9_twoDigits 3 (some .int) ∈ zTB := ztb 1325 (by rfl) (by decide +kernel)
set_option maxRecDepth 40000 in
theorem ziX9_twoDigits : Cond.instanceMethod yX9_twoDigits ∈ zTB := ztb 1324 (by rfl) (by decide +kernel)
set_option maxRecDepth 40000 in
theorem zsX9_twoDigits : Cond.selects yX9_twoDigits.cls yX9_twoDigits yX9_twoDigits ∈ zTB := ztb 48 (by rfl) (by decide +kernel)
set_option maxRecDepth 40000 in
theorem zcX9_isIsleLetter : Cond.code yX9_isIsleLetter cX9_isIsleLetter 2 (some .boolean) ∈ zTB := ztb 1349 (by rfl) (by decide +kernel)
set_option maxRecDepth 40000 in
theorem ziX9_isIsleLetter : Cond.instanceMethod yX9_isIsleLetter ∈ zTB := ztb 1348 (by rfl) (by decide +kernel)
set_option maxRecDepth 40000 in
theorem zsX9_isIsleLetter : Cond.selects yX9_isIsleLetter.cls yX9_isIsleLetter yX9_isIsleLetter ∈ zTB := ztb 54 (by rfl) (by decide +kernel)
set_option maxRecDepth 40000 in
theorem zcX9_readWay : Cond.code yX9_readWay cX9_readWay 4 none ∈ zTB := ztb 1345 (by rfl) (by decide +kernel)
set_option maxRecDepth 40000 in
theorem ziX9_readWay : Cond.instanceMethod yX9_readWay ∈ zTB := ztb 1344 (by rfl) (by decide +kernel)
set_option maxRecDepth 40000 in
theorem zsX9_readWay : Cond.selects yX9_readWay.cls yX9_readWay yX9_readWay ∈ zTB := ztb 53 (by rfl) (by decide +kernel)
set_option maxRecDepth 40000 in
theorem zcX9_readIsles : Cond.code yX9_readIsles cX9_readIsles 3 none ∈ zTB := ztb 1317 (by rfl) (by decide +kernel)
set_option maxRecDepth 40000 in
theorem ziX9_readIsles : Cond.instanceMethod yX9_readIsles ∈ zTB := ztb 1316 (by rfl) (by decide +kernel)
set_option maxRecDepth 40000 in
theorem zsX9_readIsles : Cond.selects yX9_readIsles.cls yX9_readIsles yX9_readIsles ∈ zTB := ztb 46 (by rfl) (by decide +kernel)
set_option maxRecDepth 40000 in
theorem zcX9_fault : Cond.code yX9_fault cX9_fault 2 (some .int) ∈ zTB := ztb 1310 (by rfl) (by decide +kernel)
set_option maxRecDepth 40000 in
theorem ziX9_fault : Cond.instanceMethod yX9_fault ∈ zTB := ztb 1308 (by rfl) (by decide +kernel)
set_option maxRecDepth 40000 in
theorem zsX9_fault : Cond.selects yX9_fault.cls yX9_fault yX9_fault ∈ zTB := ztb 1309 (by rfl) (by decide +kernel)
set_option maxRecDepth 40000 in
theorem zcX9_text : Cond.code yX9_text cX9_text 4 (some .int) ∈ zTB := ztb 1462 (by rfl) (by decide +kernel)
set_option maxRecDepth 40000 in
theorem ziX9_text : Cond.instanceMethod yX9_text ∈ zTB := ztb 1460 (by rfl) (by decide +kernel)
set_option maxRecDepth 40000 in
theorem zsX9_text : Cond.selects yX9_text.cls yX9_text yX9_text ∈ zTB := ztb 1461 (by rfl) (by decide +kernel)
set_option maxRecDepth 40000 in
theorem zcX9_isIsle : Cond.code yX9_isIsle cX9_isIsle 2 (some .boolean) ∈ zTB := ztb 1471 (by rfl) (by decide +kernel)
set_option maxRecDepth 40000 in
theorem ziX9_isIsle : Cond.instanceMethod yX9_isIsle ∈ zTB := ztb 1470 (by rfl) (by decide +kernel)
set_option maxRecDepth 40000 in
theorem zsX9_isIsle : Cond.selects yX9_isIsle.cls yX9_isIsle yX9_isIsle ∈ zTB := ztb 66 (by rfl) (by decide +kernel)
set_option maxRecDepth 40000 in
theorem zcX9_isDay : Cond.code yX9_isDay cX9_isDay 1 (some .boolean) ∈ zTB := ztb 1474 (by rfl) (by decide +kernel)
set_option maxRecDepth 40000 in
theorem ztX9_isDay : Cond.static yX9_isDay ∈ zTB := ztb 1473 (by rfl) (by decide +kernel)
set_option maxRecDepth 40000 in
theorem zcX9_tabooOn : Cond.code yX9_tabooOn cX9_tabooOn 6 (some .int) ∈ zTB := ztb 1479 (by rfl) (by decide +kernel)
set_option maxRecDepth 40000 in
theorem ziX9_tabooOn : Cond.instanceMethod yX9_tabooOn ∈ zTB := ztb 1478 (by rfl) (by decide +kernel)
set_option maxRecDepth 40000 in
theorem zsX9_tabooOn : Cond.selects yX9_tabooOn.cls yX9_tabooOn yX9_tabooOn ∈ zTB := ztb 67 (by rfl) (by decide +kernel)
set_option maxRecDepth 40000 in
theorem zcX9_taboo : Cond.code yX9_taboo cX9_taboo 3 (some .int) ∈ zTB := ztb 1467 (by rfl) (by decide +kernel)
set_option maxRecDepth 40000 in
theorem ziX9_taboo : Cond.instanceMethod yX9_taboo ∈ zTB := ztb 1465 (by rfl) (by decide +kernel)
set_option maxRecDepth 40000 in
theorem zsX9_taboo : Cond.selects yX9_taboo.cls yX9_taboo yX9_taboo ∈ zTB := ztb 1466 (by rfl) (by decide +kernel)
set_option maxRecDepth 40000 in
theorem zcX9_way : Cond.code yX9_way cX9_way 3 (some .int) ∈ zTB := ztb 1483 (by rfl) (by decide +kernel)
set_option maxRecDepth 40000 in
theorem ziX9_way : Cond.instanceMethod yX9_way ∈ zTB := ztb 1481 (by rfl) (by decide +kernel)
set_option maxRecDepth 40000 in
theorem zsX9_way : Cond.selects yX9_way.cls yX9_way yX9_way ∈ zTB := ztb 1482 (by rfl) (by decide +kernel)
set_option maxRecDepth 40000 in
theorem zcX9_custom : Cond.code yX9_custom cX9_custom 3 (some .boolean) ∈ zTB := ztb 1487 (by rfl) (by decide +kernel)
set_option maxRecDepth 40000 in
theorem ziX9_custom : Cond.instanceMethod yX9_custom ∈ zTB := ztb 1485 (by rfl) (by decide +kernel)
set_option maxRecDepth 40000 in
theorem zsX9_custom : Cond.selects yX9_custom.cls yX9_custom yX9_custom ∈ zTB := ztb 1486 (by rfl) (by decide +kernel)
set_option maxRecDepth 40000 in
theorem zcX9_isForbidden : Cond.code yX9_isForbidden cX9_isForbidden 7 (some .boolean) ∈ zTB := ztb 1496 (by rfl) (by decide +kernel)
set_option maxRecDepth 40000 in
theorem ziX9_isForbidden : Cond.instanceMethod yX9_isForbidden ∈ zTB := ztb 1495 (by rfl) (by decide +kernel)
set_option maxRecDepth 40000 in
theorem zsX9_isForbidden : Cond.selects yX9_isForbidden.cls yX9_isForbidden yX9_isForbidden ∈ zTB := ztb 68 (by rfl) (by decide +kernel)
set_option maxRecDepth 40000 in
theorem zcX9_forbidden : Cond.code yX9_forbidden cX9_forbidden 4 (some .int) ∈ zTB := ztb 1491 (by rfl) (by decide +kernel)
set_option maxRecDepth 40000 in
theorem ziX9_forbidden : Cond.instanceMethod yX9_forbidden ∈ zTB := ztb 1489 (by rfl) (by decide +kernel)
set_option maxRecDepth 40000 in
theorem zsX9_forbidden : Cond.selects yX9_forbidden.cls yX9_forbidden yX9_forbidden ∈ zTB := ztb 1490 (by rfl) (by decide +kernel)
set_option maxRecDepth 40000 in
theorem zcX9_hand : Cond.code yX9_hand cX9_hand 2 (some .boolean) ∈ zTB := ztb 1500 (by rfl) (by decide +kernel)
set_option maxRecDepth 40000 in
theorem ziX9_hand : Cond.instanceMethod yX9_hand ∈ zTB := ztb 1498 (by rfl) (by decide +kernel)
set_option maxRecDepth 40000 in
theorem zsX9_hand : Cond.selects yX9_hand.cls yX9_hand yX9_hand ∈ zTB := ztb 1499 (by rfl) (by decide +kernel)
set_option maxRecDepth 40000 in
theorem zcX9_layBad : Cond.code yX9_layBad cX9_layBad 4 none ∈ zTB := ztb 1514 (by rfl) (by decide +kernel)
set_option maxRecDepth 40000 in
theorem ziX9_layBad : Cond.instanceMethod yX9_layBad ∈ zTB := ztb 1513 (by rfl) (by decide +kernel)
set_option maxRecDepth 40000 in
theorem zsX9_layBad : Cond.selects yX9_layBad.cls yX9_layBad yX9_layBad ∈ zTB := ztb 69 (by rfl) (by decide +kernel)
set_option maxRecDepth 40000 in
theorem zcX9_isPart : Cond.code yX9_isPart cX9_isPart 3 (some .boolean) ∈ zTB := ztb 1526 (by rfl) (by decide +kernel)
set_option maxRecDepth 40000 in
theorem ziX9_isPart : Cond.instanceMethod yX9_isPart ∈ zTB := ztb 1525 (by rfl) (by decide +kernel)
set_option maxRecDepth 40000 in
theorem zsX9_isPart : Cond.selects yX9_isPart.cls yX9_isPart yX9_isPart ∈ zTB := ztb 72 (by rfl) (by decide +kernel)
set_option maxRecDepth 40000 in
theorem zcX9_isTotal : Cond.code yX9_isTotal cX9_isTotal 3 (some .boolean) ∈ zTB := ztb 1533 (by rfl) (by decide +kernel)
set_option maxRecDepth 40000 in
theorem ziX9_isTotal : Cond.instanceMethod yX9_isTotal ∈ zTB := ztb 1532 (by rfl) (by decide +kernel)
set_option maxRecDepth 40000 in
theorem zsX9_isTotal : Cond.selects yX9_isTotal.cls yX9_isTotal yX9_isTotal ∈ zTB := ztb 73 (by rfl) (by decide +kernel)
set_option maxRecDepth 40000 in
theorem zcX9_isCount : Cond.code yX9_isCount cX9_isCount 3 (some .boolean) ∈ zTB := ztb 1537 (by rfl) (by decide +kernel)
set_option maxRecDepth 40000 in
theorem ziX9_isCount : Cond.instanceMethod yX9_isCount ∈ zTB := ztb 1536 (by rfl) (by decide +kernel)
set_option maxRecDepth 40000 in
theorem zsX9_isCount : Cond.selects yX9_isCount.cls yX9_isCount yX9_isCount ∈ zTB := ztb 74 (by rfl) (by decide +kernel)
set_option maxRecDepth 40000 in
theorem zcX9_can : Cond.code yX9_can cX9_can 3 (some .boolean) ∈ zTB := ztb 1522 (by rfl) (by decide +kernel)
set_option maxRecDepth 40000 in
theorem ziX9_can : Cond.instanceMethod yX9_can ∈ zTB := ztb 1521 (by rfl) (by decide +kernel)
set_option maxRecDepth 40000 in
theorem zsX9_can : Cond.selects yX9_can.cls yX9_can yX9_can ∈ zTB := ztb 71 (by rfl) (by decide +kernel)
set_option maxRecDepth 40000 in
theorem zcX9_layComes : Cond.code yX9_layComes cX9_layComes 5 none ∈ zTB := ztb 1552 (by rfl) (by decide +kernel)
set_option maxRecDepth 40000 in
theorem ziX9_layComes : Cond.instanceMethod yX9_layComes ∈ zTB := ztb 1551 (by rfl) (by decide +kernel)
set_option maxRecDepth 40000 in
theorem zsX9_layComes : Cond.selects yX9_layComes.cls yX9_layComes yX9_layComes ∈ zTB := ztb 75 (by rfl) (by decide +kernel)
set_option maxRecDepth 40000 in
theorem zcX9_layGoes : Cond.code yX9_layGoes cX9_layGoes 6 none ∈ zTB := ztb 1518 (by rfl) (by decide +kernel)
set_option maxRecDepth 40000 in
theorem ziX9_layGoes : Cond.instanceMethod yX9_layGoes ∈ zTB := ztb 1517 (by rfl) (by decide +kernel)
set_option maxRecDepth 40000 in
theorem zsX9_layGoes : Cond.selects yX9_layGoes.cls yX9_layGoes yX9_layGoes ∈ zTB := ztb 70 (by rfl) (by decide +kernel)
set_option maxRecDepth 40000 in
theorem zcX9_areRules : Cond.code yX9_areRules cX9_areRules 1 (some .boolean) ∈ zTB := ztb 1509 (by rfl) (by decide +kernel)
set_option maxRecDepth 40000 in
theorem ztX9_areRules : Cond.static yX9_areRules ∈ zTB := ztb 1508 (by rfl) (by decide +kernel)
set_option maxRecDepth 40000 in
theorem zcX9_pay : Cond.code yX9_pay cX9_pay 9 (some .int) ∈ zTB := ztb 1505 (by rfl) (by decide +kernel)
set_option maxRecDepth 40000 in
theorem ziX9_pay : Cond.instanceMethod yX9_pay ∈ zTB := ztb 1503 (by rfl) (by decide +kernel)
set_option maxRecDepth 40000 in
theorem zsX9_pay : Cond.selects yX9_pay.cls yX9_pay yX9_pay ∈ zTB := ztb 1504 (by rfl) (by decide +kernel)
set_option maxRecDepth 40000 in
theorem zcX9_ways : Cond.code yX9_ways cX9_ways 8 (some .long) ∈ zTB := ztb 1542 (by rfl) (by decide +kernel)
set_option maxRecDepth 40000 in
theorem ziX9_ways : Cond.instanceMethod yX9_ways ∈ zTB := ztb 1540 (by rfl) (by decide +kernel)
set_option maxRecDepth 40000 in
theorem zsX9_ways : Cond.selects yX9_ways.cls yX9_ways yX9_ways ∈ zTB := ztb 1541 (by rfl) (by decide +kernel)
set_option maxRecDepth 40000 in
theorem zcX9_isPaid : Cond.code yX9_isPaid cX9_isPaid 4 (some .boolean) ∈ zTB := ztb 1556 (by rfl) (by decide +kernel)
set_option maxRecDepth 40000 in
theorem ziX9_isPaid : Cond.instanceMethod yX9_isPaid ∈ zTB := ztb 1555 (by rfl) (by decide +kernel)
set_option maxRecDepth 40000 in
theorem zsX9_isPaid : Cond.selects yX9_isPaid.cls yX9_isPaid yX9_isPaid ∈ zTB := ztb 76 (by rfl) (by decide +kernel)
set_option maxRecDepth 40000 in
theorem zcX9_cant : Cond.code yX9_cant cX9_cant 6 (some .int) ∈ zTB := ztb 1548 (by rfl) (by decide +kernel)
set_option maxRecDepth 40000 in
theorem ziX9_cant : Cond.instanceMethod yX9_cant ∈ zTB := ztb 1546 (by rfl) (by decide +kernel)
set_option maxRecDepth 40000 in
theorem zsX9_cant : Cond.selects yX9_cant.cls yX9_cant yX9_cant ∈ zTB := ztb 1547 (by rfl) (by decide +kernel)
set_option maxRecDepth 40000 in
theorem zcX9_lands : Cond.code yX9_lands cX9_lands 5 (some .boolean) ∈ zTB := ztb 1565 (by rfl) (by decide +kernel)
set_option maxRecDepth 40000 in
theorem ziX9_lands : Cond.instanceMethod yX9_lands ∈ zTB := ztb 1564 (by rfl) (by decide +kernel)
set_option maxRecDepth 40000 in
theorem zsX9_lands : Cond.selects yX9_lands.cls yX9_lands yX9_lands ∈ zTB := ztb 77 (by rfl) (by decide +kernel)
set_option maxRecDepth 40000 in
theorem zcX9_family : Cond.code yX9_family cX9_family 8 (some .int) ∈ zTB := ztb 1560 (by rfl) (by decide +kernel)
set_option maxRecDepth 40000 in
theorem ziX9_family : Cond.instanceMethod yX9_family ∈ zTB := ztb 1558 (by rfl) (by decide +kernel)
set_option maxRecDepth 40000 in
theorem zsX9_family : Cond.selects yX9_family.cls yX9_family yX9_family ∈ zTB := ztb 1559 (by rfl) (by decide +kernel)
set_option maxRecDepth 40000 in
theorem zcX9_splitsOf : Cond.code yX9_splitsOf cX9_splitsOf 6 (some .int) ∈ zTB := ztb 1573 (by rfl) (by decide +kernel)
set_option maxRecDepth 40000 in
theorem ziX9_splitsOf : Cond.instanceMethod yX9_splitsOf ∈ zTB := ztb 1572 (by rfl) (by decide +kernel)
set_option maxRecDepth 40000 in
theorem zsX9_splitsOf : Cond.selects yX9_splitsOf.cls yX9_splitsOf yX9_splitsOf ∈ zTB := ztb 78 (by rfl) (by decide +kernel)
set_option maxRecDepth 40000 in
theorem zcX9_splits : Cond.code yX9_splits cX9_splits 3 (some .int) ∈ zTB := ztb 1569 (by rfl) (by decide +kernel)
set_option maxRecDepth 40000 in
theorem ziX9_splits : Cond.instanceMethod yX9_splits ∈ zTB := ztb 1567 (by rfl) (by decide +kernel)
set_option maxRecDepth 40000 in
theorem zsX9_splits : Cond.selects yX9_splits.cls yX9_splits yX9_splits ∈ zTB := ztb 1568 (by rfl) (by decide +kernel)
set_option maxRecDepth 40000 in
theorem zcX9_date : Cond.code yX9_date cX9_date 5 (some .int) ∈ zTB := ztb 1577 (by rfl) (by decide +kernel)
set_option maxRecDepth 40000 in
theorem ziX9_date : Cond.instanceMethod yX9_date ∈ zTB := ztb 1575 (by rfl) (by decide +kernel)
set_option maxRecDepth 40000 in
theorem zsX9_date : Cond.selects yX9_date.cls yX9_date yX9_date ∈ zTB := ztb 1576 (by rfl) (by decide +kernel)
set_option maxRecDepth 40000 in
theorem zcX9_debt : Cond.code yX9_debt cX9_debt 6 (some .int) ∈ zTB := ztb 1581 (by rfl) (by decide +kernel)
set_option maxRecDepth 40000 in
theorem ziX9_debt : Cond.instanceMethod yX9_debt ∈ zTB := ztb 1579 (by rfl) (by decide +kernel)
set_option maxRecDepth 40000 in
theorem zsX9_debt : Cond.selects yX9_debt.cls yX9_debt yX9_debt ∈ zTB := ztb 1580 (by rfl) (by decide +kernel)
set_option maxRecDepth 40000 in
theorem zcX9_bitsOf : Cond.code yX9_bitsOf cX9_bitsOf 4 (some .int) ∈ zTB := ztb 1593 (by rfl) (by decide +kernel)
set_option maxRecDepth 40000 in
theorem ziX9_bitsOf : Cond.instanceMethod yX9_bitsOf ∈ zTB := ztb 1592 (by rfl) (by decide +kernel)
set_option maxRecDepth 40000 in
theorem zsX9_bitsOf : Cond.selects yX9_bitsOf.cls yX9_bitsOf yX9_bitsOf ∈ zTB := ztb 80 (by rfl) (by decide +kernel)
set_option maxRecDepth 40000 in
theorem zcX9_isBit : Cond.code yX9_isBit cX9_isBit 3 (some .boolean) ∈ zTB := ztb 1589 (by rfl) (by decide +kernel)
set_option maxRecDepth 40000 in
theorem ziX9_isBit : Cond.instanceMethod yX9_isBit ∈ zTB := ztb 1588 (by rfl) (by decide +kernel)
set_option maxRecDepth 40000 in
theorem zsX9_isBit : Cond.selects yX9_isBit.cls yX9_isBit yX9_isBit ∈ zTB := ztb 79 (by rfl) (by decide +kernel)
set_option maxRecDepth 40000 in
theorem zcX9_bit : Cond.code yX9_bit cX9_bit 5 (some .int) ∈ zTB := ztb 1585 (by rfl) (by decide +kernel)
set_option maxRecDepth 40000 in
theorem ziX9_bit : Cond.instanceMethod yX9_bit ∈ zTB := ztb 1583 (by rfl) (by decide +kernel)
set_option maxRecDepth 40000 in
theorem zsX9_bit : Cond.selects yX9_bit.cls yX9_bit yX9_bit ∈ zTB := ztb 1584 (by rfl) (by decide +kernel)
set_option maxRecDepth 40000 in
theorem zcX9_weightOf : Cond.code yX9_weightOf cX9_weightOf 2 (some .int) ∈ zTB := ztb 1605 (by rfl) (by decide +kernel)
set_option maxRecDepth 40000 in
theorem ziX9_weightOf : Cond.instanceMethod yX9_weightOf ∈ zTB := ztb 1604 (by rfl) (by decide +kernel)
set_option maxRecDepth 40000 in
theorem zsX9_weightOf : Cond.selects yX9_weightOf.cls yX9_weightOf yX9_weightOf ∈ zTB := ztb 81 (by rfl) (by decide +kernel)
set_option maxRecDepth 40000 in
theorem zcX9_weight : Cond.code yX9_weight cX9_weight 3 (some .boolean) ∈ zTB := ztb 1597 (by rfl) (by decide +kernel)
set_option maxRecDepth 40000 in
theorem ziX9_weight : Cond.instanceMethod yX9_weight ∈ zTB := ztb 1595 (by rfl) (by decide +kernel)
set_option maxRecDepth 40000 in
theorem zsX9_weight : Cond.selects yX9_weight.cls yX9_weight yX9_weight ∈ zTB := ztb 1596 (by rfl) (by decide +kernel)
set_option maxRecDepth 40000 in
theorem zcX9_likely : Cond.code yX9_likely cX9_likely 8 (some .int) ∈ zTB := ztb 1601 (by rfl) (by decide +kernel)
set_option maxRecDepth 40000 in
theorem ziX9_likely : Cond.instanceMethod yX9_likely ∈ zTB := ztb 1599 (by rfl) (by decide +kernel)
set_option maxRecDepth 40000 in
theorem zsX9_likely : Cond.selects yX9_likely.cls yX9_likely yX9_likely ∈ zTB := ztb 1600 (by rfl) (by decide +kernel)
set_option maxRecDepth 40000 in
theorem zcX9_good : Cond.code yX9_good cX9_good 2 (some .int) ∈ zTB := ztb 1609 (by rfl) (by decide +kernel)
set_option maxRecDepth 40000 in
theorem ziX9_good : Cond.instanceMethod yX9_good ∈ zTB := ztb 1607 (by rfl) (by decide +kernel)
set_option maxRecDepth 40000 in
theorem zsX9_good : Cond.selects yX9_good.cls yX9_good yX9_good ∈ zTB := ztb 1608 (by rfl) (by decide +kernel)
set_option maxRecDepth 40000 in
theorem zcX9_isGood : Cond.code yX9_isGood cX9_isGood 2 (some .boolean) ∈ zTB := ztb 1617 (by rfl) (by decide +kernel)
set_option maxRecDepth 40000 in
theorem ziX9_isGood : Cond.instanceMethod yX9_isGood ∈ zTB := ztb 1616 (by rfl) (by decide +kernel)
set_option maxRecDepth 40000 in
theorem zsX9_isGood : Cond.selects yX9_isGood.cls yX9_isGood yX9_isGood ∈ zTB := ztb 82 (by rfl) (by decide +kernel)
set_option maxRecDepth 40000 in
theorem zcX9_price : Cond.code yX9_price cX9_price 4 (some .boolean) ∈ zTB := ztb 1613 (by rfl) (by decide +kernel)
set_option maxRecDepth 40000 in
theorem ziX9_price : Cond.instanceMethod yX9_price ∈ zTB := ztb 1611 (by rfl) (by decide +kernel)
set_option maxRecDepth 40000 in
theorem zsX9_price : Cond.selects yX9_price.cls yX9_price yX9_price ∈ zTB := ztb 1612 (by rfl) (by decide +kernel)
set_option maxRecDepth 40000 in
theorem zcX9_mayDeal : Cond.code yX9_mayDeal cX9_mayDeal 6 (some .boolean) ∈ zTB := ztb 1630 (by rfl) (by decide +kernel)
set_option maxRecDepth 40000 in
theorem ziX9_mayDeal : Cond.instanceMethod yX9_mayDeal ∈ zTB := ztb 1629 (by rfl) (by decide +kernel)
set_option maxRecDepth 40000 in
theorem zsX9_mayDeal : Cond.selects yX9_mayDeal.cls yX9_mayDeal yX9_mayDeal ∈ zTB := ztb 84 (by rfl) (by decide +kernel)
set_option maxRecDepth 40000 in
theorem zcX9_forgetPaid : Cond.code yX9_forgetPaid cX9_forgetPaid 2 none ∈ zTB := ztb 1625 (by rfl) (by decide +kernel)
set_option maxRecDepth 40000 in
theorem ziX9_forgetPaid : Cond.instanceMethod yX9_forgetPaid ∈ zTB := ztb 1624 (by rfl) (by decide +kernel)
set_option maxRecDepth 40000 in
theorem zsX9_forgetPaid : Cond.selects yX9_forgetPaid.cls yX9_forgetPaid yX9_forgetPaid ∈ zTB := ztb 83 (by rfl) (by decide +kernel)
set_option maxRecDepth 40000 in
theorem zcX9_layPaid : Cond.code yX9_layPaid cX9_layPaid 5 none ∈ zTB := ztb 1634 (by rfl) (by decide +kernel)
set_option maxRecDepth 40000 in
theorem ziX9_layPaid : Cond.instanceMethod yX9_layPaid ∈ zTB := ztb 1633 (by rfl) (by decide +kernel)
set_option maxRecDepth 40000 in
theorem zsX9_layPaid : Cond.selects yX9_layPaid.cls yX9_layPaid yX9_layPaid ∈ zTB := ztb 85 (by rfl) (by decide +kernel)
set_option maxRecDepth 40000 in
theorem zcX9_deal : Cond.code yX9_deal cX9_deal 5 (some .int) ∈ zTB := ztb 1621 (by rfl) (by decide +kernel)
set_option maxRecDepth 40000 in
theorem ziX9_deal : Cond.instanceMethod yX9_deal ∈ zTB := ztb 1619 (by rfl) (by decide +kernel)
set_option maxRecDepth 40000 in
theorem zsX9_deal : Cond.selects yX9_deal.cls yX9_deal yX9_deal ∈ zTB := ztb 1620 (by rfl) (by decide +kernel)
set_option maxRecDepth 40000 in
theorem zcX9_isDeal : Cond.code yX9_isDeal cX9_isDeal 6 (some .boolean) ∈ zTB := ztb 1648 (by rfl) (by decide +kernel)
set_option maxRecDepth 40000 in
theorem ziX9_isDeal : Cond.instanceMethod yX9_isDeal ∈ zTB := ztb 1647 (by rfl) (by decide +kernel)
set_option maxRecDepth 40000 in
theorem zsX9_isDeal : Cond.selects yX9_isDeal.cls yX9_isDeal yX9_isDeal ∈ zTB := ztb 87 (by rfl) (by decide +kernel)
set_option maxRecDepth 40000 in
theorem zcX9_goLeg : Cond.code yX9_goLeg cX9_goLeg 13 none ∈ zTB := ztb 1644 (by rfl) (by decide +kernel)
set_option maxRecDepth 40000 in
theorem ziX9_goLeg : Cond.instanceMethod yX9_goLeg ∈ zTB := ztb 1643 (by rfl) (by decide +kernel)
set_option maxRecDepth 40000 in
theorem zsX9_goLeg : Cond.selects yX9_goLeg.cls yX9_goLeg yX9_goLeg ∈ zTB := ztb 86 (by rfl) (by decide +kernel)
set_option maxRecDepth 40000 in
theorem zcX9_goOff : Cond.code yX9_goOff cX9_goOff 12 none ∈ zTB := ztb 1652 (by rfl) (by decide +kernel)
set_option maxRecDepth 40000 in
theorem ziX9_goOff : Cond.instanceMethod yX9_goOff ∈ zTB := ztb 1651 (by rfl) (by decide +kernel)
set_option maxRecDepth 40000 in
theorem zsX9_goOff : Cond.selects yX9_goOff.cls yX9_goOff yX9_goOff ∈ zTB := ztb 88 (by rfl) (by decide +kernel)
set_option maxRecDepth 40000 in
theorem zcX9_gain : Cond.code yX9_gain cX9_gain 7 (some .int) ∈ zTB := ztb 1638 (by rfl) (by decide +kernel)
set_option maxRecDepth 40000 in
theorem ziX9_gain : Cond.instanceMethod yX9_gain ∈ zTB := ztb 1636 (by rfl) (by decide +kernel)
set_option maxRecDepth 40000 in
theorem zsX9_gain : Cond.selects yX9_gain.cls yX9_gain yX9_gain ∈ zTB := ztb 1637 (by rfl) (by decide +kernel)
set_option maxRecDepth 40000 in
theorem zcX9_today : Cond.code yX9_today cX9_today 2 (some .boolean) ∈ zTB := ztb 1656 (by rfl) (by decide +kernel)
set_option maxRecDepth 40000 in
theorem ziX9_today : Cond.instanceMethod yX9_today ∈ zTB := ztb 1654 (by rfl) (by decide +kernel)
set_option maxRecDepth 40000 in
theorem zsX9_today : Cond.selects yX9_today.cls yX9_today yX9_today ∈ zTB := ztb 1655 (by rfl) (by decide +kernel)
set_option maxRecDepth 40000 in
theorem zcX9_changesTo : Cond.code yX9_changesTo cX9_changesTo 4 none ∈ zTB := ztb 1664 (by rfl) (by decide +kernel)
set_option maxRecDepth 40000 in
theorem ziX9_changesTo : Cond.instanceMethod yX9_changesTo ∈ zTB := ztb 1663 (by rfl) (by decide +kernel)
set_option maxRecDepth 40000 in
theorem zsX9_changesTo : Cond.selects yX9_changesTo.cls yX9_changesTo yX9_changesTo ∈ zTB := ztb 89 (by rfl) (by decide +kernel)
set_option maxRecDepth 40000 in
theorem zcX9_change : Cond.code yX9_change cX9_change 4 (some .int) ∈ zTB := ztb 1660 (by rfl) (by decide +kernel)
set_option maxRecDepth 40000 in
theorem ziX9_change : Cond.instanceMethod yX9_change ∈ zTB := ztb 1658 (by rfl) (by decide +kernel)
set_option maxRecDepth 40000 in
theorem zsX9_change : Cond.selects yX9_change.cls yX9_change yX9_change ∈ zTB := ztb 1659 (by rfl) (by decide +kernel)
set_option maxRecDepth 40000 in
theorem zcX9_draw : Cond.code yX9_draw cX9_draw 2 (some .int) ∈ zTB := ztb 1673 (by rfl) (by decide +kernel)
set_option maxRecDepth 40000 in
theorem ziX9_draw : Cond.instanceMethod yX9_draw ∈ zTB := ztb 1672 (by rfl) (by decide +kernel)
set_option maxRecDepth 40000 in
theorem zsX9_draw : Cond.selects yX9_draw.cls yX9_draw yX9_draw ∈ zTB := ztb 90 (by rfl) (by decide +kernel)
set_option maxRecDepth 40000 in
theorem zcX9_drown : Cond.code yX9_drown cX9_drown 8 (some .int) ∈ zTB := ztb 1668 (by rfl) (by decide +kernel)
set_option maxRecDepth 40000 in
theorem ziX9_drown : Cond.instanceMethod yX9_drown ∈ zTB := ztb 1666 (by rfl) (by decide +kernel)
set_option maxRecDepth 40000 in
theorem zsX9_drown : Cond.selects yX9_drown.cls yX9_drown yX9_drown ∈ zTB := ztb 1667 (by rfl) (by decide +kernel)
set_option maxRecDepth 40000 in
theorem zcX9_say : Cond.code yX9_say cX9_say 3 (some .int) ∈ zTB := ztb 1679 (by rfl) (by decide +kernel)
set_option maxRecDepth 40000 in
theorem ziX9_say : Cond.instanceMethod yX9_say ∈ zTB := ztb 1677 (by rfl) (by decide +kernel)
set_option maxRecDepth 40000 in
theorem zsX9_say : Cond.selects yX9_say.cls yX9_say yX9_say ∈ zTB := ztb 1678 (by rfl) (by decide +kernel)
set_option maxRecDepth 40000 in
theorem zcX9_isBreach : Cond.code yX9_isBreach cX9_isBreach 2 (some .boolean) ∈ zTB := ztb 1687 (by rfl) (by decide +kernel)
set_option maxRecDepth 40000 in
theorem ziX9_isBreach : Cond.instanceMethod yX9_isBreach ∈ zTB := ztb 1686 (by rfl) (by decide +kernel)
set_option maxRecDepth 40000 in
theorem zsX9_isBreach : Cond.selects yX9_isBreach.cls yX9_isBreach yX9_isBreach ∈ zTB := ztb 91 (by rfl) (by decide +kernel)
set_option maxRecDepth 40000 in
theorem zcX9_breach : Cond.code yX9_breach cX9_breach 4 (some .int) ∈ zTB := ztb 1683 (by rfl) (by decide +kernel)
set_option maxRecDepth 40000 in
theorem ziX9_breach : Cond.instanceMethod yX9_breach ∈ zTB := ztb 1681 (by rfl) (by decide +kernel)
set_option maxRecDepth 40000 in
theorem zsX9_breach : Cond.selects yX9_breach.cls yX9_breach yX9_breach ∈ zTB := ztb 1682 (by rfl) (by decide +kernel)
set_option maxRecDepth 40000 in
theorem zcX9_fines : Cond.code yX9_fines cX9_fines 2 (some .int) ∈ zTB := ztb 1691 (by rfl) (by decide +kernel)
set_option maxRecDepth 40000 in
theorem ziX9_fines : Cond.instanceMethod yX9_fines ∈ zTB := ztb 1689 (by rfl) (by decide +kernel)
set_option maxRecDepth 40000 in
theorem zsX9_fines : Cond.selects yX9_fines.cls yX9_fines yX9_fines ∈ zTB := ztb 1690 (by rfl) (by decide +kernel)
set_option maxRecDepth 40000 in
theorem zcX9_safe : Cond.code yX9_safe cX9_safe 6 (some .int) ∈ zTB := ztb 1699 (by rfl) (by decide +kernel)
set_option maxRecDepth 40000 in
theorem ziX9_safe : Cond.instanceMethod yX9_safe ∈ zTB := ztb 1697 (by rfl) (by decide +kernel)
set_option maxRecDepth 40000 in
theorem zsX9_safe : Cond.selects yX9_safe.cls yX9_safe yX9_safe ∈ zTB := ztb 1698 (by rfl) (by decide +kernel)
set_option maxRecDepth 40000 in
theorem zcX9_game : Cond.code yX9_game cX9_game 9 (some .int) ∈ zTB := ztb 1703 (by rfl) (by decide +kernel)
set_option maxRecDepth 40000 in
theorem ziX9_game : Cond.instanceMethod yX9_game ∈ zTB := ztb 1701 (by rfl) (by decide +kernel)
set_option maxRecDepth 40000 in
theorem zsX9_game : Cond.selects yX9_game.cls yX9_game yX9_game ∈ zTB := ztb 1702 (by rfl) (by decide +kernel)
set_option maxRecDepth 40000 in
theorem zcX9_spokenAs : Cond.code yX9_spokenAs cX9_spokenAs 4 (some .int) ∈ zTB := ztb 1712 (by rfl) (by decide +kernel)
set_option maxRecDepth 40000 in
theorem ziX9_spokenAs : Cond.instanceMethod yX9_spokenAs ∈ zTB := ztb 1711 (by rfl) (by decide +kernel)
set_option maxRecDepth 40000 in
theorem zsX9_spokenAs : Cond.selects yX9_spokenAs.cls yX9_spokenAs yX9_spokenAs ∈ zTB := ztb 93 (by rfl) (by decide +kernel)
set_option maxRecDepth 40000 in
theorem zcX9_spoken : Cond.code yX9_spoken cX9_spoken 3 (some .int) ∈ zTB := ztb 1708 (by rfl) (by decide +kernel)
set_option maxRecDepth 40000 in
theorem ziX9_spoken : Cond.instanceMethod yX9_spoken ∈ zTB := ztb 1706 (by rfl) (by decide +kernel)
set_option maxRecDepth 40000 in
theorem zsX9_spoken : Cond.selects yX9_spoken.cls yX9_spoken yX9_spoken ∈ zTB := ztb 1707 (by rfl) (by decide +kernel)
set_option maxRecDepth 40000 in
theorem zcX9_carried : Cond.code yX9_carried cX9_carried 7 (some .int) ∈ zTB := ztb 1716 (by rfl) (by decide +kernel)
set_option maxRecDepth 40000 in
theorem ziX9_carried : Cond.instanceMethod yX9_carried ∈ zTB := ztb 1714 (by rfl) (by decide +kernel)
set_option maxRecDepth 40000 in
theorem zsX9_carried : Cond.selects yX9_carried.cls yX9_carried yX9_carried ∈ zTB := ztb 1715 (by rfl) (by decide +kernel)
set_option maxRecDepth 40000 in
theorem zcX9_near : Cond.code yX9_near cX9_near 5 (some .int) ∈ zTB := ztb 1720 (by rfl) (by decide +kernel)
set_option maxRecDepth 40000 in
theorem ziX9_near : Cond.instanceMethod yX9_near ∈ zTB := ztb 1718 (by rfl) (by decide +kernel)
set_option maxRecDepth 40000 in
theorem zsX9_near : Cond.selects yX9_near.cls yX9_near yX9_near ∈ zTB := ztb 1719 (by rfl) (by decide +kernel)
set_option maxRecDepth 40000 in
theorem zcX9_joint : Cond.code yX9_joint cX9_joint 6 (some .int) ∈ zTB := ztb 1724 (by rfl) (by decide +kernel)
set_option maxRecDepth 40000 in
theorem ziX9_joint : Cond.instanceMethod yX9_joint ∈ zTB := ztb 1722 (by rfl) (by decide +kernel)
set_option maxRecDepth 40000 in
theorem zsX9_joint : Cond.selects yX9_joint.cls yX9_joint yX9_joint ∈ zTB := ztb 1723 (by rfl) (by decide +kernel)
set_option maxRecDepth 40000 in
theorem zcX9_cantBe : Cond.code yX9_cantBe cX9_cantBe 5 (some .int) ∈ zTB := ztb 1732 (by rfl) (by decide +kernel)
set_option maxRecDepth 40000 in
theorem ziX9_cantBe : Cond.instanceMethod yX9_cantBe ∈ zTB := ztb 1731 (by rfl) (by decide +kernel)
set_option maxRecDepth 40000 in
theorem zsX9_cantBe : Cond.selects yX9_cantBe.cls yX9_cantBe yX9_cantBe ∈ zTB := ztb 94 (by rfl) (by decide +kernel)
set_option maxRecDepth 40000 in
theorem zcX9_worst : Cond.code yX9_worst cX9_worst 8 (some .int) ∈ zTB := ztb 1728 (by rfl) (by decide +kernel)
set_option maxRecDepth 40000 in
theorem ziX9_worst : Cond.instanceMethod yX9_worst ∈ zTB := ztb 1726 (by rfl) (by decide +kernel)
set_option maxRecDepth 40000 in
theorem zsX9_worst : Cond.selects yX9_worst.cls yX9_worst yX9_worst ∈ zTB := ztb 1727 (by rfl) (by decide +kernel)
set_option maxRecDepth 40000 in
theorem zcX9_finesOf : Cond.code yX9_finesOf cX9_finesOf 4 (some .int) ∈ zTB := ztb 1695 (by rfl) (by decide +kernel)
set_option maxRecDepth 40000 in
theorem ziX9_finesOf : Cond.instanceMethod yX9_finesOf ∈ zTB := ztb 1694 (by rfl) (by decide +kernel)
set_option maxRecDepth 40000 in
theorem zsX9_finesOf : Cond.selects yX9_finesOf.cls yX9_finesOf yX9_finesOf ∈ zTB := ztb 92 (by rfl) (by decide +kernel)
set_option maxRecDepth 40000 in
theorem zcX9_owes : Cond.code yX9_owes cX9_owes 3 (some .int) ∈ zTB := ztb 1736 (by rfl) (by decide +kernel)
set_option maxRecDepth 40000 in
theorem ziX9_owes : Cond.instanceMethod yX9_owes ∈ zTB := ztb 1734 (by rfl) (by decide +kernel)
set_option maxRecDepth 40000 in
theorem zsX9_owes : Cond.selects yX9_owes.cls yX9_owes yX9_owes ∈ zTB := ztb 1735 (by rfl) (by decide +kernel)
set_option maxRecDepth 40000 in
theorem zcX9_layDates : Cond.code yX9_layDates cX9_layDates 8 (some .boolean) ∈ zTB := ztb 1745 (by rfl) (by decide +kernel)
set_option maxRecDepth 40000 in
theorem ziX9_layDates : Cond.instanceMethod yX9_layDates ∈ zTB := ztb 1744 (by rfl) (by decide +kernel)
set_option maxRecDepth 40000 in
theorem zsX9_layDates : Cond.selects yX9_layDates.cls yX9_layDates yX9_layDates ∈ zTB := ztb 95 (by rfl) (by decide +kernel)
set_option maxRecDepth 40000 in
theorem zcX9_calendar : Cond.code yX9_calendar cX9_calendar 3 (some .int) ∈ zTB := ztb 1740 (by rfl) (by decide +kernel)
set_option maxRecDepth 40000 in
theorem ziX9_calendar : Cond.instanceMethod yX9_calendar ∈ zTB := ztb 1738 (by rfl) (by decide +kernel)
set_option maxRecDepth 40000 in
theorem zsX9_calendar : Cond.selects yX9_calendar.cls yX9_calendar yX9_calendar ∈ zTB := ztb 1739 (by rfl) (by decide +kernel)
set_option maxRecDepth 40000 in
theorem zcX9_twins : Cond.code yX9_twins cX9_twins 6 (some .int) ∈ zTB := ztb 1749 (by rfl) (by decide +kernel)
set_option maxRecDepth 40000 in
theorem ziX9_twins : Cond.instanceMethod yX9_twins ∈ zTB := ztb 1747 (by rfl) (by decide +kernel)
set_option maxRecDepth 40000 in
theorem zsX9_twins : Cond.selects yX9_twins.cls yX9_twins yX9_twins ∈ zTB := ztb 1748 (by rfl) (by decide +kernel)
set_option maxRecDepth 40000 in
theorem zcX9_image : Cond.code yX9_image cX9_image 2 (some .int) ∈ zTB := ztb 1753 (by rfl) (by decide +kernel)
set_option maxRecDepth 40000 in
theorem ziX9_image : Cond.instanceMethod yX9_image ∈ zTB := ztb 1751 (by rfl) (by decide +kernel)
set_option maxRecDepth 40000 in
theorem zsX9_image : Cond.selects yX9_image.cls yX9_image yX9_image ∈ zTB := ztb 1752 (by rfl) (by decide +kernel)
set_option maxRecDepth 40000 in
theorem zcX9_back : Cond.code yX9_back cX9_back 2 (some .int) ∈ zTB := ztb 1757 (by rfl) (by decide +kernel)
set_option maxRecDepth 40000 in
theorem ziX9_back : Cond.instanceMethod yX9_back ∈ zTB := ztb 1755 (by rfl) (by decide +kernel)
set_option maxRecDepth 40000 in
theorem zsX9_back : Cond.selects yX9_back.cls yX9_back yX9_back ∈ zTB := ztb 1756 (by rfl) (by decide +kernel)
set_option maxRecDepth 40000 in
theorem zcX9_count : Cond.code yX9_count cX9_count 2 (some .int) ∈ zTB := ztb 1761 (by rfl) (by decide +kernel)
set_option maxRecDepth 40000 in
theorem ziX9_count : Cond.instanceMethod yX9_count ∈ zTB := ztb 1759 (by rfl) (by decide +kernel)
set_option maxRecDepth 40000 in
theorem zsX9_count : Cond.selects yX9_count.cls yX9_count yX9_count ∈ zTB := ztb 1760 (by rfl) (by decide +kernel)
set_option maxRecDepth 40000 in
theorem zcJ9_max_7cf53 : Cond.code yJ9_max_7cf53 cJ9_max_7cf53 2 (some .int) ∈ zTB := ztb 855 (by rfl) (by decide +kernel)
set_option maxRecDepth 40000 in
theorem ztJ9_max_7cf53 : Cond.static yJ9_max_7cf53 ∈ zTB := ztb 854 (by rfl) (by decide +kernel)
set_option maxRecDepth 40000 in
theorem zcJ9_max_f86c9 : Cond.code yJ9_max_f86c9 cJ9_max_f86c9 4 (some .long) ∈ zTB := ztb 1451 (by rfl) (by decide +kernel)
set_option maxRecDepth 40000 in
theorem ztJ9_max_f86c9 : Cond.static yJ9_max_f86c9 ∈ zTB := ztb 1450 (by rfl) (by decide +kernel)
set_option maxRecDepth 40000 in
theorem zcJ9_min_7cf53 : Cond.code yJ9_min_7cf53 cJ9_min_7cf53 2 (some .int) ∈ zTB := ztb 556 (by rfl) (by decide +kernel)
set_option maxRecDepth 40000 in
theorem ztJ9_min_7cf53 : Cond.static yJ9_min_7cf53 ∈ zTB := ztb 555 (by rfl) (by decide +kernel)
set_option maxRecDepth 40000 in
theorem zcJ9_min_f86c9 : Cond.code yJ9_min_f86c9 cJ9_min_f86c9 4 (some .long) ∈ zTB := ztb 1448 (by rfl) (by decide +kernel)
set_option maxRecDepth 40000 in
theorem ztJ9_min_f86c9 : Cond.static yJ9_min_f86c9 ∈ zTB := ztb 1447 (by rfl) (by decide +kernel)
set_option maxRecDepth 40000 in
theorem zcJ0_length_8abf5 : Cond.code yJ0_length_8abf5 cJ0_length_8abf5 1 (some .int) ∈ zTB := ztb 1364 (by rfl) (by decide +kernel)
set_option maxRecDepth 40000 in
theorem ziJ0_length_8abf5 : Cond.instanceMethod yJ0_length_8abf5 ∈ zTB := ztb 1362 (by rfl) (by decide +kernel)
set_option maxRecDepth 40000 in
theorem zsJ0_length_8abf5 : Cond.selects yJ0_length_8abf5.cls yJ0_length_8abf5 yJ0_length_8abf5 ∈ zTB := ztb 1363 (by rfl) (by decide +kernel)
set_option maxRecDepth 40000 in
theorem zcJ0_charAt_5068e : Cond.code yJ0_charAt_5068e cJ0_charAt_5068e 2 (some .char) ∈ zTB := ztb 1374 (by rfl) (by decide +kernel)
set_option maxRecDepth 40000 in
theorem ziJ0_charAt_5068e : Cond.instanceMethod yJ0_charAt_5068e ∈ zTB := ztb 1372 (by rfl) (by decide +kernel)
set_option maxRecDepth 40000 in
theorem zsJ0_charAt_5068e : Cond.selects yJ0_charAt_5068e.cls yJ0_charAt_5068e yJ0_charAt_5068e ∈ zTB := ztb 1373 (by rfl) (by decide +kernel)
set_option maxRecDepth 40000 in
theorem zcJ0_coder_7d493 : Cond.code yJ0_coder_7d493 cJ0_coder_7d493 1 (some .byte) ∈ zTB := ztb 1368 (by rfl) (by decide +kernel)
set_option maxRecDepth 40000 in
theorem ziJ0_coder_7d493 : Cond.instanceMethod yJ0_coder_7d493 ∈ zTB := ztb 1366 (by rfl) (by decide +kernel)
set_option maxRecDepth 40000 in
theorem zsJ0_coder_7d493 : Cond.selects yJ0_coder_7d493.cls yJ0_coder_7d493 yJ0_coder_7d493 ∈ zTB := ztb 1367 (by rfl) (by decide +kernel)
set_option maxRecDepth 40000 in
theorem zcJ0_isLatin1_aae02 : Cond.code yJ0_isLatin1_aae02 cJ0_isLatin1_aae02 1 (some .boolean) ∈ zTB := ztb 1378 (by rfl) (by decide +kernel)
set_option maxRecDepth 40000 in
theorem ziJ0_isLatin1_aae02 : Cond.instanceMethod yJ0_isLatin1_aae02 ∈ zTB := ztb 1376 (by rfl) (by decide +kernel)
set_option maxRecDepth 40000 in
theorem zsJ0_isLatin1_aae02 : Cond.selects yJ0_isLatin1_aae02.cls yJ0_isLatin1_aae02 yJ0_isLatin1_aae02 ∈ zTB := ztb 1377 (by rfl) (by decide +kernel)
set_option maxRecDepth 40000 in
theorem zcJ0_checkIndex_df160 : Cond.code yJ0_checkIndex_df160 cJ0_checkIndex_df160 2 none ∈ zTB := ztb 1384 (by rfl) (by decide +kernel)
set_option maxRecDepth 40000 in
theorem ztJ0_checkIndex_df160 : Cond.static yJ0_checkIndex_df160 ∈ zTB := ztb 1383 (by rfl) (by decide +kernel)
set_option maxRecDepth 40000 in
theorem zcJ1_charAt_3b067 : Cond.code yJ1_charAt_3b067 cJ1_charAt_3b067 2 (some .char) ∈ zTB := ztb 1381 (by rfl) (by decide +kernel)
set_option maxRecDepth 40000 in
theorem ztJ1_charAt_3b067 : Cond.static yJ1_charAt_3b067 ∈ zTB := ztb 1380 (by rfl) (by decide +kernel)
set_option maxRecDepth 40000 in
theorem zcJ2_getChar_3b067 : Cond.code yJ2_getChar_3b067 cJ2_getChar_3b067 2 (some .char) ∈ zTB := ztb 1402 (by rfl) (by decide +kernel)
set_option maxRecDepth 40000 in
theorem ztJ2_getChar_3b067 : Cond.static yJ2_getChar_3b067 ∈ zTB := ztb 1401 (by rfl) (by decide +kernel)
set_option maxRecDepth 40000 in
theorem zcJ2_length_9d52b : Cond.code yJ2_length_9d52b cJ2_length_9d52b 1 (some .int) ∈ zTB := ztb 1398 (by rfl) (by decide +kernel)
set_option maxRecDepth 40000 in
theorem ztJ2_length_9d52b : Cond.static yJ2_length_9d52b ∈ zTB := ztb 1397 (by rfl) (by decide +kernel)
set_option maxRecDepth 40000 in
theorem zcJ2_charAt_3b067 : Cond.code yJ2_charAt_3b067 cJ2_charAt_3b067 2 (some .char) ∈ zTB := ztb 1392 (by rfl) (by decide +kernel)
set_option maxRecDepth 40000 in
theorem ztJ2_charAt_3b067 : Cond.static yJ2_charAt_3b067 ∈ zTB := ztb 1391 (by rfl) (by decide +kernel)
set_option maxRecDepth 40000 in
theorem zcJ2_checkIndex_2214a : Cond.code yJ2_checkIndex_2214a cJ2_checkIndex_2214a 2 none ∈ zTB := ztb 1395 (by rfl) (by decide +kernel)
set_option maxRecDepth 40000 in
theorem ztJ2_checkIndex_2214a : Cond.static yJ2_checkIndex_2214a ∈ zTB := ztb 1394 (by rfl) (by decide +kernel)
set_option maxRecDepth 40000 in
theorem zcJ7_fill_d0a16 : Cond.code yJ7_fill_d0a16 cJ7_fill_d0a16 5 none ∈ zTB := ztb 701 (by rfl) (by decide +kernel)
set_option maxRecDepth 40000 in
theorem ztJ7_fill_d0a16 : Cond.static yJ7_fill_d0a16 ∈ zTB := ztb 700 (by rfl) (by decide +kernel)
set_option maxRecDepth 40000 in
theorem zcJ7_fill_53178 : Cond.code yJ7_fill_53178 cJ7_fill_53178 4 none ∈ zTB := ztb 344 (by rfl) (by decide +kernel)
set_option maxRecDepth 40000 in
theorem ztJ7_fill_53178 : Cond.static yJ7_fill_53178 ∈ zTB := ztb 343 (by rfl) (by decide +kernel)
set_option maxRecDepth 40000 in
theorem zcJ7_copyOf_59c91 : Cond.code yJ7_copyOf_59c91 cJ7_copyOf_59c91 3 (some (.array .int)) ∈ zTB := ztb 546 (by rfl) (by decide +kernel)
set_option maxRecDepth 40000 in
theorem ztJ7_copyOf_59c91 : Cond.static yJ7_copyOf_59c91 ∈ zTB := ztb 545 (by rfl) (by decide +kernel)
set_option maxRecDepth 40000 in
theorem zcJ3_checkIndex_8e157 : Cond.code yJ3_checkIndex_8e157 cJ3_checkIndex_8e157 3 (some .int) ∈ zTB := ztb 1389 (by rfl) (by decide +kernel)
set_option maxRecDepth 40000 in
theorem ztJ3_checkIndex_8e157 : Cond.static yJ3_checkIndex_8e157 ∈ zTB := ztb 1388 (by rfl) (by decide +kernel)
set_option maxRecDepth 40000 in
theorem znRJ0 : Cond.initialized RJ0 ∈ zTB := ztb 107 (by rfl) (by decide +kernel)
set_option maxRecDepth 40000 in
theorem znRX4 : Cond.initialized RX4 ∈ zTB := ztb 103 (by rfl) (by decide +kernel)
set_option maxRecDepth 40000 in
theorem znRX2 : Cond.initialized RX2 ∈ zTB := ztb 100 (by rfl) (by decide +kernel)
set_option maxRecDepth 40000 in
theorem znRL : Cond.initialized RL ∈ zTB := ztb 96 (by rfl) (by decide +kernel)
set_option maxRecDepth 40000 in
theorem znRJ1 : Cond.initialized RJ1 ∈ zTB := ztb 108 (by rfl) (by decide +kernel)
set_option maxRecDepth 40000 in
theorem znRX7 : Cond.initialized RX7 ∈ zTB := ztb 101 (by rfl) (by decide +kernel)
set_option maxRecDepth 40000 in
theorem znRJ2 : Cond.initialized RJ2 ∈ zTB := ztb 110 (by rfl) (by decide +kernel)
set_option maxRecDepth 40000 in
theorem znRX3 : Cond.initialized RX3 ∈ zTB := ztb 102 (by rfl) (by decide +kernel)
set_option maxRecDepth 40000 in
theorem znRX6 : Cond.initialized RX6 ∈ zTB := ztb 104 (by rfl) (by decide +kernel)
set_option maxRecDepth 40000 in
theorem znRX0 : Cond.initialized RX0 ∈ zTB := ztb 99 (by rfl) (by decide +kernel)
set_option maxRecDepth 40000 in
theorem znRX1 : Cond.initialized RX1 ∈ zTB := ztb 113 (by rfl) (by decide +kernel)
set_option maxRecDepth 40000 in
theorem znRX8 : Cond.initialized RX8 ∈ zTB := ztb 97 (by rfl) (by decide +kernel)
set_option maxRecDepth 40000 in
theorem znRX9 : Cond.initialized RX9 ∈ zTB := ztb 106 (by rfl) (by decide +kernel)
set_option maxRecDepth 40000 in
theorem znRJ7 : Cond.initialized RJ7 ∈ zTB := ztb 105 (by rfl) (by decide +kernel)
set_option maxRecDepth 40000 in
theorem znRJ9 : Cond.initialized RJ9 ∈ zTB := ztb 111 (by rfl) (by decide +kernel)
set_option maxRecDepth 40000 in
theorem znRX5 : Cond.initialized RX5 ∈ zTB := ztb 98 (by rfl) (by decide +kernel)
set_option maxRecDepth 40000 in
theorem znRJ3 : Cond.initialized RJ3 ∈ zTB := ztb 109 (by rfl) (by decide +kernel)
set_option maxRecDepth 40000 in
theorem zkL_15 : zLnk RL 15 mX8_init 0 := ⟨ztb 120 (by rfl) (by decide +kernel), znRX8, zcX8_init, by decide +kernel, by decide +kernel, by decide +kernel⟩
set_option maxRecDepth 40000 in
theorem zkX8_9 : zLnk RX8 9 mX5_init 0 := ⟨ztb 128 (by rfl) (by decide +kernel), znRX5, zcX5_init, by decide +kernel, by decide +kernel, by decide +kernel⟩
set_option maxRecDepth 40000 in
theorem zfX5_9 : zFld RX5 9 5 0 := ⟨by decide, by decide, ztb 132 (by rfl) (by decide +kernel)⟩
set_option maxRecDepth 40000 in
theorem zfX5_15 : zFld RX5 15 5 1 := ⟨by decide, by decide, ztb 133 (by rfl) (by decide +kernel)⟩
set_option maxRecDepth 40000 in
theorem zfX8_87 : zFld RX8 87 5 1 := ⟨by decide, by decide, ztb 134 (by rfl) (by decide +kernel)⟩
set_option maxRecDepth 40000 in
theorem zfX5_19 : zFld RX5 19 5 2 := ⟨by decide, by decide, ztb 135 (by rfl) (by decide +kernel)⟩
set_option maxRecDepth 40000 in
theorem zfX8_98 : zFld RX8 98 5 2 := ⟨by decide, by decide, ztb 136 (by rfl) (by decide +kernel)⟩
set_option maxRecDepth 40000 in
theorem zkX8_18 : zLnk RX8 18 mX0_init 0 := ⟨ztb 147 (by rfl) (by decide +kernel), znRX0, zcX0_init, by decide +kernel, by decide +kernel, by decide +kernel⟩
set_option maxRecDepth 40000 in
theorem zfX0_35 : zFld RX0 35 0 0 := ⟨by decide, by decide, ztb 153 (by rfl) (by decide +kernel)⟩
set_option maxRecDepth 40000 in
theorem zfX7_52 : zFld RX7 52 0 0 := ⟨by decide, by decide, ztb 154 (by rfl) (by decide +kernel)⟩
set_option maxRecDepth 40000 in
theorem zfX6_131 : zFld RX6 131 0 0 := ⟨by decide, by decide, ztb 155 (by rfl) (by decide +kernel)⟩
set_option maxRecDepth 40000 in
theorem zfX8_210 : zFld RX8 210 0 0 := ⟨by decide, by decide, ztb 156 (by rfl) (by decide +kernel)⟩
set_option maxRecDepth 40000 in
theorem zfX0_9 : zFld RX0 9 0 1 := ⟨by decide, by decide, ztb 157 (by rfl) (by decide +kernel)⟩
set_option maxRecDepth 40000 in
theorem zfX7_59 : zFld RX7 59 0 1 := ⟨by decide, by decide, ztb 158 (by rfl) (by decide +kernel)⟩
set_option maxRecDepth 40000 in
theorem zfX0_17 : zFld RX0 17 0 2 := ⟨by decide, by decide, ztb 159 (by rfl) (by decide +kernel)⟩
set_option maxRecDepth 40000 in
theorem zfX8_135 : zFld RX8 135 0 2 := ⟨by decide, by decide, ztb 160 (by rfl) (by decide +kernel)⟩
set_option maxRecDepth 40000 in
theorem zfX6_126 : zFld RX6 126 0 2 := ⟨by decide, by decide, ztb 161 (by rfl) (by decide +kernel)⟩
set_option maxRecDepth 40000 in
theorem zkX8_25 : zLnk RX8 25 mX2_init 1 := ⟨ztb 171 (by rfl) (by decide +kernel), znRX2, zcX2_init, by decide +kernel, by decide +kernel, by decide +kernel⟩
set_option maxRecDepth 40000 in
theorem zfX2_9 : zFld RX2 9 2 0 := ⟨by decide, by decide, ztb 175 (by rfl) (by decide +kernel)⟩
set_option maxRecDepth 40000 in
theorem zfX2_15 : zFld RX2 15 2 1 := ⟨by decide, by decide, ztb 176 (by rfl) (by decide +kernel)⟩
set_option maxRecDepth 40000 in
theorem zfX2_19 : zFld RX2 19 2 2 := ⟨by decide, by decide, ztb 177 (by rfl) (by decide +kernel)⟩
set_option maxRecDepth 40000 in
theorem zkX8_34 : zLnk RX8 34 mX7_init 0 := ⟨ztb 187 (by rfl) (by decide +kernel), znRX7, zcX7_init, by decide +kernel, by decide +kernel, by decide +kernel⟩
set_option maxRecDepth 40000 in
theorem zkX7_11 : zLnk RX7 11 mX0_init 0 := ⟨ztb 192 (by rfl) (by decide +kernel), znRX0, zcX0_init, by decide +kernel, by decide +kernel, by decide +kernel⟩
set_option maxRecDepth 40000 in
theorem zkX7_20 : zLnk RX7 20 mX3_init 0 := ⟨ztb 195 (by rfl) (by decide +kernel), znRX3, zcX3_init, by decide +kernel, by decide +kernel, by decide +kernel⟩
set_option maxRecDepth 40000 in
theorem zfX3_30 : zFld RX3 30 3 0 := ⟨by decide, by decide, ztb 199 (by rfl) (by decide +kernel)⟩
set_option maxRecDepth 40000 in
theorem zfX6_84 : zFld RX6 84 3 0 := ⟨by decide, by decide, ztb 200 (by rfl) (by decide +kernel)⟩
set_option maxRecDepth 40000 in
theorem zfX7_73 : zFld RX7 73 3 0 := ⟨by decide, by decide, ztb 201 (by rfl) (by decide +kernel)⟩
set_option maxRecDepth 40000 in
theorem zfX8_193 : zFld RX8 193 3 0 := ⟨by decide, by decide, ztb 202 (by rfl) (by decide +kernel)⟩
set_option maxRecDepth 40000 in
theorem zfX3_34 : zFld RX3 34 3 1 := ⟨by decide, by decide, ztb 203 (by rfl) (by decide +kernel)⟩
set_option maxRecDepth 40000 in
theorem zfX8_242 : zFld RX8 242 3 1 := ⟨by decide, by decide, ztb 204 (by rfl) (by decide +kernel)⟩
set_option maxRecDepth 40000 in
theorem zfX3_37 : zFld RX3 37 3 2 := ⟨by decide, by decide, ztb 205 (by rfl) (by decide +kernel)⟩
set_option maxRecDepth 40000 in
theorem zfX7_84 : zFld RX7 84 3 2 := ⟨by decide, by decide, ztb 206 (by rfl) (by decide +kernel)⟩
set_option maxRecDepth 40000 in
theorem zfX8_252 : zFld RX8 252 3 2 := ⟨by decide, by decide, ztb 207 (by rfl) (by decide +kernel)⟩
set_option maxRecDepth 40000 in
theorem zfX3_9 : zFld RX3 9 3 3 := ⟨by decide, by decide, ztb 208 (by rfl) (by decide +kernel)⟩
set_option maxRecDepth 40000 in
theorem zfX3_15 : zFld RX3 15 3 4 := ⟨by decide, by decide, ztb 209 (by rfl) (by decide +kernel)⟩
set_option maxRecDepth 40000 in
theorem zfX3_18 : zFld RX3 18 3 5 := ⟨by decide, by decide, ztb 210 (by rfl) (by decide +kernel)⟩
set_option maxRecDepth 40000 in
theorem zfX3_21 : zFld RX3 21 3 6 := ⟨by decide, by decide, ztb 211 (by rfl) (by decide +kernel)⟩
set_option maxRecDepth 40000 in
theorem zfX7_87 : zFld RX7 87 3 6 := ⟨by decide, by decide, ztb 212 (by rfl) (by decide +kernel)⟩
set_option maxRecDepth 40000 in
theorem zfX3_24 : zFld RX3 24 3 7 := ⟨by decide, by decide, ztb 213 (by rfl) (by decide +kernel)⟩
set_option maxRecDepth 40000 in
theorem zfX7_90 : zFld RX7 90 3 7 := ⟨by decide, by decide, ztb 214 (by rfl) (by decide +kernel)⟩
set_option maxRecDepth 40000 in
theorem zfX3_27 : zFld RX3 27 3 8 := ⟨by decide, by decide, ztb 215 (by rfl) (by decide +kernel)⟩
set_option maxRecDepth 40000 in
theorem zfX7_93 : zFld RX7 93 3 8 := ⟨by decide, by decide, ztb 216 (by rfl) (by decide +kernel)⟩
set_option maxRecDepth 40000 in
theorem zfX3_46 : zFld RX3 46 3 9 := ⟨by decide, by decide, ztb 217 (by rfl) (by decide +kernel)⟩
set_option maxRecDepth 40000 in
theorem zfX7_12 : zFld RX7 12 7 0 := ⟨by decide, by decide, ztb 241 (by rfl) (by decide +kernel)⟩
set_option maxRecDepth 40000 in
theorem zfX8_132 : zFld RX8 132 7 0 := ⟨by decide, by decide, ztb 242 (by rfl) (by decide +kernel)⟩
set_option maxRecDepth 40000 in
theorem zfX6_122 : zFld RX6 122 7 0 := ⟨by decide, by decide, ztb 243 (by rfl) (by decide +kernel)⟩
set_option maxRecDepth 40000 in
theorem zfX7_21 : zFld RX7 21 7 1 := ⟨by decide, by decide, ztb 244 (by rfl) (by decide +kernel)⟩
set_option maxRecDepth 40000 in
theorem zfX6_80 : zFld RX6 80 7 1 := ⟨by decide, by decide, ztb 245 (by rfl) (by decide +kernel)⟩
set_option maxRecDepth 40000 in
theorem zfX8_190 : zFld RX8 190 7 1 := ⟨by decide, by decide, ztb 246 (by rfl) (by decide +kernel)⟩
set_option maxRecDepth 40000 in
theorem zfX7_25 : zFld RX7 25 7 2 := ⟨by decide, by decide, ztb 247 (by rfl) (by decide +kernel)⟩
set_option maxRecDepth 40000 in
theorem zfX8_139 : zFld RX8 139 7 2 := ⟨by decide, by decide, ztb 248 (by rfl) (by decide +kernel)⟩
set_option maxRecDepth 40000 in
theorem zfX7_48 : zFld RX7 48 7 3 := ⟨by decide, by decide, ztb 249 (by rfl) (by decide +kernel)⟩
set_option maxRecDepth 40000 in
theorem zfX8_108 : zFld RX8 108 7 3 := ⟨by decide, by decide, ztb 250 (by rfl) (by decide +kernel)⟩
set_option maxRecDepth 40000 in
theorem zfX7_31 : zFld RX7 31 7 4 := ⟨by decide, by decide, ztb 251 (by rfl) (by decide +kernel)⟩
set_option maxRecDepth 40000 in
theorem zkX8_41 : zLnk RX8 41 mX3_init 0 := ⟨ztb 264 (by rfl) (by decide +kernel), znRX3, zcX3_init, by decide +kernel, by decide +kernel, by decide +kernel⟩
set_option maxRecDepth 40000 in
theorem zkX8_48 : zLnk RX8 48 mX4_init 0 := ⟨ztb 267 (by rfl) (by decide +kernel), znRX4, zcX4_init, by decide +kernel, by decide +kernel, by decide +kernel⟩
set_option maxRecDepth 40000 in
theorem zfX4_9 : zFld RX4 9 4 0 := ⟨by decide, by decide, ztb 272 (by rfl) (by decide +kernel)⟩
set_option maxRecDepth 40000 in
theorem zfX6_53 : zFld RX6 53 4 0 := ⟨by decide, by decide, ztb 273 (by rfl) (by decide +kernel)⟩
set_option maxRecDepth 40000 in
theorem zfX8_281 : zFld RX8 281 4 0 := ⟨by decide, by decide, ztb 274 (by rfl) (by decide +kernel)⟩
set_option maxRecDepth 40000 in
theorem zfX4_15 : zFld RX4 15 4 1 := ⟨by decide, by decide, ztb 275 (by rfl) (by decide +kernel)⟩
set_option maxRecDepth 40000 in
theorem zfX4_19 : zFld RX4 19 4 2 := ⟨by decide, by decide, ztb 276 (by rfl) (by decide +kernel)⟩
set_option maxRecDepth 40000 in
theorem zfX4_24 : zFld RX4 24 4 3 := ⟨by decide, by decide, ztb 277 (by rfl) (by decide +kernel)⟩
set_option maxRecDepth 40000 in
theorem zfX4_27 : zFld RX4 27 4 4 := ⟨by decide, by decide, ztb 278 (by rfl) (by decide +kernel)⟩
set_option maxRecDepth 40000 in
theorem zfX4_31 : zFld RX4 31 4 5 := ⟨by decide, by decide, ztb 279 (by rfl) (by decide +kernel)⟩
set_option maxRecDepth 40000 in
theorem zkX8_55 : zLnk RX8 55 mX6_init 2 := ⟨ztb 297 (by rfl) (by decide +kernel), znRX6, zcX6_init, by decide +kernel, by decide +kernel, by decide +kernel⟩
set_option maxRecDepth 40000 in
theorem zfX6_21 : zFld RX6 21 6 0 := ⟨by decide, by decide, ztb 302 (by rfl) (by decide +kernel)⟩
set_option maxRecDepth 40000 in
theorem zfX8_219 : zFld RX8 219 6 0 := ⟨by decide, by decide, ztb 303 (by rfl) (by decide +kernel)⟩
set_option maxRecDepth 40000 in
theorem zfX6_24 : zFld RX6 24 6 1 := ⟨by decide, by decide, ztb 304 (by rfl) (by decide +kernel)⟩
set_option maxRecDepth 40000 in
theorem zfX8_236 : zFld RX8 236 6 1 := ⟨by decide, by decide, ztb 305 (by rfl) (by decide +kernel)⟩
set_option maxRecDepth 40000 in
theorem zfX6_37 : zFld RX6 37 6 2 := ⟨by decide, by decide, ztb 306 (by rfl) (by decide +kernel)⟩
set_option maxRecDepth 40000 in
theorem zfX8_307 : zFld RX8 307 6 2 := ⟨by decide, by decide, ztb 307 (by rfl) (by decide +kernel)⟩
set_option maxRecDepth 40000 in
theorem zfX6_9 : zFld RX6 9 6 3 := ⟨by decide, by decide, ztb 308 (by rfl) (by decide +kernel)⟩
set_option maxRecDepth 40000 in
theorem zfX6_15 : zFld RX6 15 6 4 := ⟨by decide, by decide, ztb 309 (by rfl) (by decide +kernel)⟩
set_option maxRecDepth 40000 in
theorem zfX6_31 : zFld RX6 31 6 5 := ⟨by decide, by decide, ztb 310 (by rfl) (by decide +kernel)⟩
set_option maxRecDepth 40000 in
theorem zfX6_34 : zFld RX6 34 6 6 := ⟨by decide, by decide, ztb 311 (by rfl) (by decide +kernel)⟩
set_option maxRecDepth 40000 in
theorem zfX6_28 : zFld RX6 28 6 7 := ⟨by decide, by decide, ztb 312 (by rfl) (by decide +kernel)⟩
set_option maxRecDepth 40000 in
theorem zfX6_102 : zFld RX6 102 6 8 := ⟨by decide, by decide, ztb 313 (by rfl) (by decide +kernel)⟩
set_option maxRecDepth 40000 in
theorem zfX6_105 : zFld RX6 105 6 9 := ⟨by decide, by decide, ztb 314 (by rfl) (by decide +kernel)⟩
set_option maxRecDepth 40000 in
theorem zfX6_115 : zFld RX6 115 6 10 := ⟨by decide, by decide, ztb 315 (by rfl) (by decide +kernel)⟩
set_option maxRecDepth 40000 in
theorem zfX6_108 : zFld RX6 108 6 11 := ⟨by decide, by decide, ztb 316 (by rfl) (by decide +kernel)⟩
set_option maxRecDepth 40000 in
theorem zkX8_66 : zLnk RX8 66 mJ7_fill_53178 2 := ⟨ztb 342 (by rfl) (by decide +kernel), znRJ7, zcJ7_fill_53178, by decide +kernel, by decide +kernel, by decide +kernel⟩
set_option maxRecDepth 40000 in
theorem zfX8_10 : zFld RX8 10 8 0 := ⟨by decide, by decide, ztb 345 (by rfl) (by decide +kernel)⟩
set_option maxRecDepth 40000 in
theorem zfX8_19 : zFld RX8 19 8 1 := ⟨by decide, by decide, ztb 346 (by rfl) (by decide +kernel)⟩
set_option maxRecDepth 40000 in
theorem zfX8_28 : zFld RX8 28 8 2 := ⟨by decide, by decide, ztb 347 (by rfl) (by decide +kernel)⟩
set_option maxRecDepth 40000 in
theorem zfX8_35 : zFld RX8 35 8 3 := ⟨by decide, by decide, ztb 348 (by rfl) (by decide +kernel)⟩
set_option maxRecDepth 40000 in
theorem zfX8_42 : zFld RX8 42 8 4 := ⟨by decide, by decide, ztb 349 (by rfl) (by decide +kernel)⟩
set_option maxRecDepth 40000 in
theorem zfX8_49 : zFld RX8 49 8 5 := ⟨by decide, by decide, ztb 350 (by rfl) (by decide +kernel)⟩
set_option maxRecDepth 40000 in
theorem zfX8_58 : zFld RX8 58 8 6 := ⟨by decide, by decide, ztb 351 (by rfl) (by decide +kernel)⟩
set_option maxRecDepth 40000 in
theorem zfX8_62 : zFld RX8 62 8 7 := ⟨by decide, by decide, ztb 352 (by rfl) (by decide +kernel)⟩
set_option maxRecDepth 40000 in
theorem zfX8_72 : zFld RX8 72 8 8 := ⟨by decide, by decide, ztb 353 (by rfl) (by decide +kernel)⟩
set_option maxRecDepth 40000 in
theorem zfX8_76 : zFld RX8 76 8 9 := ⟨by decide, by decide, ztb 354 (by rfl) (by decide +kernel)⟩
set_option maxRecDepth 40000 in
theorem zfX8_303 : zFld RX8 303 8 10 := ⟨by decide, by decide, ztb 355 (by rfl) (by decide +kernel)⟩
set_option maxRecDepth 40000 in
theorem zfX8_79 : zFld RX8 79 8 11 := ⟨by decide, by decide, ztb 356 (by rfl) (by decide +kernel)⟩
set_option maxRecDepth 40000 in
theorem zkL_19 : zLnk RL 19 mX8_feed 5 := ⟨ztb 382 (by rfl) (by decide +kernel), znRX8, zcX8_feed, by decide +kernel, by decide +kernel, by decide +kernel⟩
set_option maxRecDepth 40000 in
theorem zkX8_83 : zLnk RX8 83 mX8_bytesIn 1 := ⟨ztb 386 (by rfl) (by decide +kernel), znRX8, zcX8_bytesIn, by decide +kernel, by decide +kernel, by decide +kernel⟩
set_option maxRecDepth 40000 in
theorem zkX8_90 : zLnk RX8 90 mX5_add 1 := ⟨ztb 389 (by rfl) (by decide +kernel), znRX5, zcX5_add, by decide +kernel, by decide +kernel, by decide +kernel⟩
set_option maxRecDepth 40000 in
theorem zkL_24 : zLnk RL 24 mX8_end 1 := ⟨ztb 393 (by rfl) (by decide +kernel), znRX8, zcX8_end, by decide +kernel, by decide +kernel, by decide +kernel⟩
set_option maxRecDepth 40000 in
theorem zkL_29 : zLnk RL 29 mX8_fault 1 := ⟨ztb 397 (by rfl) (by decide +kernel), znRX8, zcX8_fault, by decide +kernel, by decide +kernel, by decide +kernel⟩
set_option maxRecDepth 40000 in
theorem zkX8_94 : zLnk RX8 94 mX0_read 1 := ⟨ztb 401 (by rfl) (by decide +kernel), znRX0, zcX0_read, by decide +kernel, by decide +kernel, by decide +kernel⟩
set_option maxRecDepth 40000 in
theorem zkX0_20 : zLnk RX0 20 mX0_clear 0 := ⟨ztb 405 (by rfl) (by decide +kernel), znRX0, zcX0_clear, by decide +kernel, by decide +kernel, by decide +kernel⟩
set_option maxRecDepth 40000 in
theorem zkX0_45 : zLnk RX0 45 mJ7_fill_53178 2 := ⟨ztb 409 (by rfl) (by decide +kernel), znRJ7, zcJ7_fill_53178, by decide +kernel, by decide +kernel, by decide +kernel⟩
set_option maxRecDepth 40000 in
theorem zkX0_23 : zLnk RX0 23 mX5_begin 0 := ⟨ztb 410 (by rfl) (by decide +kernel), znRX5, zcX5_begin, by decide +kernel, by decide +kernel, by decide +kernel⟩
set_option maxRecDepth 40000 in
theorem zkX5_22 : zLnk RX5 22 mX5_skipBlanks 0 := ⟨ztb 414 (by rfl) (by decide +kernel), znRX5, zcX5_skipBlanks, by decide +kernel, by decide +kernel, by decide +kernel⟩
set_option maxRecDepth 40000 in
theorem zkX0_28 : zLnk RX0 28 mX0_readTaboos 1 := ⟨ztb 418 (by rfl) (by decide +kernel), znRX0, zcX0_readTaboos, by decide +kernel, by decide +kernel, by decide +kernel⟩
set_option maxRecDepth 40000 in
theorem zkX0_51 : zLnk RX0 51 mX5_number 1 := ⟨ztb 422 (by rfl) (by decide +kernel), znRX5, zcX5_number, by decide +kernel, by decide +kernel, by decide +kernel⟩
set_option maxRecDepth 40000 in
theorem zkX5_25 : zLnk RX5 25 mX5_sign 0 := ⟨ztb 426 (by rfl) (by decide +kernel), znRX5, zcX5_sign, by decide +kernel, by decide +kernel, by decide +kernel⟩
set_option maxRecDepth 40000 in
theorem zkX5_29 : zLnk RX5 29 mX5_isDigit 1 := ⟨ztb 430 (by rfl) (by decide +kernel), znRX5, zcX5_isDigit, by decide +kernel, by decide +kernel, by decide +kernel⟩
set_option maxRecDepth 40000 in
theorem zkX0_55 : zLnk RX0 55 mX5_accept 1 := ⟨ztb 433 (by rfl) (by decide +kernel), znRX5, zcX5_accept, by decide +kernel, by decide +kernel, by decide +kernel⟩
set_option maxRecDepth 40000 in
theorem zkX0_32 : zLnk RX0 32 mX0_readWays 1 := ⟨ztb 437 (by rfl) (by decide +kernel), znRX0, zcX0_readWays, by decide +kernel, by decide +kernel, by decide +kernel⟩
set_option maxRecDepth 40000 in
theorem zkX0_59 : zLnk RX0 59 mX0_readWay 1 := ⟨ztb 441 (by rfl) (by decide +kernel), znRX0, zcX0_readWay, by decide +kernel, by decide +kernel, by decide +kernel⟩
set_option maxRecDepth 40000 in
theorem zkX0_66 : zLnk RX0 66 mX5_sign 0 := ⟨ztb 445 (by rfl) (by decide +kernel), znRX5, zcX5_sign, by decide +kernel, by decide +kernel, by decide +kernel⟩
set_option maxRecDepth 40000 in
theorem zkX0_62 : zLnk RX0 62 mX5_isSpent 0 := ⟨ztb 446 (by rfl) (by decide +kernel), znRX5, zcX5_isSpent, by decide +kernel, by decide +kernel, by decide +kernel⟩
set_option maxRecDepth 40000 in
theorem zkX8_101 : zLnk RX8 101 mX2_read 0 := ⟨ztb 450 (by rfl) (by decide +kernel), znRX2, zcX2_read, by decide +kernel, by decide +kernel, by decide +kernel⟩
set_option maxRecDepth 40000 in
theorem zkX2_23 : zLnk RX2 23 mX5_begin 0 := ⟨ztb 454 (by rfl) (by decide +kernel), znRX5, zcX5_begin, by decide +kernel, by decide +kernel, by decide +kernel⟩
set_option maxRecDepth 40000 in
theorem zkX2_28 : zLnk RX2 28 mX2_clause 0 := ⟨ztb 455 (by rfl) (by decide +kernel), znRX2, zcX2_clause, by decide +kernel, by decide +kernel, by decide +kernel⟩
set_option maxRecDepth 40000 in
theorem zkX2_35 : zLnk RX2 35 mX5_accept 1 := ⟨ztb 459 (by rfl) (by decide +kernel), znRX5, zcX5_accept, by decide +kernel, by decide +kernel, by decide +kernel⟩
set_option maxRecDepth 40000 in
theorem zkX2_44 : zLnk RX2 44 mX5_sign 0 := ⟨ztb 460 (by rfl) (by decide +kernel), znRX5, zcX5_sign, by decide +kernel, by decide +kernel, by decide +kernel⟩
set_option maxRecDepth 40000 in
theorem zkX2_48 : zLnk RX2 48 mX2_condition 1 := ⟨ztb 461 (by rfl) (by decide +kernel), znRX2, zcX2_condition, by decide +kernel, by decide +kernel, by decide +kernel⟩
set_option maxRecDepth 40000 in
theorem zkX2_67 : zLnk RX2 67 mX2_unit 1 := ⟨ztb 465 (by rfl) (by decide +kernel), znRX2, zcX2_unit, by decide +kernel, by decide +kernel, by decide +kernel⟩
set_option maxRecDepth 40000 in
theorem zkX2_54 : zLnk RX2 54 mX2_sum 1 := ⟨ztb 469 (by rfl) (by decide +kernel), znRX2, zcX2_sum, by decide +kernel, by decide +kernel, by decide +kernel⟩
set_option maxRecDepth 40000 in
theorem zkX2_73 : zLnk RX2 73 mX2_term 1 := ⟨ztb 473 (by rfl) (by decide +kernel), znRX2, zcX2_term, by decide +kernel, by decide +kernel, by decide +kernel⟩
set_option maxRecDepth 40000 in
theorem zkX2_76 : zLnk RX2 76 mX2_atom 1 := ⟨ztb 477 (by rfl) (by decide +kernel), znRX2, zcX2_atom, by decide +kernel, by decide +kernel, by decide +kernel⟩
set_option maxRecDepth 40000 in
theorem zkX2_79 : zLnk RX2 79 mX2_isLetter 1 := ⟨ztb 481 (by rfl) (by decide +kernel), znRX2, zcX2_isLetter, by decide +kernel, by decide +kernel, by decide +kernel⟩
set_option maxRecDepth 40000 in
theorem zkX2_60 : zLnk RX2 60 mX2_emit 1 := ⟨ztb 484 (by rfl) (by decide +kernel), znRX2, zcX2_emit, by decide +kernel, by decide +kernel, by decide +kernel⟩
set_option maxRecDepth 40000 in
theorem zkX2_82 : zLnk RX2 82 mX5_number 1 := ⟨ztb 488 (by rfl) (by decide +kernel), znRX5, zcX5_number, by decide +kernel, by decide +kernel, by decide +kernel⟩
set_option maxRecDepth 40000 in
theorem zkX2_57 : zLnk RX2 57 mX2_comparison 0 := ⟨ztb 489 (by rfl) (by decide +kernel), znRX2, zcX2_comparison, by decide +kernel, by decide +kernel, by decide +kernel⟩
set_option maxRecDepth 40000 in
theorem zkX2_64 : zLnk RX2 64 mX2_moreTruths 1 := ⟨ztb 493 (by rfl) (by decide +kernel), znRX2, zcX2_moreTruths, by decide +kernel, by decide +kernel, by decide +kernel⟩
set_option maxRecDepth 40000 in
theorem zkX2_70 : zLnk RX2 70 mX2_moreUnits 1 := ⟨ztb 497 (by rfl) (by decide +kernel), znRX2, zcX2_moreUnits, by decide +kernel, by decide +kernel, by decide +kernel⟩
set_option maxRecDepth 40000 in
theorem zkX2_51 : zLnk RX2 51 mX2_answer 0 := ⟨ztb 501 (by rfl) (by decide +kernel), znRX2, zcX2_answer, by decide +kernel, by decide +kernel, by decide +kernel⟩
set_option maxRecDepth 40000 in
theorem zkX2_32 : zLnk RX2 32 mX5_isSpent 0 := ⟨ztb 505 (by rfl) (by decide +kernel), znRX5, zcX5_isSpent, by decide +kernel, by decide +kernel, by decide +kernel⟩
set_option maxRecDepth 40000 in
theorem zkL_34 : zLnk RL 34 mX8_text 1 := ⟨ztb 506 (by rfl) (by decide +kernel), znRX8, zcX8_text, by decide +kernel, by decide +kernel, by decide +kernel⟩
set_option maxRecDepth 40000 in
theorem zkX8_104 : zLnk RX8 104 mX8_takeIsles 0 := ⟨ztb 510 (by rfl) (by decide +kernel), znRX8, zcX8_takeIsles, by decide +kernel, by decide +kernel, by decide +kernel⟩
set_option maxRecDepth 40000 in
theorem zkX8_310 : zLnk RX8 310 mX7_settle 1 := ⟨ztb 514 (by rfl) (by decide +kernel), znRX7, zcX7_settle, by decide +kernel, by decide +kernel, by decide +kernel⟩
set_option maxRecDepth 40000 in
theorem zkX7_35 : zLnk RX7 35 mX0_copy 1 := ⟨ztb 518 (by rfl) (by decide +kernel), znRX0, zcX0_copy, by decide +kernel, by decide +kernel, by decide +kernel⟩
set_option maxRecDepth 40000 in
theorem zkX7_39 : zLnk RX7 39 mX3_clear 0 := ⟨ztb 525 (by rfl) (by decide +kernel), znRX3, zcX3_clear, by decide +kernel, by decide +kernel, by decide +kernel⟩
set_option maxRecDepth 40000 in
theorem zkX7_42 : zLnk RX7 42 mJ7_fill_53178 2 := ⟨ztb 529 (by rfl) (by decide +kernel), znRJ7, zcJ7_fill_53178, by decide +kernel, by decide +kernel, by decide +kernel⟩
set_option maxRecDepth 40000 in
theorem zkX8_111 : zLnk RX8 111 mX8_takeCustom 0 := ⟨ztb 530 (by rfl) (by decide +kernel), znRX8, zcX8_takeCustom, by decide +kernel, by decide +kernel, by decide +kernel⟩
set_option maxRecDepth 40000 in
theorem zkX8_314 : zLnk RX8 314 mX2_compiled 0 := ⟨ztb 534 (by rfl) (by decide +kernel), znRX2, zcX2_compiled, by decide +kernel, by decide +kernel, by decide +kernel⟩
set_option maxRecDepth 40000 in
theorem zkX2_41 : zLnk RX2 41 mX1_init 2 := ⟨ztb 540 (by rfl) (by decide +kernel), znRX1, zcX1_init, by decide +kernel, by decide +kernel, by decide +kernel⟩
set_option maxRecDepth 40000 in
theorem zkX1_9 : zLnk RX1 9 mJ7_copyOf_59c91 2 := ⟨ztb 544 (by rfl) (by decide +kernel), znRJ7, zcJ7_copyOf_59c91, by decide +kernel, by decide +kernel, by decide +kernel⟩
set_option maxRecDepth 40000 in
theorem zkJ7_304 : zLnk RJ7 304 mJ9_min_7cf53 2 := ⟨ztb 554 (by rfl) (by decide +kernel), znRJ9, zcJ9_min_7cf53, by decide +kernel, by decide +kernel, by decide +kernel⟩
set_option maxRecDepth 40000 in
theorem zfX1_15 : zFld RX1 15 1 0 := ⟨by decide, by decide, ztb 558 (by rfl) (by decide +kernel)⟩
set_option maxRecDepth 40000 in
theorem zfX1_21 : zFld RX1 21 1 1 := ⟨by decide, by decide, ztb 559 (by rfl) (by decide +kernel)⟩
set_option maxRecDepth 40000 in
theorem zkX8_318 : zLnk RX8 318 mX7_addCustom 1 := ⟨ztb 565 (by rfl) (by decide +kernel), znRX7, zcX7_addCustom, by decide +kernel, by decide +kernel, by decide +kernel⟩
set_option maxRecDepth 40000 in
theorem zkL_48 : zLnk RL 48 mX8_way 2 := ⟨ztb 569 (by rfl) (by decide +kernel), znRX8, zcX8_way, by decide +kernel, by decide +kernel, by decide +kernel⟩
set_option maxRecDepth 40000 in
theorem zkX8_114 : zLnk RX8 114 mX7_isIsle 1 := ⟨ztb 573 (by rfl) (by decide +kernel), znRX7, zcX7_isIsle, by decide +kernel, by decide +kernel, by decide +kernel⟩
set_option maxRecDepth 40000 in
theorem zkL_52 : zLnk RL 52 mX8_custom 2 := ⟨ztb 577 (by rfl) (by decide +kernel), znRX8, zcX8_custom, by decide +kernel, by decide +kernel, by decide +kernel⟩
set_option maxRecDepth 40000 in
theorem zkL_57 : zLnk RL 57 mX8_forbidden 3 := ⟨ztb 581 (by rfl) (by decide +kernel), znRX8, zcX8_forbidden, by decide +kernel, by decide +kernel, by decide +kernel⟩
set_option maxRecDepth 40000 in
theorem zkX8_142 : zLnk RX8 142 mX8_isNumber 1 := ⟨ztb 585 (by rfl) (by decide +kernel), znRX8, zcX8_isNumber, by decide +kernel, by decide +kernel, by decide +kernel⟩
set_option maxRecDepth 40000 in
theorem zkX8_118 : zLnk RX8 118 mX8_isDay 1 := ⟨ztb 588 (by rfl) (by decide +kernel), znRX8, zcX8_isDay, by decide +kernel, by decide +kernel, by decide +kernel⟩
set_option maxRecDepth 40000 in
theorem zkX8_145 : zLnk RX8 145 mX7_forbids 3 := ⟨ztb 591 (by rfl) (by decide +kernel), znRX7, zcX7_forbids, by decide +kernel, by decide +kernel, by decide +kernel⟩
set_option maxRecDepth 40000 in
theorem zkX7_66 : zLnk RX7 66 mX7_tabooOn 2 := ⟨ztb 595 (by rfl) (by decide +kernel), znRX7, zcX7_tabooOn, by decide +kernel, by decide +kernel, by decide +kernel⟩
set_option maxRecDepth 40000 in
theorem zkX7_55 : zLnk RX7 55 mX7_isIsle 1 := ⟨ztb 599 (by rfl) (by decide +kernel), znRX7, zcX7_isIsle, by decide +kernel, by decide +kernel, by decide +kernel⟩
set_option maxRecDepth 40000 in
theorem zkX7_62 : zLnk RX7 62 mX3_tabooOn 3 := ⟨ztb 600 (by rfl) (by decide +kernel), znRX3, zcX3_tabooOn, by decide +kernel, by decide +kernel, by decide +kernel⟩
set_option maxRecDepth 40000 in
theorem zkX7_69 : zLnk RX7 69 mX7_forbidsBy 4 := ⟨ztb 604 (by rfl) (by decide +kernel), znRX7, zcX7_forbidsBy, by decide +kernel, by decide +kernel, by decide +kernel⟩
set_option maxRecDepth 40000 in
theorem zkX7_80 : zLnk RX7 80 mX1_worth 4 := ⟨ztb 608 (by rfl) (by decide +kernel), znRX1, zcX1_worth, by decide +kernel, by decide +kernel, by decide +kernel⟩
set_option maxRecDepth 40000 in
theorem zkX1_24 : zLnk RX1 24 mX1_joins 1 := ⟨ztb 612 (by rfl) (by decide +kernel), znRX1, zcX1_joins, by decide +kernel, by decide +kernel, by decide +kernel⟩
set_option maxRecDepth 40000 in
theorem zkX1_28 : zLnk RX1 28 mX1_letter 5 := ⟨ztb 615 (by rfl) (by decide +kernel), znRX1, zcX1_letter, by decide +kernel, by decide +kernel, by decide +kernel⟩
set_option maxRecDepth 40000 in
theorem zkX1_32 : zLnk RX1 32 mX1_joined 3 := ⟨ztb 618 (by rfl) (by decide +kernel), znRX1, zcX1_joined, by decide +kernel, by decide +kernel, by decide +kernel⟩
set_option maxRecDepth 40000 in
theorem zkX1_36 : zLnk RX1 36 mX1_bounded 1 := ⟨ztb 621 (by rfl) (by decide +kernel), znRX1, zcX1_bounded, by decide +kernel, by decide +kernel, by decide +kernel⟩
set_option maxRecDepth 40000 in
theorem zqX1_40 : Cond.constantLong RX1 40 (Int64.ofInt (1000000)) ∈ zTB := ztb 624 (by rfl) (by decide +kernel)
set_option maxRecDepth 40000 in
theorem zqX1_42 : Cond.constant RX1 42 (Int32.ofInt (1000000)) ∈ zTB := ztb 625 (by rfl) (by decide +kernel)
set_option maxRecDepth 40000 in
theorem zqX1_43 : Cond.constantLong RX1 43 (Int64.ofInt (-1000000)) ∈ zTB := ztb 626 (by rfl) (by decide +kernel)
set_option maxRecDepth 40000 in
theorem zqX1_45 : Cond.constant RX1 45 (Int32.ofInt (-1000000)) ∈ zTB := ztb 627 (by rfl) (by decide +kernel)
set_option maxRecDepth 40000 in
theorem zkL_62 : zLnk RL 62 mX8_hand 1 := ⟨ztb 628 (by rfl) (by decide +kernel), znRX8, zcX8_hand, by decide +kernel, by decide +kernel, by decide +kernel⟩
set_option maxRecDepth 40000 in
theorem zkL_66 : zLnk RL 66 mX8_pay 4 := ⟨ztb 632 (by rfl) (by decide +kernel), znRX8, zcX8_pay, by decide +kernel, by decide +kernel, by decide +kernel⟩
set_option maxRecDepth 40000 in
theorem zkX8_149 : zLnk RX8 149 mX8_isPayment 3 := ⟨ztb 636 (by rfl) (by decide +kernel), znRX8, zcX8_isPayment, by decide +kernel, by decide +kernel, by decide +kernel⟩
set_option maxRecDepth 40000 in
theorem zkX8_165 : zLnk RX8 165 mX8_isRules 1 := ⟨ztb 640 (by rfl) (by decide +kernel), znRX8, zcX8_isRules, by decide +kernel, by decide +kernel, by decide +kernel⟩
set_option maxRecDepth 40000 in
theorem zkX8_152 : zLnk RX8 152 mX8_openPurse 3 := ⟨ztb 643 (by rfl) (by decide +kernel), znRX8, zcX8_openPurse, by decide +kernel, by decide +kernel, by decide +kernel⟩
set_option maxRecDepth 40000 in
theorem zkX8_288 : zLnk RX8 288 mX4_open 2 := ⟨ztb 647 (by rfl) (by decide +kernel), znRX4, zcX4_open, by decide +kernel, by decide +kernel, by decide +kernel⟩
set_option maxRecDepth 40000 in
theorem zkX8_128 : zLnk RX8 128 mX7_tabooOn 2 := ⟨ztb 651 (by rfl) (by decide +kernel), znRX7, zcX7_tabooOn, by decide +kernel, by decide +kernel, by decide +kernel⟩
set_option maxRecDepth 40000 in
theorem zkX8_292 : zLnk RX8 292 mX7_bar 4 := ⟨ztb 652 (by rfl) (by decide +kernel), znRX7, zcX7_bar, by decide +kernel, by decide +kernel, by decide +kernel⟩
set_option maxRecDepth 40000 in
theorem zkX8_156 : zLnk RX8 156 mX4_rowPart 2 := ⟨ztb 656 (by rfl) (by decide +kernel), znRX4, zcX4_rowPart, by decide +kernel, by decide +kernel, by decide +kernel⟩
set_option maxRecDepth 40000 in
theorem zkX4_50 : zLnk RX4 50 mX4_countBack 1 := ⟨ztb 660 (by rfl) (by decide +kernel), znRX4, zcX4_countBack, by decide +kernel, by decide +kernel, by decide +kernel⟩
set_option maxRecDepth 40000 in
theorem zkX4_38 : zLnk RX4 38 mX4_isTotal 1 := ⟨ztb 664 (by rfl) (by decide +kernel), znRX4, zcX4_isTotal, by decide +kernel, by decide +kernel, by decide +kernel⟩
set_option maxRecDepth 40000 in
theorem zkX4_78 : zLnk RX4 78 mX4_isBarred 1 := ⟨ztb 668 (by rfl) (by decide +kernel), znRX4, zcX4_isBarred, by decide +kernel, by decide +kernel, by decide +kernel⟩
set_option maxRecDepth 40000 in
theorem zkX4_34 : zLnk RX4 34 mX4_isPart 1 := ⟨ztb 672 (by rfl) (by decide +kernel), znRX4, zcX4_isPart, by decide +kernel, by decide +kernel, by decide +kernel⟩
set_option maxRecDepth 40000 in
theorem zqX4_41 : Cond.constantLong RX4 41 (Int64.ofInt (2305843009213693951)) ∈ zTB := ztb 676 (by rfl) (by decide +kernel)
set_option maxRecDepth 40000 in
theorem zkX4_46 : zLnk RX4 46 mX4_fewest 1 := ⟨ztb 677 (by rfl) (by decide +kernel), znRX4, zcX4_fewest, by decide +kernel, by decide +kernel, by decide +kernel⟩
set_option maxRecDepth 40000 in
theorem zkX4_58 : zLnk RX4 58 mX4_isCount 1 := ⟨ztb 681 (by rfl) (by decide +kernel), znRX4, zcX4_isCount, by decide +kernel, by decide +kernel, by decide +kernel⟩
set_option maxRecDepth 40000 in
theorem zkX4_54 : zLnk RX4 54 mX4_greatestPart 3 := ⟨ztb 685 (by rfl) (by decide +kernel), znRX4, zcX4_greatestPart, by decide +kernel, by decide +kernel, by decide +kernel⟩
set_option maxRecDepth 40000 in
theorem zkX4_81 : zLnk RX4 81 mJ9_min_7cf53 2 := ⟨ztb 689 (by rfl) (by decide +kernel), znRJ9, zcJ9_min_7cf53, by decide +kernel, by decide +kernel, by decide +kernel⟩
set_option maxRecDepth 40000 in
theorem zkL_71 : zLnk RL 71 mX8_ways 4 := ⟨ztb 690 (by rfl) (by decide +kernel), znRX8, zcX8_ways, by decide +kernel, by decide +kernel, by decide +kernel⟩
set_option maxRecDepth 40000 in
theorem zqX8_159 : Cond.constantLong RX8 159 (Int64.ofInt (-1)) ∈ zTB := ztb 694 (by rfl) (by decide +kernel)
set_option maxRecDepth 40000 in
theorem zkX8_161 : zLnk RX8 161 mX4_rows 2 := ⟨ztb 695 (by rfl) (by decide +kernel), znRX4, zcX4_rows, by decide +kernel, by decide +kernel, by decide +kernel⟩
set_option maxRecDepth 40000 in
theorem zkX4_61 : zLnk RX4 61 mJ7_fill_d0a16 2 := ⟨ztb 699 (by rfl) (by decide +kernel), znRJ7, zcJ7_fill_d0a16, by decide +kernel, by decide +kernel, by decide +kernel⟩
set_option maxRecDepth 40000 in
theorem zkX4_67 : zLnk RX4 67 mX4_waysBefore 1 := ⟨ztb 702 (by rfl) (by decide +kernel), znRX4, zcX4_waysBefore, by decide +kernel, by decide +kernel, by decide +kernel⟩
set_option maxRecDepth 40000 in
theorem zkL_76 : zLnk RL 76 mX8_cant 3 := ⟨ztb 706 (by rfl) (by decide +kernel), znRX8, zcX8_cant, by decide +kernel, by decide +kernel, by decide +kernel⟩
set_option maxRecDepth 40000 in
theorem zkX8_168 : zLnk RX8 168 mX4_countForward 0 := ⟨ztb 710 (by rfl) (by decide +kernel), znRX4, zcX4_countForward, by decide +kernel, by decide +kernel, by decide +kernel⟩
set_option maxRecDepth 40000 in
theorem zkX8_171 : zLnk RX8 171 mX4_unpaid 0 := ⟨ztb 714 (by rfl) (by decide +kernel), znRX4, zcX4_unpaid, by decide +kernel, by decide +kernel, by decide +kernel⟩
set_option maxRecDepth 40000 in
theorem zkX4_43 : zLnk RX4 43 mX4_isPaid 1 := ⟨ztb 718 (by rfl) (by decide +kernel), znRX4, zcX4_isPaid, by decide +kernel, by decide +kernel, by decide +kernel⟩
set_option maxRecDepth 40000 in
theorem zkX8_174 : zLnk RX8 174 mX4_unpaidAt 1 := ⟨ztb 722 (by rfl) (by decide +kernel), znRX4, zcX4_unpaidAt, by decide +kernel, by decide +kernel, by decide +kernel⟩
set_option maxRecDepth 40000 in
theorem zkL_80 : zLnk RL 80 mX8_family 3 := ⟨ztb 726 (by rfl) (by decide +kernel), znRX8, zcX8_family, by decide +kernel, by decide +kernel, by decide +kernel⟩
set_option maxRecDepth 40000 in
theorem zkX8_177 : zLnk RX8 177 mX8_isFamily 2 := ⟨ztb 730 (by rfl) (by decide +kernel), znRX8, zcX8_isFamily, by decide +kernel, by decide +kernel, by decide +kernel⟩
set_option maxRecDepth 40000 in
theorem zkX8_181 : zLnk RX8 181 mX8_openFamily 1 := ⟨ztb 734 (by rfl) (by decide +kernel), znRX8, zcX8_openFamily, by decide +kernel, by decide +kernel, by decide +kernel⟩
set_option maxRecDepth 40000 in
theorem zkL_84 : zLnk RL 84 mX8_splits 2 := ⟨ztb 738 (by rfl) (by decide +kernel), znRX8, zcX8_splits, by decide +kernel, by decide +kernel, by decide +kernel⟩
set_option maxRecDepth 40000 in
theorem zkX8_184 : zLnk RX8 184 mX4_partitions 1 := ⟨ztb 742 (by rfl) (by decide +kernel), znRX4, zcX4_partitions, by decide +kernel, by decide +kernel, by decide +kernel⟩
set_option maxRecDepth 40000 in
theorem zkX4_71 : zLnk RX4 71 mJ7_fill_53178 2 := ⟨ztb 746 (by rfl) (by decide +kernel), znRJ7, zcJ7_fill_53178, by decide +kernel, by decide +kernel, by decide +kernel⟩
set_option maxRecDepth 40000 in
theorem zkX4_74 : zLnk RX4 74 mX4_addSize 2 := ⟨ztb 747 (by rfl) (by decide +kernel), znRX4, zcX4_addSize, by decide +kernel, by decide +kernel, by decide +kernel⟩
set_option maxRecDepth 40000 in
theorem zkL_88 : zLnk RL 88 mX8_date 2 := ⟨ztb 751 (by rfl) (by decide +kernel), znRX8, zcX8_date, by decide +kernel, by decide +kernel, by decide +kernel⟩
set_option maxRecDepth 40000 in
theorem zkX8_187 : zLnk RX8 187 mX7_forbidsNow 2 := ⟨ztb 755 (by rfl) (by decide +kernel), znRX7, zcX7_forbidsNow, by decide +kernel, by decide +kernel, by decide +kernel⟩
set_option maxRecDepth 40000 in
theorem zkX7_76 : zLnk RX7 76 mX7_forbids 3 := ⟨ztb 759 (by rfl) (by decide +kernel), znRX7, zcX7_forbids, by decide +kernel, by decide +kernel, by decide +kernel⟩
set_option maxRecDepth 40000 in
theorem zkL_92 : zLnk RL 92 mX8_debt 3 := ⟨ztb 760 (by rfl) (by decide +kernel), znRX8, zcX8_debt, by decide +kernel, by decide +kernel, by decide +kernel⟩
set_option maxRecDepth 40000 in
theorem zkX8_196 : zLnk RX8 196 mX7_dateFrom 3 := ⟨ztb 764 (by rfl) (by decide +kernel), znRX7, zcX7_dateFrom, by decide +kernel, by decide +kernel, by decide +kernel⟩
set_option maxRecDepth 40000 in
theorem zkL_96 : zLnk RL 96 mX8_bit 3 := ⟨ztb 768 (by rfl) (by decide +kernel), znRX8, zcX8_bit, by decide +kernel, by decide +kernel, by decide +kernel⟩
set_option maxRecDepth 40000 in
theorem zkX8_200 : zLnk RX8 200 mX8_isBitBase 2 := ⟨ztb 772 (by rfl) (by decide +kernel), znRX8, zcX8_isBitBase, by decide +kernel, by decide +kernel, by decide +kernel⟩
set_option maxRecDepth 40000 in
theorem zkX8_203 : zLnk RX8 203 mX8_forbiddenBehind 2 := ⟨ztb 776 (by rfl) (by decide +kernel), znRX8, zcX8_forbiddenBehind, by decide +kernel, by decide +kernel, by decide +kernel⟩
set_option maxRecDepth 40000 in
theorem zkL_100 : zLnk RL 100 mX8_weight 2 := ⟨ztb 780 (by rfl) (by decide +kernel), znRX8, zcX8_weight, by decide +kernel, by decide +kernel, by decide +kernel⟩
set_option maxRecDepth 40000 in
theorem zkL_104 : zLnk RL 104 mX8_likely 3 := ⟨ztb 784 (by rfl) (by decide +kernel), znRX8, zcX8_likely, by decide +kernel, by decide +kernel, by decide +kernel⟩
set_option maxRecDepth 40000 in
theorem zkX8_206 : zLnk RX8 206 mX8_weightOf 1 := ⟨ztb 788 (by rfl) (by decide +kernel), znRX8, zcX8_weightOf, by decide +kernel, by decide +kernel, by decide +kernel⟩
set_option maxRecDepth 40000 in
theorem zqX8_209 : Cond.constant RX8 209 (Int32.ofInt (1000000)) ∈ zTB := ztb 792 (by rfl) (by decide +kernel)
set_option maxRecDepth 40000 in
theorem zkL_108 : zLnk RL 108 mX8_good 0 := ⟨ztb 793 (by rfl) (by decide +kernel), znRX8, zcX8_good, by decide +kernel, by decide +kernel, by decide +kernel⟩
set_option maxRecDepth 40000 in
theorem zkX8_213 : zLnk RX8 213 mX6_addGood 0 := ⟨ztb 797 (by rfl) (by decide +kernel), znRX6, zcX6_addGood, by decide +kernel, by decide +kernel, by decide +kernel⟩
set_option maxRecDepth 40000 in
theorem zkX6_41 : zLnk RX6 41 mJ7_fill_53178 2 := ⟨ztb 801 (by rfl) (by decide +kernel), znRJ7, zcJ7_fill_53178, by decide +kernel, by decide +kernel, by decide +kernel⟩
set_option maxRecDepth 40000 in
theorem zkL_112 : zLnk RL 112 mX8_price 3 := ⟨ztb 802 (by rfl) (by decide +kernel), znRX8, zcX8_price, by decide +kernel, by decide +kernel, by decide +kernel⟩
set_option maxRecDepth 40000 in
theorem zkX8_216 : zLnk RX8 216 mX6_isGood 1 := ⟨ztb 806 (by rfl) (by decide +kernel), znRX6, zcX6_isGood, by decide +kernel, by decide +kernel, by decide +kernel⟩
set_option maxRecDepth 40000 in
theorem zkL_117 : zLnk RL 117 mX8_deal 4 := ⟨ztb 810 (by rfl) (by decide +kernel), znRX8, zcX8_deal, by decide +kernel, by decide +kernel, by decide +kernel⟩
set_option maxRecDepth 40000 in
theorem zkX8_222 : zLnk RX8 222 mX6_lawfulDeals 3 := ⟨ztb 814 (by rfl) (by decide +kernel), znRX6, zcX6_lawfulDeals, by decide +kernel, by decide +kernel, by decide +kernel⟩
set_option maxRecDepth 40000 in
theorem zkX6_47 : zLnk RX6 47 mX4_open 2 := ⟨ztb 818 (by rfl) (by decide +kernel), znRX4, zcX4_open, by decide +kernel, by decide +kernel, by decide +kernel⟩
set_option maxRecDepth 40000 in
theorem zkX6_57 : zLnk RX6 57 mX7_tabooOn 2 := ⟨ztb 819 (by rfl) (by decide +kernel), znRX7, zcX7_tabooOn, by decide +kernel, by decide +kernel, by decide +kernel⟩
set_option maxRecDepth 40000 in
theorem zkX6_63 : zLnk RX6 63 mX7_bar 4 := ⟨ztb 820 (by rfl) (by decide +kernel), znRX7, zcX7_bar, by decide +kernel, by decide +kernel, by decide +kernel⟩
set_option maxRecDepth 40000 in
theorem zkX6_67 : zLnk RX6 67 mX4_countForward 0 := ⟨ztb 821 (by rfl) (by decide +kernel), znRX4, zcX4_countForward, by decide +kernel, by decide +kernel, by decide +kernel⟩
set_option maxRecDepth 40000 in
theorem zkX6_70 : zLnk RX6 70 mX4_isBarred 1 := ⟨ztb 822 (by rfl) (by decide +kernel), znRX4, zcX4_isBarred, by decide +kernel, by decide +kernel, by decide +kernel⟩
set_option maxRecDepth 40000 in
theorem zkX6_74 : zLnk RX6 74 mX4_isPaid 1 := ⟨ztb 823 (by rfl) (by decide +kernel), znRX4, zcX4_isPaid, by decide +kernel, by decide +kernel, by decide +kernel⟩
set_option maxRecDepth 40000 in
theorem zkX6_77 : zLnk RX6 77 mX6_dealBit 2 := ⟨ztb 824 (by rfl) (by decide +kernel), znRX6, zcX6_dealBit, by decide +kernel, by decide +kernel, by decide +kernel⟩
set_option maxRecDepth 40000 in
theorem zkX8_225 : zLnk RX8 225 mX6_allows 3 := ⟨ztb 827 (by rfl) (by decide +kernel), znRX6, zcX6_allows, by decide +kernel, by decide +kernel, by decide +kernel⟩
set_option maxRecDepth 40000 in
theorem zkL_121 : zLnk RL 121 mX8_gain 5 := ⟨ztb 830 (by rfl) (by decide +kernel), znRX8, zcX8_gain, by decide +kernel, by decide +kernel, by decide +kernel⟩
set_option maxRecDepth 40000 in
theorem zqX8_228 : Cond.constant RX8 228 (Int32.ofInt (-1000000)) ∈ zTB := ztb 834 (by rfl) (by decide +kernel)
set_option maxRecDepth 40000 in
theorem zkX8_229 : zLnk RX8 229 mX6_learnDeals 3 := ⟨ztb 835 (by rfl) (by decide +kernel), znRX6, zcX6_learnDeals, by decide +kernel, by decide +kernel, by decide +kernel⟩
set_option maxRecDepth 40000 in
theorem zkX6_89 : zLnk RX6 89 mJ9_min_7cf53 2 := ⟨ztb 839 (by rfl) (by decide +kernel), znRJ9, zcJ9_min_7cf53, by decide +kernel, by decide +kernel, by decide +kernel⟩
set_option maxRecDepth 40000 in
theorem zkX6_94 : zLnk RX6 94 mX6_lawfulDeals 3 := ⟨ztb 840 (by rfl) (by decide +kernel), znRX6, zcX6_lawfulDeals, by decide +kernel, by decide +kernel, by decide +kernel⟩
set_option maxRecDepth 40000 in
theorem zkX6_98 : zLnk RX6 98 mX6_markNext 1 := ⟨ztb 841 (by rfl) (by decide +kernel), znRX6, zcX6_markNext, by decide +kernel, by decide +kernel, by decide +kernel⟩
set_option maxRecDepth 40000 in
theorem zkX8_232 : zLnk RX8 232 mX6_mostMoney 4 := ⟨ztb 845 (by rfl) (by decide +kernel), znRX6, zcX6_mostMoney, by decide +kernel, by decide +kernel, by decide +kernel⟩
set_option maxRecDepth 40000 in
theorem zkX6_111 : zLnk RX6 111 mX6_widestSpread 0 := ⟨ztb 849 (by rfl) (by decide +kernel), znRX6, zcX6_widestSpread, by decide +kernel, by decide +kernel, by decide +kernel⟩
set_option maxRecDepth 40000 in
theorem zkX6_154 : zLnk RX6 154 mJ9_max_7cf53 2 := ⟨ztb 853 (by rfl) (by decide +kernel), znRJ9, zcJ9_max_7cf53, by decide +kernel, by decide +kernel, by decide +kernel⟩
set_option maxRecDepth 40000 in
theorem zkX6_118 : zLnk RX6 118 mX6_land 6 := ⟨ztb 856 (by rfl) (by decide +kernel), znRX6, zcX6_land, by decide +kernel, by decide +kernel, by decide +kernel⟩
set_option maxRecDepth 40000 in
theorem zkX6_134 : zLnk RX6 134 mX6_lawfulAt 2 := ⟨ztb 860 (by rfl) (by decide +kernel), znRX6, zcX6_lawfulAt, by decide +kernel, by decide +kernel, by decide +kernel⟩
set_option maxRecDepth 40000 in
theorem zkX6_137 : zLnk RX6 137 mX6_allows 3 := ⟨ztb 864 (by rfl) (by decide +kernel), znRX6, zcX6_allows, by decide +kernel, by decide +kernel, by decide +kernel⟩
set_option maxRecDepth 40000 in
theorem zkX6_141 : zLnk RX6 141 mX6_keep 1 := ⟨ztb 865 (by rfl) (by decide +kernel), znRX6, zcX6_keep, by decide +kernel, by decide +kernel, by decide +kernel⟩
set_option maxRecDepth 40000 in
theorem zkX6_144 : zLnk RX6 144 mX6_buyNothing 1 := ⟨ztb 870 (by rfl) (by decide +kernel), znRX6, zcX6_buyNothing, by decide +kernel, by decide +kernel, by decide +kernel⟩
set_option maxRecDepth 40000 in
theorem zkX6_147 : zLnk RX6 147 mX6_leave 6 := ⟨ztb 874 (by rfl) (by decide +kernel), znRX6, zcX6_leave, by decide +kernel, by decide +kernel, by decide +kernel⟩
set_option maxRecDepth 40000 in
theorem zkX6_150 : zLnk RX6 150 mX6_trade 5 := ⟨ztb 878 (by rfl) (by decide +kernel), znRX6, zcX6_trade, by decide +kernel, by decide +kernel, by decide +kernel⟩
set_option maxRecDepth 40000 in
theorem zkL_125 : zLnk RL 125 mX8_today 1 := ⟨ztb 882 (by rfl) (by decide +kernel), znRX8, zcX8_today, by decide +kernel, by decide +kernel, by decide +kernel⟩
set_option maxRecDepth 40000 in
theorem zkL_129 : zLnk RL 129 mX8_change 3 := ⟨ztb 886 (by rfl) (by decide +kernel), znRX8, zcX8_change, by decide +kernel, by decide +kernel, by decide +kernel⟩
set_option maxRecDepth 40000 in
theorem zkX8_239 : zLnk RX8 239 mX3_addChange 3 := ⟨ztb 890 (by rfl) (by decide +kernel), znRX3, zcX3_addChange, by decide +kernel, by decide +kernel, by decide +kernel⟩
set_option maxRecDepth 40000 in
theorem zkL_135 : zLnk RL 135 mX8_drown 3 := ⟨ztb 894 (by rfl) (by decide +kernel), znRX8, zcX8_drown, by decide +kernel, by decide +kernel, by decide +kernel⟩
set_option maxRecDepth 40000 in
theorem zkX8_245 : zLnk RX8 245 mX3_drownings 4 := ⟨ztb 898 (by rfl) (by decide +kernel), znRX3, zcX3_drownings, by decide +kernel, by decide +kernel, by decide +kernel⟩
set_option maxRecDepth 40000 in
theorem zkX3_50 : zLnk RX3 50 mJ9_min_7cf53 2 := ⟨ztb 902 (by rfl) (by decide +kernel), znRJ9, zcJ9_min_7cf53, by decide +kernel, by decide +kernel, by decide +kernel⟩
set_option maxRecDepth 40000 in
theorem zkX3_56 : zLnk RX3 56 mX3_draw 1 := ⟨ztb 903 (by rfl) (by decide +kernel), znRX3, zcX3_draw, by decide +kernel, by decide +kernel, by decide +kernel⟩
set_option maxRecDepth 40000 in
theorem zqX3_64 : Cond.constantLong RX3 64 (Int64.ofInt (6364136223846793005)) ∈ zTB := ztb 907 (by rfl) (by decide +kernel)
set_option maxRecDepth 40000 in
theorem zqX3_66 : Cond.constantLong RX3 66 (Int64.ofInt (1442695040888963407)) ∈ zTB := ztb 908 (by rfl) (by decide +kernel)
set_option maxRecDepth 40000 in
theorem zkX3_60 : zLnk RX3 60 mX3_addChange 3 := ⟨ztb 909 (by rfl) (by decide +kernel), znRX3, zcX3_addChange, by decide +kernel, by decide +kernel, by decide +kernel⟩
set_option maxRecDepth 40000 in
theorem zkL_140 : zLnk RL 140 mX8_say 2 := ⟨ztb 910 (by rfl) (by decide +kernel), znRX8, zcX8_say, by decide +kernel, by decide +kernel, by decide +kernel⟩
set_option maxRecDepth 40000 in
theorem zkX8_249 : zLnk RX8 249 mX3_addSaid 2 := ⟨ztb 914 (by rfl) (by decide +kernel), znRX3, zcX3_addSaid, by decide +kernel, by decide +kernel, by decide +kernel⟩
set_option maxRecDepth 40000 in
theorem zkL_144 : zLnk RL 144 mX8_breach 1 := ⟨ztb 918 (by rfl) (by decide +kernel), znRX8, zcX8_breach, by decide +kernel, by decide +kernel, by decide +kernel⟩
set_option maxRecDepth 40000 in
theorem zkX8_255 : zLnk RX8 255 mX7_isBreach 1 := ⟨ztb 922 (by rfl) (by decide +kernel), znRX7, zcX7_isBreach, by decide +kernel, by decide +kernel, by decide +kernel⟩
set_option maxRecDepth 40000 in
theorem zkL_148 : zLnk RL 148 mX8_fines 1 := ⟨ztb 926 (by rfl) (by decide +kernel), znRX8, zcX8_fines, by decide +kernel, by decide +kernel, by decide +kernel⟩
set_option maxRecDepth 40000 in
theorem zkX8_258 : zLnk RX8 258 mX7_finesOf 1 := ⟨ztb 930 (by rfl) (by decide +kernel), znRX7, zcX7_finesOf, by decide +kernel, by decide +kernel, by decide +kernel⟩
set_option maxRecDepth 40000 in
theorem zkX7_96 : zLnk RX7 96 mX7_isBreach 1 := ⟨ztb 934 (by rfl) (by decide +kernel), znRX7, zcX7_isBreach, by decide +kernel, by decide +kernel, by decide +kernel⟩
set_option maxRecDepth 40000 in
theorem zkL_152 : zLnk RL 152 mX8_safe 2 := ⟨ztb 935 (by rfl) (by decide +kernel), znRX8, zcX8_safe, by decide +kernel, by decide +kernel, by decide +kernel⟩
set_option maxRecDepth 40000 in
theorem zkX8_261 : zLnk RX8 261 mJ9_min_7cf53 2 := ⟨ztb 939 (by rfl) (by decide +kernel), znRJ9, zcJ9_min_7cf53, by decide +kernel, by decide +kernel, by decide +kernel⟩
set_option maxRecDepth 40000 in
theorem zkX8_266 : zLnk RX8 266 mX7_neverForbids 3 := ⟨ztb 940 (by rfl) (by decide +kernel), znRX7, zcX7_neverForbids, by decide +kernel, by decide +kernel, by decide +kernel⟩
set_option maxRecDepth 40000 in
theorem zkL_156 : zLnk RL 156 mX8_game 5 := ⟨ztb 944 (by rfl) (by decide +kernel), znRX8, zcX8_game, by decide +kernel, by decide +kernel, by decide +kernel⟩
set_option maxRecDepth 40000 in
theorem zkX8_269 : zLnk RX8 269 mX8_winningMove 4 := ⟨ztb 948 (by rfl) (by decide +kernel), znRX8, zcX8_winningMove, by decide +kernel, by decide +kernel, by decide +kernel⟩
set_option maxRecDepth 40000 in
theorem zkL_160 : zLnk RL 160 mX8_spoken 2 := ⟨ztb 952 (by rfl) (by decide +kernel), znRX8, zcX8_spoken, by decide +kernel, by decide +kernel, by decide +kernel⟩
set_option maxRecDepth 40000 in
theorem zkX8_272 : zLnk RX8 272 mX7_spokenAs 2 := ⟨ztb 956 (by rfl) (by decide +kernel), znRX7, zcX7_spokenAs, by decide +kernel, by decide +kernel, by decide +kernel⟩
set_option maxRecDepth 40000 in
theorem zkX7_99 : zLnk RX7 99 mX7_forbidsNow 2 := ⟨ztb 960 (by rfl) (by decide +kernel), znRX7, zcX7_forbidsNow, by decide +kernel, by decide +kernel, by decide +kernel⟩
set_option maxRecDepth 40000 in
theorem zkL_164 : zLnk RL 164 mX8_carried 3 := ⟨ztb 961 (by rfl) (by decide +kernel), znRX8, zcX8_carried, by decide +kernel, by decide +kernel, by decide +kernel⟩
set_option maxRecDepth 40000 in
theorem zkX8_275 : zLnk RX8 275 mX8_splitRow 2 := ⟨ztb 965 (by rfl) (by decide +kernel), znRX8, zcX8_splitRow, by decide +kernel, by decide +kernel, by decide +kernel⟩
set_option maxRecDepth 40000 in
theorem zkL_168 : zLnk RL 168 mX8_near 3 := ⟨ztb 969 (by rfl) (by decide +kernel), znRX8, zcX8_near, by decide +kernel, by decide +kernel, by decide +kernel⟩
set_option maxRecDepth 40000 in
theorem zkX8_278 : zLnk RX8 278 mX4_isPaid 1 := ⟨ztb 973 (by rfl) (by decide +kernel), znRX4, zcX4_isPaid, by decide +kernel, by decide +kernel, by decide +kernel⟩
set_option maxRecDepth 40000 in
theorem zkL_172 : zLnk RL 172 mX8_joint 4 := ⟨ztb 974 (by rfl) (by decide +kernel), znRX8, zcX8_joint, by decide +kernel, by decide +kernel, by decide +kernel⟩
set_option maxRecDepth 40000 in
theorem zkX8_284 : zLnk RX8 284 mX7_barAlso 2 := ⟨ztb 978 (by rfl) (by decide +kernel), znRX7, zcX7_barAlso, by decide +kernel, by decide +kernel, by decide +kernel⟩
set_option maxRecDepth 40000 in
theorem zkL_176 : zLnk RL 176 mX8_worst 3 := ⟨ztb 982 (by rfl) (by decide +kernel), znRX8, zcX8_worst, by decide +kernel, by decide +kernel, by decide +kernel⟩
set_option maxRecDepth 40000 in
theorem zkL_180 : zLnk RL 180 mX8_owes 0 := ⟨ztb 986 (by rfl) (by decide +kernel), znRX8, zcX8_owes, by decide +kernel, by decide +kernel, by decide +kernel⟩
set_option maxRecDepth 40000 in
theorem zkL_184 : zLnk RL 184 mX8_calendar 2 := ⟨ztb 990 (by rfl) (by decide +kernel), znRX8, zcX8_calendar, by decide +kernel, by decide +kernel, by decide +kernel⟩
set_option maxRecDepth 40000 in
theorem zkX8_296 : zLnk RX8 296 mX7_dateBehind 3 := ⟨ztb 994 (by rfl) (by decide +kernel), znRX7, zcX7_dateBehind, by decide +kernel, by decide +kernel, by decide +kernel⟩
set_option maxRecDepth 40000 in
theorem zkX7_103 : zLnk RX7 103 mJ9_min_7cf53 2 := ⟨ztb 998 (by rfl) (by decide +kernel), znRJ9, zcJ9_min_7cf53, by decide +kernel, by decide +kernel, by decide +kernel⟩
set_option maxRecDepth 40000 in
theorem zkX7_108 : zLnk RX7 108 mX7_dateFrom 3 := ⟨ztb 999 (by rfl) (by decide +kernel), znRX7, zcX7_dateFrom, by decide +kernel, by decide +kernel, by decide +kernel⟩
set_option maxRecDepth 40000 in
theorem zkL_188 : zLnk RL 188 mX8_twins 3 := ⟨ztb 1000 (by rfl) (by decide +kernel), znRX8, zcX8_twins, by decide +kernel, by decide +kernel, by decide +kernel⟩
set_option maxRecDepth 40000 in
theorem zkL_192 : zLnk RL 192 mX8_image 0 := ⟨ztb 1004 (by rfl) (by decide +kernel), znRX8, zcX8_image, by decide +kernel, by decide +kernel, by decide +kernel⟩
set_option maxRecDepth 40000 in
theorem zkX8_299 : zLnk RX8 299 mX3_copy 1 := ⟨ztb 1008 (by rfl) (by decide +kernel), znRX3, zcX3_copy, by decide +kernel, by decide +kernel, by decide +kernel⟩
set_option maxRecDepth 40000 in
theorem zkL_196 : zLnk RL 196 mX8_back 0 := ⟨ztb 1013 (by rfl) (by decide +kernel), znRX8, zcX8_back, by decide +kernel, by decide +kernel, by decide +kernel⟩
set_option maxRecDepth 40000 in
theorem zkL_200 : zLnk RL 200 mX8_count 1 := ⟨ztb 1017 (by rfl) (by decide +kernel), znRX8, zcX8_count, by decide +kernel, by decide +kernel, by decide +kernel⟩
set_option maxRecDepth 40000 in
theorem zkL_7 : zLnk RL 7 mX8_taboo 2 := ⟨ztb 1025 (by rfl) (by decide +kernel), znRX8, zcX8_taboo, by decide +kernel, by decide +kernel, by decide +kernel⟩
set_option maxRecDepth 40000 in
theorem zkL_18 : zLnk RL 18 mX9_init 0 := ⟨ztb 1097 (by rfl) (by decide +kernel), znRX9, zcX9_init, by decide +kernel, by decide +kernel, by decide +kernel⟩
set_option maxRecDepth 40000 in
theorem zqX9_88 : Cond.constant RX9 88 (Int32.ofInt (120600)) ∈ zTB := ztb 1103 (by rfl) (by decide +kernel)
set_option maxRecDepth 40000 in
theorem zfX9_128 : zFld RX9 128 9 0 := ⟨by decide, by decide, ztb 1104 (by rfl) (by decide +kernel)⟩
set_option maxRecDepth 40000 in
theorem zfX9_9 : zFld RX9 9 9 1 := ⟨by decide, by decide, ztb 1105 (by rfl) (by decide +kernel)⟩
set_option maxRecDepth 40000 in
theorem zfX9_13 : zFld RX9 13 9 2 := ⟨by decide, by decide, ztb 1106 (by rfl) (by decide +kernel)⟩
set_option maxRecDepth 40000 in
theorem zfX9_16 : zFld RX9 16 9 3 := ⟨by decide, by decide, ztb 1107 (by rfl) (by decide +kernel)⟩
set_option maxRecDepth 40000 in
theorem zfX9_20 : zFld RX9 20 9 4 := ⟨by decide, by decide, ztb 1108 (by rfl) (by decide +kernel)⟩
set_option maxRecDepth 40000 in
theorem zfX9_23 : zFld RX9 23 9 5 := ⟨by decide, by decide, ztb 1109 (by rfl) (by decide +kernel)⟩
set_option maxRecDepth 40000 in
theorem zfX9_141 : zFld RX9 141 9 6 := ⟨by decide, by decide, ztb 1110 (by rfl) (by decide +kernel)⟩
set_option maxRecDepth 40000 in
theorem zfX9_271 : zFld RX9 271 9 7 := ⟨by decide, by decide, ztb 1111 (by rfl) (by decide +kernel)⟩
set_option maxRecDepth 40000 in
theorem zfX9_157 : zFld RX9 157 9 8 := ⟨by decide, by decide, ztb 1112 (by rfl) (by decide +kernel)⟩
set_option maxRecDepth 40000 in
theorem zfX9_154 : zFld RX9 154 9 9 := ⟨by decide, by decide, ztb 1113 (by rfl) (by decide +kernel)⟩
set_option maxRecDepth 40000 in
theorem zfX9_151 : zFld RX9 151 9 10 := ⟨by decide, by decide, ztb 1114 (by rfl) (by decide +kernel)⟩
set_option maxRecDepth 40000 in
theorem zfX9_160 : zFld RX9 160 9 11 := ⟨by decide, by decide, ztb 1115 (by rfl) (by decide +kernel)⟩
set_option maxRecDepth 40000 in
theorem zfX9_163 : zFld RX9 163 9 12 := ⟨by decide, by decide, ztb 1116 (by rfl) (by decide +kernel)⟩
set_option maxRecDepth 40000 in
theorem zfX9_233 : zFld RX9 233 9 13 := ⟨by decide, by decide, ztb 1117 (by rfl) (by decide +kernel)⟩
set_option maxRecDepth 40000 in
theorem zfX9_236 : zFld RX9 236 9 14 := ⟨by decide, by decide, ztb 1118 (by rfl) (by decide +kernel)⟩
set_option maxRecDepth 40000 in
theorem zfX9_28 : zFld RX9 28 9 15 := ⟨by decide, by decide, ztb 1119 (by rfl) (by decide +kernel)⟩
set_option maxRecDepth 40000 in
theorem zfX9_34 : zFld RX9 34 9 16 := ⟨by decide, by decide, ztb 1120 (by rfl) (by decide +kernel)⟩
set_option maxRecDepth 40000 in
theorem zfX9_229 : zFld RX9 229 9 17 := ⟨by decide, by decide, ztb 1121 (by rfl) (by decide +kernel)⟩
set_option maxRecDepth 40000 in
theorem zfX9_37 : zFld RX9 37 9 18 := ⟨by decide, by decide, ztb 1122 (by rfl) (by decide +kernel)⟩
set_option maxRecDepth 40000 in
theorem zfX9_40 : zFld RX9 40 9 19 := ⟨by decide, by decide, ztb 1123 (by rfl) (by decide +kernel)⟩
set_option maxRecDepth 40000 in
theorem zfX9_43 : zFld RX9 43 9 20 := ⟨by decide, by decide, ztb 1124 (by rfl) (by decide +kernel)⟩
set_option maxRecDepth 40000 in
theorem zfX9_46 : zFld RX9 46 9 21 := ⟨by decide, by decide, ztb 1125 (by rfl) (by decide +kernel)⟩
set_option maxRecDepth 40000 in
theorem zfX9_276 : zFld RX9 276 9 22 := ⟨by decide, by decide, ztb 1126 (by rfl) (by decide +kernel)⟩
set_option maxRecDepth 40000 in
theorem zfX9_249 : zFld RX9 249 9 23 := ⟨by decide, by decide, ztb 1127 (by rfl) (by decide +kernel)⟩
set_option maxRecDepth 40000 in
theorem zfX9_49 : zFld RX9 49 9 24 := ⟨by decide, by decide, ztb 1128 (by rfl) (by decide +kernel)⟩
set_option maxRecDepth 40000 in
theorem zfX9_52 : zFld RX9 52 9 25 := ⟨by decide, by decide, ztb 1129 (by rfl) (by decide +kernel)⟩
set_option maxRecDepth 40000 in
theorem zfX9_55 : zFld RX9 55 9 26 := ⟨by decide, by decide, ztb 1130 (by rfl) (by decide +kernel)⟩
set_option maxRecDepth 40000 in
theorem zfX9_58 : zFld RX9 58 9 27 := ⟨by decide, by decide, ztb 1131 (by rfl) (by decide +kernel)⟩
set_option maxRecDepth 40000 in
theorem zfX9_282 : zFld RX9 282 9 28 := ⟨by decide, by decide, ztb 1132 (by rfl) (by decide +kernel)⟩
set_option maxRecDepth 40000 in
theorem zfX9_288 : zFld RX9 288 9 29 := ⟨by decide, by decide, ztb 1133 (by rfl) (by decide +kernel)⟩
set_option maxRecDepth 40000 in
theorem zfX9_61 : zFld RX9 61 9 30 := ⟨by decide, by decide, ztb 1134 (by rfl) (by decide +kernel)⟩
set_option maxRecDepth 40000 in
theorem zfX9_296 : zFld RX9 296 9 31 := ⟨by decide, by decide, ztb 1135 (by rfl) (by decide +kernel)⟩
set_option maxRecDepth 40000 in
theorem zfX9_65 : zFld RX9 65 9 32 := ⟨by decide, by decide, ztb 1136 (by rfl) (by decide +kernel)⟩
set_option maxRecDepth 40000 in
theorem zfX9_68 : zFld RX9 68 9 33 := ⟨by decide, by decide, ztb 1137 (by rfl) (by decide +kernel)⟩
set_option maxRecDepth 40000 in
theorem zfX9_72 : zFld RX9 72 9 34 := ⟨by decide, by decide, ztb 1138 (by rfl) (by decide +kernel)⟩
set_option maxRecDepth 40000 in
theorem zfX9_75 : zFld RX9 75 9 35 := ⟨by decide, by decide, ztb 1139 (by rfl) (by decide +kernel)⟩
set_option maxRecDepth 40000 in
theorem zfX9_79 : zFld RX9 79 9 36 := ⟨by decide, by decide, ztb 1140 (by rfl) (by decide +kernel)⟩
set_option maxRecDepth 40000 in
theorem zfX9_82 : zFld RX9 82 9 37 := ⟨by decide, by decide, ztb 1141 (by rfl) (by decide +kernel)⟩
set_option maxRecDepth 40000 in
theorem zfX9_85 : zFld RX9 85 9 38 := ⟨by decide, by decide, ztb 1142 (by rfl) (by decide +kernel)⟩
set_option maxRecDepth 40000 in
theorem zfX9_279 : zFld RX9 279 9 39 := ⟨by decide, by decide, ztb 1143 (by rfl) (by decide +kernel)⟩
set_option maxRecDepth 40000 in
theorem zfX9_89 : zFld RX9 89 9 40 := ⟨by decide, by decide, ztb 1144 (by rfl) (by decide +kernel)⟩
set_option maxRecDepth 40000 in
theorem zfX9_92 : zFld RX9 92 9 41 := ⟨by decide, by decide, ztb 1145 (by rfl) (by decide +kernel)⟩
set_option maxRecDepth 40000 in
theorem zfX9_95 : zFld RX9 95 9 42 := ⟨by decide, by decide, ztb 1146 (by rfl) (by decide +kernel)⟩
set_option maxRecDepth 40000 in
theorem zfX9_98 : zFld RX9 98 9 43 := ⟨by decide, by decide, ztb 1147 (by rfl) (by decide +kernel)⟩
set_option maxRecDepth 40000 in
theorem zfX9_101 : zFld RX9 101 9 44 := ⟨by decide, by decide, ztb 1148 (by rfl) (by decide +kernel)⟩
set_option maxRecDepth 40000 in
theorem zfX9_395 : zFld RX9 395 9 45 := ⟨by decide, by decide, ztb 1149 (by rfl) (by decide +kernel)⟩
set_option maxRecDepth 40000 in
theorem zfX9_402 : zFld RX9 402 9 46 := ⟨by decide, by decide, ztb 1150 (by rfl) (by decide +kernel)⟩
set_option maxRecDepth 40000 in
theorem zfX9_416 : zFld RX9 416 9 47 := ⟨by decide, by decide, ztb 1151 (by rfl) (by decide +kernel)⟩
set_option maxRecDepth 40000 in
theorem zfX9_104 : zFld RX9 104 9 48 := ⟨by decide, by decide, ztb 1152 (by rfl) (by decide +kernel)⟩
set_option maxRecDepth 40000 in
theorem zfX9_107 : zFld RX9 107 9 49 := ⟨by decide, by decide, ztb 1153 (by rfl) (by decide +kernel)⟩
set_option maxRecDepth 40000 in
theorem zfX9_110 : zFld RX9 110 9 50 := ⟨by decide, by decide, ztb 1154 (by rfl) (by decide +kernel)⟩
set_option maxRecDepth 40000 in
theorem zfX9_285 : zFld RX9 285 9 51 := ⟨by decide, by decide, ztb 1155 (by rfl) (by decide +kernel)⟩
set_option maxRecDepth 40000 in
theorem zfX9_113 : zFld RX9 113 9 52 := ⟨by decide, by decide, ztb 1156 (by rfl) (by decide +kernel)⟩
set_option maxRecDepth 40000 in
theorem zfX9_116 : zFld RX9 116 9 53 := ⟨by decide, by decide, ztb 1157 (by rfl) (by decide +kernel)⟩
set_option maxRecDepth 40000 in
theorem zfX9_119 : zFld RX9 119 9 54 := ⟨by decide, by decide, ztb 1158 (by rfl) (by decide +kernel)⟩
set_option maxRecDepth 40000 in
theorem zfX9_122 : zFld RX9 122 9 55 := ⟨by decide, by decide, ztb 1159 (by rfl) (by decide +kernel)⟩
set_option maxRecDepth 40000 in
theorem zfX9_125 : zFld RX9 125 9 56 := ⟨by decide, by decide, ztb 1160 (by rfl) (by decide +kernel)⟩
set_option maxRecDepth 40000 in
theorem zfX9_449 : zFld RX9 449 9 57 := ⟨by decide, by decide, ztb 1161 (by rfl) (by decide +kernel)⟩
set_option maxRecDepth 40000 in
theorem zfX9_452 : zFld RX9 452 9 58 := ⟨by decide, by decide, ztb 1162 (by rfl) (by decide +kernel)⟩
set_option maxRecDepth 40000 in
theorem zfX9_455 : zFld RX9 455 9 59 := ⟨by decide, by decide, ztb 1163 (by rfl) (by decide +kernel)⟩
set_option maxRecDepth 40000 in
theorem zfX9_291 : zFld RX9 291 9 60 := ⟨by decide, by decide, ztb 1164 (by rfl) (by decide +kernel)⟩
set_option maxRecDepth 40000 in
theorem zkL_44 : zLnk RL 44 mX9_thrown 0 := ⟨ztb 1288 (by rfl) (by decide +kernel), znRX9, zcX9_thrown, by decide +kernel, by decide +kernel, by decide +kernel⟩
set_option maxRecDepth 40000 in
theorem zkL_23 : zLnk RL 23 mX9_feed 5 := ⟨ztb 1292 (by rfl) (by decide +kernel), znRX9, zcX9_feed, by decide +kernel, by decide +kernel, by decide +kernel⟩
set_option maxRecDepth 40000 in
theorem zkX9_143 : zLnk RX9 143 mX9_bytesIn 1 := ⟨ztb 1296 (by rfl) (by decide +kernel), znRX9, zcX9_bytesIn, by decide +kernel, by decide +kernel, by decide +kernel⟩
set_option maxRecDepth 40000 in
theorem zkX9_147 : zLnk RX9 147 mX9_put 1 := ⟨ztb 1299 (by rfl) (by decide +kernel), znRX9, zcX9_put, by decide +kernel, by decide +kernel, by decide +kernel⟩
set_option maxRecDepth 40000 in
theorem zkL_28 : zLnk RL 28 mX9_end 1 := ⟨ztb 1303 (by rfl) (by decide +kernel), znRX9, zcX9_end, by decide +kernel, by decide +kernel, by decide +kernel⟩
set_option maxRecDepth 40000 in
theorem zkL_33 : zLnk RL 33 mX9_fault 1 := ⟨ztb 1307 (by rfl) (by decide +kernel), znRX9, zcX9_fault, by decide +kernel, by decide +kernel, by decide +kernel⟩
set_option maxRecDepth 40000 in
theorem zkX9_261 : zLnk RX9 261 mX9_isIn 3 := ⟨ztb 1311 (by rfl) (by decide +kernel), znRX9, zcX9_isIn, by decide +kernel, by decide +kernel, by decide +kernel⟩
set_option maxRecDepth 40000 in
theorem zkX9_265 : zLnk RX9 265 mX9_readIsles 0 := ⟨ztb 1314 (by rfl) (by decide +kernel), znRX9, zcX9_readIsles, by decide +kernel, by decide +kernel, by decide +kernel⟩
set_option maxRecDepth 40000 in
theorem zkX9_239 : zLnk RX9 239 mX9_opens 3 := ⟨ztb 1318 (by rfl) (by decide +kernel), znRX9, zcX9_opens, by decide +kernel, by decide +kernel, by decide +kernel⟩
set_option maxRecDepth 40000 in
theorem zkX9_255 : zLnk RX9 255 mX9_twoDigits 0 := ⟨ztb 1322 (by rfl) (by decide +kernel), znRX9, zcX9_twoDigits, by decide +kernel, by decide +kernel, by decide +kernel⟩
set_option maxRecDepth 40000 in
theorem zkX9_170 : zLnk RX9 170 mX9_look 0 := ⟨ztb 1326 (by rfl) (by decide +kernel), znRX9, zcX9_look, by decide +kernel, by decide +kernel, by decide +kernel⟩
set_option maxRecDepth 40000 in
theorem zkX9_200 : zLnk RX9 200 mX9_isDigit 0 := ⟨ztb 1330 (by rfl) (by decide +kernel), znRX9, zcX9_isDigit, by decide +kernel, by decide +kernel, by decide +kernel⟩
set_option maxRecDepth 40000 in
theorem zkX9_166 : zLnk RX9 166 mX9_fails 0 := ⟨ztb 1334 (by rfl) (by decide +kernel), znRX9, zcX9_fails, by decide +kernel, by decide +kernel, by decide +kernel⟩
set_option maxRecDepth 40000 in
theorem zkX9_246 : zLnk RX9 246 mX9_here 0 := ⟨ztb 1338 (by rfl) (by decide +kernel), znRX9, zcX9_here, by decide +kernel, by decide +kernel, by decide +kernel⟩
set_option maxRecDepth 40000 in
theorem zkX9_258 : zLnk RX9 258 mX9_readWay 0 := ⟨ztb 1342 (by rfl) (by decide +kernel), znRX9, zcX9_readWay, by decide +kernel, by decide +kernel, by decide +kernel⟩
set_option maxRecDepth 40000 in
theorem zkX9_252 : zLnk RX9 252 mX9_isIsleLetter 1 := ⟨ztb 1346 (by rfl) (by decide +kernel), znRX9, zcX9_isIsleLetter, by decide +kernel, by decide +kernel, by decide +kernel⟩
set_option maxRecDepth 40000 in
theorem zkX9_268 : zLnk RX9 268 mX9_goThrough 3 := ⟨ztb 1350 (by rfl) (by decide +kernel), znRX9, zcX9_goThrough, by decide +kernel, by decide +kernel, by decide +kernel⟩
set_option maxRecDepth 40000 in
theorem zkX9_243 : zLnk RX9 243 mX9_clause 0 := ⟨ztb 1354 (by rfl) (by decide +kernel), znRX9, zcX9_clause, by decide +kernel, by decide +kernel, by decide +kernel⟩
set_option maxRecDepth 40000 in
theorem zkX9_186 : zLnk RX9 186 mX9_isAmong 2 := ⟨ztb 1358 (by rfl) (by decide +kernel), znRX9, zcX9_isAmong, by decide +kernel, by decide +kernel, by decide +kernel⟩
set_option maxRecDepth 40000 in
theorem zkX9_131 : zLnk RX9 131 mJ0_length_8abf5 0 := ⟨ztb 1361 (by rfl) (by decide +kernel), znRJ0, zcJ0_length_8abf5, by decide +kernel, by decide +kernel, by decide +kernel⟩
set_option maxRecDepth 40000 in
theorem zkJ0_335 : zLnk RJ0 335 mJ0_coder_7d493 0 := ⟨ztb 1365 (by rfl) (by decide +kernel), znRJ0, zcJ0_coder_7d493, by decide +kernel, by decide +kernel, by decide +kernel⟩
set_option maxRecDepth 40000 in
theorem zkX9_137 : zLnk RX9 137 mJ0_charAt_5068e 1 := ⟨ztb 1371 (by rfl) (by decide +kernel), znRJ0, zcJ0_charAt_5068e, by decide +kernel, by decide +kernel, by decide +kernel⟩
set_option maxRecDepth 40000 in
theorem zkJ0_492 : zLnk RJ0 492 mJ0_isLatin1_aae02 0 := ⟨ztb 1375 (by rfl) (by decide +kernel), znRJ0, zcJ0_isLatin1_aae02, by decide +kernel, by decide +kernel, by decide +kernel⟩
set_option maxRecDepth 40000 in
theorem zkJ0_495 : zLnk RJ0 495 mJ1_charAt_3b067 2 := ⟨ztb 1379 (by rfl) (by decide +kernel), znRJ1, zcJ1_charAt_3b067, by decide +kernel, by decide +kernel, by decide +kernel⟩
set_option maxRecDepth 40000 in
theorem zkJ1_9 : zLnk RJ1 9 mJ0_checkIndex_df160 2 := ⟨ztb 1382 (by rfl) (by decide +kernel), znRJ0, zcJ0_checkIndex_df160, by decide +kernel, by decide +kernel, by decide +kernel⟩
set_option maxRecDepth 40000 in
theorem zkJ0_1059 : zLnk RJ0 1059 mJ3_checkIndex_8e157 3 := ⟨ztb 1387 (by rfl) (by decide +kernel), znRJ3, zcJ3_checkIndex_8e157, by decide +kernel, by decide +kernel, by decide +kernel⟩
set_option maxRecDepth 40000 in
theorem zkJ0_498 : zLnk RJ0 498 mJ2_charAt_3b067 2 := ⟨ztb 1390 (by rfl) (by decide +kernel), znRJ2, zcJ2_charAt_3b067, by decide +kernel, by decide +kernel, by decide +kernel⟩
set_option maxRecDepth 40000 in
theorem zkJ2_67 : zLnk RJ2 67 mJ2_checkIndex_2214a 2 := ⟨ztb 1393 (by rfl) (by decide +kernel), znRJ2, zcJ2_checkIndex_2214a, by decide +kernel, by decide +kernel, by decide +kernel⟩
set_option maxRecDepth 40000 in
theorem zkJ2_48 : zLnk RJ2 48 mJ2_length_9d52b 1 := ⟨ztb 1396 (by rfl) (by decide +kernel), znRJ2, zcJ2_length_9d52b, by decide +kernel, by decide +kernel, by decide +kernel⟩
set_option maxRecDepth 40000 in
theorem zkJ2_414 : zLnk RJ2 414 mJ0_checkIndex_df160 2 := ⟨ztb 1399 (by rfl) (by decide +kernel), znRJ0, zcJ0_checkIndex_df160, by decide +kernel, by decide +kernel, by decide +kernel⟩
set_option maxRecDepth 40000 in
theorem zkJ2_71 : zLnk RJ2 71 mJ2_getChar_3b067 2 := ⟨ztb 1400 (by rfl) (by decide +kernel), znRJ2, zcJ2_getChar_3b067, by decide +kernel, by decide +kernel, by decide +kernel⟩
set_option maxRecDepth 40000 in
theorem zkX9_196 : zLnk RX9 196 mX9_takes 1 := ⟨ztb 1409 (by rfl) (by decide +kernel), znRX9, zcX9_takes, by decide +kernel, by decide +kernel, by decide +kernel⟩
set_option maxRecDepth 40000 in
theorem zkX9_219 : zLnk RX9 219 mX9_condition 2 := ⟨ztb 1413 (by rfl) (by decide +kernel), znRX9, zcX9_condition, by decide +kernel, by decide +kernel, by decide +kernel⟩
set_option maxRecDepth 40000 in
theorem zkX9_226 : zLnk RX9 226 mX9_part 2 := ⟨ztb 1417 (by rfl) (by decide +kernel), znRX9, zcX9_part, by decide +kernel, by decide +kernel, by decide +kernel⟩
set_option maxRecDepth 40000 in
theorem zkX9_223 : zLnk RX9 223 mX9_compares 2 := ⟨ztb 1421 (by rfl) (by decide +kernel), znRX9, zcX9_compares, by decide +kernel, by decide +kernel, by decide +kernel⟩
set_option maxRecDepth 40000 in
theorem zkX9_193 : zLnk RX9 193 mX9_sum 0 := ⟨ztb 1425 (by rfl) (by decide +kernel), znRX9, zcX9_sum, by decide +kernel, by decide +kernel, by decide +kernel⟩
set_option maxRecDepth 40000 in
theorem zkX9_210 : zLnk RX9 210 mX9_term 0 := ⟨ztb 1429 (by rfl) (by decide +kernel), znRX9, zcX9_term, by decide +kernel, by decide +kernel, by decide +kernel⟩
set_option maxRecDepth 40000 in
theorem zkX9_203 : zLnk RX9 203 mX9_atom 0 := ⟨ztb 1433 (by rfl) (by decide +kernel), znRX9, zcX9_atom, by decide +kernel, by decide +kernel, by decide +kernel⟩
set_option maxRecDepth 40000 in
theorem zkX9_190 : zLnk RX9 190 mX9_goesIn 0 := ⟨ztb 1437 (by rfl) (by decide +kernel), znRX9, zcX9_goesIn, by decide +kernel, by decide +kernel, by decide +kernel⟩
set_option maxRecDepth 40000 in
theorem zkX9_206 : zLnk RX9 206 mX9_within 1 := ⟨ztb 1441 (by rfl) (by decide +kernel), znRX9, zcX9_within, by decide +kernel, by decide +kernel, by decide +kernel⟩
set_option maxRecDepth 40000 in
theorem zqX9_173 : Cond.constantLong RX9 173 (Int64.ofInt (-1000000)) ∈ zTB := ztb 1444 (by rfl) (by decide +kernel)
set_option maxRecDepth 40000 in
theorem zqX9_175 : Cond.constantLong RX9 175 (Int64.ofInt (1000000)) ∈ zTB := ztb 1445 (by rfl) (by decide +kernel)
set_option maxRecDepth 40000 in
theorem zkX9_177 : zLnk RX9 177 mJ9_min_f86c9 2 := ⟨ztb 1446 (by rfl) (by decide +kernel), znRJ9, zcJ9_min_f86c9, by decide +kernel, by decide +kernel, by decide +kernel⟩
set_option maxRecDepth 40000 in
theorem zkX9_183 : zLnk RX9 183 mJ9_max_f86c9 2 := ⟨ztb 1449 (by rfl) (by decide +kernel), znRJ9, zcJ9_max_f86c9, by decide +kernel, by decide +kernel, by decide +kernel⟩
set_option maxRecDepth 40000 in
theorem zkX9_213 : zLnk RX9 213 mX9_isSign 1 := ⟨ztb 1452 (by rfl) (by decide +kernel), znRX9, zcX9_isSign, by decide +kernel, by decide +kernel, by decide +kernel⟩
set_option maxRecDepth 40000 in
theorem zkX9_216 : zLnk RX9 216 mX9_unit 0 := ⟨ztb 1455 (by rfl) (by decide +kernel), znRX9, zcX9_unit, by decide +kernel, by decide +kernel, by decide +kernel⟩
set_option maxRecDepth 40000 in
theorem zkL_37 : zLnk RL 37 mX9_text 1 := ⟨ztb 1459 (by rfl) (by decide +kernel), znRX9, zcX9_text, by decide +kernel, by decide +kernel, by decide +kernel⟩
set_option maxRecDepth 40000 in
theorem zkX9_274 : zLnk RX9 274 mX9_fault 1 := ⟨ztb 1463 (by rfl) (by decide +kernel), znRX9, zcX9_fault, by decide +kernel, by decide +kernel, by decide +kernel⟩
set_option maxRecDepth 40000 in
theorem zkL_43 : zLnk RL 43 mX9_taboo 2 := ⟨ztb 1464 (by rfl) (by decide +kernel), znRX9, zcX9_taboo, by decide +kernel, by decide +kernel, by decide +kernel⟩
set_option maxRecDepth 40000 in
theorem zkX9_299 : zLnk RX9 299 mX9_isIsle 1 := ⟨ztb 1468 (by rfl) (by decide +kernel), znRX9, zcX9_isIsle, by decide +kernel, by decide +kernel, by decide +kernel⟩
set_option maxRecDepth 40000 in
theorem zkX9_302 : zLnk RX9 302 mX9_isDay 1 := ⟨ztb 1472 (by rfl) (by decide +kernel), znRX9, zcX9_isDay, by decide +kernel, by decide +kernel, by decide +kernel⟩
set_option maxRecDepth 40000 in
theorem zqX9_294 : Cond.constantLong RX9 294 (Int64.ofInt (99)) ∈ zTB := ztb 1475 (by rfl) (by decide +kernel)
set_option maxRecDepth 40000 in
theorem zkX9_305 : zLnk RX9 305 mX9_tabooOn 2 := ⟨ztb 1476 (by rfl) (by decide +kernel), znRX9, zcX9_tabooOn, by decide +kernel, by decide +kernel, by decide +kernel⟩
set_option maxRecDepth 40000 in
theorem zkL_51 : zLnk RL 51 mX9_way 2 := ⟨ztb 1480 (by rfl) (by decide +kernel), znRX9, zcX9_way, by decide +kernel, by decide +kernel, by decide +kernel⟩
set_option maxRecDepth 40000 in
theorem zkL_56 : zLnk RL 56 mX9_custom 2 := ⟨ztb 1484 (by rfl) (by decide +kernel), znRX9, zcX9_custom, by decide +kernel, by decide +kernel, by decide +kernel⟩
set_option maxRecDepth 40000 in
theorem zkL_61 : zLnk RL 61 mX9_forbidden 3 := ⟨ztb 1488 (by rfl) (by decide +kernel), znRX9, zcX9_forbidden, by decide +kernel, by decide +kernel, by decide +kernel⟩
set_option maxRecDepth 40000 in
theorem zqX9_309 : Cond.constantLong RX9 309 (Int64.ofInt (999)) ∈ zTB := ztb 1492 (by rfl) (by decide +kernel)
set_option maxRecDepth 40000 in
theorem zkX9_311 : zLnk RX9 311 mX9_isForbidden 3 := ⟨ztb 1493 (by rfl) (by decide +kernel), znRX9, zcX9_isForbidden, by decide +kernel, by decide +kernel, by decide +kernel⟩
set_option maxRecDepth 40000 in
theorem zkL_65 : zLnk RL 65 mX9_hand 1 := ⟨ztb 1497 (by rfl) (by decide +kernel), znRX9, zcX9_hand, by decide +kernel, by decide +kernel, by decide +kernel⟩
set_option maxRecDepth 40000 in
theorem zqX9_315 : Cond.constantLong RX9 315 (Int64.ofInt (20)) ∈ zTB := ztb 1501 (by rfl) (by decide +kernel)
set_option maxRecDepth 40000 in
theorem zkL_70 : zLnk RL 70 mX9_pay 4 := ⟨ztb 1502 (by rfl) (by decide +kernel), znRX9, zcX9_pay, by decide +kernel, by decide +kernel, by decide +kernel⟩
set_option maxRecDepth 40000 in
theorem zqX9_332 : Cond.constantLong RX9 332 (Int64.ofInt (200)) ∈ zTB := ztb 1506 (by rfl) (by decide +kernel)
set_option maxRecDepth 40000 in
theorem zkX9_334 : zLnk RX9 334 mX9_areRules 1 := ⟨ztb 1507 (by rfl) (by decide +kernel), znRX9, zcX9_areRules, by decide +kernel, by decide +kernel, by decide +kernel⟩
set_option maxRecDepth 40000 in
theorem zqX9_330 : Cond.constantLong RX9 330 (Int64.ofInt (7)) ∈ zTB := ztb 1510 (by rfl) (by decide +kernel)
set_option maxRecDepth 40000 in
theorem zkX9_337 : zLnk RX9 337 mX9_layBad 2 := ⟨ztb 1511 (by rfl) (by decide +kernel), znRX9, zcX9_layBad, by decide +kernel, by decide +kernel, by decide +kernel⟩
set_option maxRecDepth 40000 in
theorem zkX9_341 : zLnk RX9 341 mX9_layGoes 2 := ⟨ztb 1515 (by rfl) (by decide +kernel), znRX9, zcX9_layGoes, by decide +kernel, by decide +kernel, by decide +kernel⟩
set_option maxRecDepth 40000 in
theorem zkX9_321 : zLnk RX9 321 mX9_can 2 := ⟨ztb 1519 (by rfl) (by decide +kernel), znRX9, zcX9_can, by decide +kernel, by decide +kernel, by decide +kernel⟩
set_option maxRecDepth 40000 in
theorem zkX9_324 : zLnk RX9 324 mX9_isPart 2 := ⟨ztb 1523 (by rfl) (by decide +kernel), znRX9, zcX9_isPart, by decide +kernel, by decide +kernel, by decide +kernel⟩
set_option maxRecDepth 40000 in
theorem zkX9_317 : zLnk RX9 317 mX9_has 2 := ⟨ztb 1527 (by rfl) (by decide +kernel), znRX9, zcX9_has, by decide +kernel, by decide +kernel, by decide +kernel⟩
set_option maxRecDepth 40000 in
theorem zkX9_327 : zLnk RX9 327 mX9_isTotal 2 := ⟨ztb 1530 (by rfl) (by decide +kernel), znRX9, zcX9_isTotal, by decide +kernel, by decide +kernel, by decide +kernel⟩
set_option maxRecDepth 40000 in
theorem zkX9_344 : zLnk RX9 344 mX9_isCount 2 := ⟨ztb 1534 (by rfl) (by decide +kernel), znRX9, zcX9_isCount, by decide +kernel, by decide +kernel, by decide +kernel⟩
set_option maxRecDepth 40000 in
theorem zkX9_347 : zLnk RX9 347 mJ9_min_7cf53 2 := ⟨ztb 1538 (by rfl) (by decide +kernel), znRJ9, zcJ9_min_7cf53, by decide +kernel, by decide +kernel, by decide +kernel⟩
set_option maxRecDepth 40000 in
theorem zkL_75 : zLnk RL 75 mX9_ways 4 := ⟨ztb 1539 (by rfl) (by decide +kernel), znRX9, zcX9_ways, by decide +kernel, by decide +kernel, by decide +kernel⟩
set_option maxRecDepth 40000 in
theorem zqX9_349 : Cond.constantLong RX9 349 (Int64.ofInt (8)) ∈ zTB := ztb 1543 (by rfl) (by decide +kernel)
set_option maxRecDepth 40000 in
theorem zqX9_351 : Cond.constantLong RX9 351 (Int64.ofInt (-1)) ∈ zTB := ztb 1544 (by rfl) (by decide +kernel)
set_option maxRecDepth 40000 in
theorem zkL_79 : zLnk RL 79 mX9_cant 3 := ⟨ztb 1545 (by rfl) (by decide +kernel), znRX9, zcX9_cant, by decide +kernel, by decide +kernel, by decide +kernel⟩
set_option maxRecDepth 40000 in
theorem zkX9_353 : zLnk RX9 353 mX9_layComes 1 := ⟨ztb 1549 (by rfl) (by decide +kernel), znRX9, zcX9_layComes, by decide +kernel, by decide +kernel, by decide +kernel⟩
set_option maxRecDepth 40000 in
theorem zkX9_356 : zLnk RX9 356 mX9_isPaid 2 := ⟨ztb 1553 (by rfl) (by decide +kernel), znRX9, zcX9_isPaid, by decide +kernel, by decide +kernel, by decide +kernel⟩
set_option maxRecDepth 40000 in
theorem zkL_83 : zLnk RL 83 mX9_family 3 := ⟨ztb 1557 (by rfl) (by decide +kernel), znRX9, zcX9_family, by decide +kernel, by decide +kernel, by decide +kernel⟩
set_option maxRecDepth 40000 in
theorem zqX9_362 : Cond.constantLong RX9 362 (Int64.ofInt (30)) ∈ zTB := ztb 1561 (by rfl) (by decide +kernel)
set_option maxRecDepth 40000 in
theorem zkX9_359 : zLnk RX9 359 mX9_lands 3 := ⟨ztb 1562 (by rfl) (by decide +kernel), znRX9, zcX9_lands, by decide +kernel, by decide +kernel, by decide +kernel⟩
set_option maxRecDepth 40000 in
theorem zkL_87 : zLnk RL 87 mX9_splits 2 := ⟨ztb 1566 (by rfl) (by decide +kernel), znRX9, zcX9_splits, by decide +kernel, by decide +kernel, by decide +kernel⟩
set_option maxRecDepth 40000 in
theorem zkX9_364 : zLnk RX9 364 mX9_splitsOf 3 := ⟨ztb 1570 (by rfl) (by decide +kernel), znRX9, zcX9_splitsOf, by decide +kernel, by decide +kernel, by decide +kernel⟩
set_option maxRecDepth 40000 in
theorem zkL_91 : zLnk RL 91 mX9_date 2 := ⟨ztb 1574 (by rfl) (by decide +kernel), znRX9, zcX9_date, by decide +kernel, by decide +kernel, by decide +kernel⟩
set_option maxRecDepth 40000 in
theorem zkL_95 : zLnk RL 95 mX9_debt 3 := ⟨ztb 1578 (by rfl) (by decide +kernel), znRX9, zcX9_debt, by decide +kernel, by decide +kernel, by decide +kernel⟩
set_option maxRecDepth 40000 in
theorem zkL_99 : zLnk RL 99 mX9_bit 3 := ⟨ztb 1582 (by rfl) (by decide +kernel), znRX9, zcX9_bit, by decide +kernel, by decide +kernel, by decide +kernel⟩
set_option maxRecDepth 40000 in
theorem zkX9_368 : zLnk RX9 368 mX9_isBit 2 := ⟨ztb 1586 (by rfl) (by decide +kernel), znRX9, zcX9_isBit, by decide +kernel, by decide +kernel, by decide +kernel⟩
set_option maxRecDepth 40000 in
theorem zkX9_371 : zLnk RX9 371 mX9_bitsOf 2 := ⟨ztb 1590 (by rfl) (by decide +kernel), znRX9, zcX9_bitsOf, by decide +kernel, by decide +kernel, by decide +kernel⟩
set_option maxRecDepth 40000 in
theorem zkL_103 : zLnk RL 103 mX9_weight 2 := ⟨ztb 1594 (by rfl) (by decide +kernel), znRX9, zcX9_weight, by decide +kernel, by decide +kernel, by decide +kernel⟩
set_option maxRecDepth 40000 in
theorem zkL_107 : zLnk RL 107 mX9_likely 3 := ⟨ztb 1598 (by rfl) (by decide +kernel), znRX9, zcX9_likely, by decide +kernel, by decide +kernel, by decide +kernel⟩
set_option maxRecDepth 40000 in
theorem zkX9_374 : zLnk RX9 374 mX9_weightOf 1 := ⟨ztb 1602 (by rfl) (by decide +kernel), znRX9, zcX9_weightOf, by decide +kernel, by decide +kernel, by decide +kernel⟩
set_option maxRecDepth 40000 in
theorem zkL_111 : zLnk RL 111 mX9_good 0 := ⟨ztb 1606 (by rfl) (by decide +kernel), znRX9, zcX9_good, by decide +kernel, by decide +kernel, by decide +kernel⟩
set_option maxRecDepth 40000 in
theorem zkL_116 : zLnk RL 116 mX9_price 3 := ⟨ztb 1610 (by rfl) (by decide +kernel), znRX9, zcX9_price, by decide +kernel, by decide +kernel, by decide +kernel⟩
set_option maxRecDepth 40000 in
theorem zkX9_377 : zLnk RX9 377 mX9_isGood 1 := ⟨ztb 1614 (by rfl) (by decide +kernel), znRX9, zcX9_isGood, by decide +kernel, by decide +kernel, by decide +kernel⟩
set_option maxRecDepth 40000 in
theorem zkL_120 : zLnk RL 120 mX9_deal 4 := ⟨ztb 1618 (by rfl) (by decide +kernel), znRX9, zcX9_deal, by decide +kernel, by decide +kernel, by decide +kernel⟩
set_option maxRecDepth 40000 in
theorem zkX9_383 : zLnk RX9 383 mX9_forgetPaid 0 := ⟨ztb 1622 (by rfl) (by decide +kernel), znRX9, zcX9_forgetPaid, by decide +kernel, by decide +kernel, by decide +kernel⟩
set_option maxRecDepth 40000 in
theorem zqX9_386 : Cond.constantLong RX9 386 (Int64.ofInt (6)) ∈ zTB := ztb 1626 (by rfl) (by decide +kernel)
set_option maxRecDepth 40000 in
theorem zkX9_388 : zLnk RX9 388 mX9_mayDeal 4 := ⟨ztb 1627 (by rfl) (by decide +kernel), znRX9, zcX9_mayDeal, by decide +kernel, by decide +kernel, by decide +kernel⟩
set_option maxRecDepth 40000 in
theorem zkX9_380 : zLnk RX9 380 mX9_layPaid 2 := ⟨ztb 1631 (by rfl) (by decide +kernel), znRX9, zcX9_layPaid, by decide +kernel, by decide +kernel, by decide +kernel⟩
set_option maxRecDepth 40000 in
theorem zkL_124 : zLnk RL 124 mX9_gain 5 := ⟨ztb 1635 (by rfl) (by decide +kernel), znRX9, zcX9_gain, by decide +kernel, by decide +kernel, by decide +kernel⟩
set_option maxRecDepth 40000 in
theorem zqX9_409 : Cond.constantLong RX9 409 (Int64.ofInt (3)) ∈ zTB := ztb 1639 (by rfl) (by decide +kernel)
set_option maxRecDepth 40000 in
theorem zqX9_411 : Cond.constant RX9 411 (Int32.ofInt (-1000000)) ∈ zTB := ztb 1640 (by rfl) (by decide +kernel)
set_option maxRecDepth 40000 in
theorem zkX9_405 : zLnk RX9 405 mX9_goLeg 7 := ⟨ztb 1641 (by rfl) (by decide +kernel), znRX9, zcX9_goLeg, by decide +kernel, by decide +kernel, by decide +kernel⟩
set_option maxRecDepth 40000 in
theorem zkX9_392 : zLnk RX9 392 mX9_isDeal 4 := ⟨ztb 1645 (by rfl) (by decide +kernel), znRX9, zcX9_isDeal, by decide +kernel, by decide +kernel, by decide +kernel⟩
set_option maxRecDepth 40000 in
theorem zkX9_398 : zLnk RX9 398 mX9_goOff 9 := ⟨ztb 1649 (by rfl) (by decide +kernel), znRX9, zcX9_goOff, by decide +kernel, by decide +kernel, by decide +kernel⟩
set_option maxRecDepth 40000 in
theorem zkL_128 : zLnk RL 128 mX9_today 1 := ⟨ztb 1653 (by rfl) (by decide +kernel), znRX9, zcX9_today, by decide +kernel, by decide +kernel, by decide +kernel⟩
set_option maxRecDepth 40000 in
theorem zkL_132 : zLnk RL 132 mX9_change 3 := ⟨ztb 1657 (by rfl) (by decide +kernel), znRX9, zcX9_change, by decide +kernel, by decide +kernel, by decide +kernel⟩
set_option maxRecDepth 40000 in
theorem zkX9_412 : zLnk RX9 412 mX9_changesTo 3 := ⟨ztb 1661 (by rfl) (by decide +kernel), znRX9, zcX9_changesTo, by decide +kernel, by decide +kernel, by decide +kernel⟩
set_option maxRecDepth 40000 in
theorem zkL_139 : zLnk RL 139 mX9_drown 3 := ⟨ztb 1665 (by rfl) (by decide +kernel), znRX9, zcX9_drown, by decide +kernel, by decide +kernel, by decide +kernel⟩
set_option maxRecDepth 40000 in
theorem zqX9_424 : Cond.constantLong RX9 424 (Int64.ofInt (100)) ∈ zTB := ztb 1669 (by rfl) (by decide +kernel)
set_option maxRecDepth 40000 in
theorem zkX9_426 : zLnk RX9 426 mX9_draw 1 := ⟨ztb 1670 (by rfl) (by decide +kernel), znRX9, zcX9_draw, by decide +kernel, by decide +kernel, by decide +kernel⟩
set_option maxRecDepth 40000 in
theorem zqX9_420 : Cond.constantLong RX9 420 (Int64.ofInt (6364136223846793005)) ∈ zTB := ztb 1674 (by rfl) (by decide +kernel)
set_option maxRecDepth 40000 in
theorem zqX9_422 : Cond.constantLong RX9 422 (Int64.ofInt (1442695040888963407)) ∈ zTB := ztb 1675 (by rfl) (by decide +kernel)
set_option maxRecDepth 40000 in
theorem zkL_143 : zLnk RL 143 mX9_say 2 := ⟨ztb 1676 (by rfl) (by decide +kernel), znRX9, zcX9_say, by decide +kernel, by decide +kernel, by decide +kernel⟩
set_option maxRecDepth 40000 in
theorem zkL_147 : zLnk RL 147 mX9_breach 1 := ⟨ztb 1680 (by rfl) (by decide +kernel), znRX9, zcX9_breach, by decide +kernel, by decide +kernel, by decide +kernel⟩
set_option maxRecDepth 40000 in
theorem zkX9_429 : zLnk RX9 429 mX9_isBreach 1 := ⟨ztb 1684 (by rfl) (by decide +kernel), znRX9, zcX9_isBreach, by decide +kernel, by decide +kernel, by decide +kernel⟩
set_option maxRecDepth 40000 in
theorem zkL_151 : zLnk RL 151 mX9_fines 1 := ⟨ztb 1688 (by rfl) (by decide +kernel), znRX9, zcX9_fines, by decide +kernel, by decide +kernel, by decide +kernel⟩
set_option maxRecDepth 40000 in
theorem zkX9_432 : zLnk RX9 432 mX9_finesOf 1 := ⟨ztb 1692 (by rfl) (by decide +kernel), znRX9, zcX9_finesOf, by decide +kernel, by decide +kernel, by decide +kernel⟩
set_option maxRecDepth 40000 in
theorem zkL_155 : zLnk RL 155 mX9_safe 2 := ⟨ztb 1696 (by rfl) (by decide +kernel), znRX9, zcX9_safe, by decide +kernel, by decide +kernel, by decide +kernel⟩
set_option maxRecDepth 40000 in
theorem zkL_159 : zLnk RL 159 mX9_game 5 := ⟨ztb 1700 (by rfl) (by decide +kernel), znRX9, zcX9_game, by decide +kernel, by decide +kernel, by decide +kernel⟩
set_option maxRecDepth 40000 in
theorem zqX9_435 : Cond.constantLong RX9 435 (Int64.ofInt (9)) ∈ zTB := ztb 1704 (by rfl) (by decide +kernel)
set_option maxRecDepth 40000 in
theorem zkL_163 : zLnk RL 163 mX9_spoken 2 := ⟨ztb 1705 (by rfl) (by decide +kernel), znRX9, zcX9_spoken, by decide +kernel, by decide +kernel, by decide +kernel⟩
set_option maxRecDepth 40000 in
theorem zkX9_437 : zLnk RX9 437 mX9_spokenAs 2 := ⟨ztb 1709 (by rfl) (by decide +kernel), znRX9, zcX9_spokenAs, by decide +kernel, by decide +kernel, by decide +kernel⟩
set_option maxRecDepth 40000 in
theorem zkL_167 : zLnk RL 167 mX9_carried 3 := ⟨ztb 1713 (by rfl) (by decide +kernel), znRX9, zcX9_carried, by decide +kernel, by decide +kernel, by decide +kernel⟩
set_option maxRecDepth 40000 in
theorem zkL_171 : zLnk RL 171 mX9_near 3 := ⟨ztb 1717 (by rfl) (by decide +kernel), znRX9, zcX9_near, by decide +kernel, by decide +kernel, by decide +kernel⟩
set_option maxRecDepth 40000 in
theorem zkL_175 : zLnk RL 175 mX9_joint 4 := ⟨ztb 1721 (by rfl) (by decide +kernel), znRX9, zcX9_joint, by decide +kernel, by decide +kernel, by decide +kernel⟩
set_option maxRecDepth 40000 in
theorem zkL_179 : zLnk RL 179 mX9_worst 3 := ⟨ztb 1725 (by rfl) (by decide +kernel), znRX9, zcX9_worst, by decide +kernel, by decide +kernel, by decide +kernel⟩
set_option maxRecDepth 40000 in
theorem zkX9_440 : zLnk RX9 440 mX9_cantBe 2 := ⟨ztb 1729 (by rfl) (by decide +kernel), znRX9, zcX9_cantBe, by decide +kernel, by decide +kernel, by decide +kernel⟩
set_option maxRecDepth 40000 in
theorem zkL_183 : zLnk RL 183 mX9_owes 0 := ⟨ztb 1733 (by rfl) (by decide +kernel), znRX9, zcX9_owes, by decide +kernel, by decide +kernel, by decide +kernel⟩
set_option maxRecDepth 40000 in
theorem zkL_187 : zLnk RL 187 mX9_calendar 2 := ⟨ztb 1737 (by rfl) (by decide +kernel), znRX9, zcX9_calendar, by decide +kernel, by decide +kernel, by decide +kernel⟩
set_option maxRecDepth 40000 in
theorem zqX9_443 : Cond.constantLong RX9 443 (Int64.ofInt (60)) ∈ zTB := ztb 1741 (by rfl) (by decide +kernel)
set_option maxRecDepth 40000 in
theorem zkX9_445 : zLnk RX9 445 mX9_layDates 3 := ⟨ztb 1742 (by rfl) (by decide +kernel), znRX9, zcX9_layDates, by decide +kernel, by decide +kernel, by decide +kernel⟩
set_option maxRecDepth 40000 in
theorem zkL_191 : zLnk RL 191 mX9_twins 3 := ⟨ztb 1746 (by rfl) (by decide +kernel), znRX9, zcX9_twins, by decide +kernel, by decide +kernel, by decide +kernel⟩
set_option maxRecDepth 40000 in
theorem zkL_195 : zLnk RL 195 mX9_image 0 := ⟨ztb 1750 (by rfl) (by decide +kernel), znRX9, zcX9_image, by decide +kernel, by decide +kernel, by decide +kernel⟩
set_option maxRecDepth 40000 in
theorem zkL_199 : zLnk RL 199 mX9_back 0 := ⟨ztb 1754 (by rfl) (by decide +kernel), znRX9, zcX9_back, by decide +kernel, by decide +kernel, by decide +kernel⟩
set_option maxRecDepth 40000 in
theorem zkL_203 : zLnk RL 203 mX9_count 1 := ⟨ztb 1758 (by rfl) (by decide +kernel), znRX9, zcX9_count, by decide +kernel, by decide +kernel, by decide +kernel⟩
set_option maxRecDepth 40000 in
theorem zqL_133 : Cond.constantLong RL 133 (Int64.ofInt (4294967295)) ∈ zTB := ztb 1762 (by rfl) (by decide +kernel)
