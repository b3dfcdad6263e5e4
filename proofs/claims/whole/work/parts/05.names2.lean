def mX0_pass : zm_Me := (yX0_pass, cX0_pass, 5, (some .int))
def mX0_goUp : zm_Me := (yX0_goUp, cX0_goUp, 5, none)
def mX0_goDown : zm_Me := (yX0_goDown, cX0_goDown, 5, (some .int))
def mX0_nameFor : zm_Me := (yX0_nameFor, cX0_nameFor, 4, none)
def mX0_merge : zm_Me := (yX0_merge, cX0_merge, 5, (some .int))
def mX0_mergeInto : zm_Me := (yX0_mergeInto, cX0_mergeInto, 6, none)
def mX1_copy : zm_Me := (yX1_copy, cX1_copy, 2, none)
def mX1_clear : zm_Me := (yX1_clear, cX1_clear, 1, none)
def mX1_rules : zm_Me := (yX1_rules, cX1_rules, 2, (some .boolean))
def mX1_put : zm_Me := (yX1_put, cX1_put, 3, (some .int))
def mX1_leadHere : zm_Me := (yX1_leadHere, cX1_leadHere, 2, none)
def mX2_name : zm_Me := (yX2_name, cX2_name, 4, none)
def mX2_value : zm_Me := (yX2_value, cX2_value, 7, (some .int))
def mX2_unwritten : zm_Me := (yX2_unwritten, cX2_unwritten, 2, (some .int))
def mX2_bound : zm_Me := (yX2_bound, cX2_bound, 3, (some .int))
def mX2_found : zm_Me := (yX2_found, cX2_found, 5, (some .int))
def mX2_reckon : zm_Me := (yX2_reckon, cX2_reckon, 5, (some .int))
def mX2_compare : zm_Me := (yX2_compare, cX2_compare, 3, (some .boolean))
def mX2_push : zm_Me := (yX2_push, cX2_push, 2, none)
def mX2_pop : zm_Me := (yX2_pop, cX2_pop, 1, (some .int))
def mX3_find : zm_Me := (yX3_find, cX3_find, 5, none)
def mX3_isBelow : zm_Me := (yX3_isBelow, cX3_isBelow, 2, (some .boolean))
def mX3_measureDays : zm_Me := (yX3_measureDays, cX3_measureDays, 4, none)
def mX3_stepDays : zm_Me := (yX3_stepDays, cX3_stepDays, 3, (some .int))
def mX3_walk : zm_Me := (yX3_walk, cX3_walk, 6, none)
def mX3_grown : zm_Me := (yX3_grown, cX3_grown, 3, (some .int))
def mX4_copy : zm_Me := (yX4_copy, cX4_copy, 2, none)
def mX4_put : zm_Me := (yX4_put, cX4_put, 2, (some .int))
def mX4_countSets : zm_Me := (yX4_countSets, cX4_countSets, 4, none)
def mX4_sumOf : zm_Me := (yX4_sumOf, cX4_sumOf, 4, (some .int))
def mX4_bitsIn : zm_Me := (yX4_bitsIn, cX4_bitsIn, 4, (some .int))
def mX4_nearestToHalf : zm_Me := (yX4_nearestToHalf, cX4_nearestToHalf, 5, (some .int))
def mX5_read : zm_Me := (yX5_read, cX5_read, 5, none)
def mX5_findTokens : zm_Me := (yX5_findTokens, cX5_findTokens, 6, none)
def mX5_endOfToken : zm_Me := (yX5_endOfToken, cX5_endOfToken, 5, (some .int))
def mX5_numberFrom : zm_Me := (yX5_numberFrom, cX5_numberFrom, 5, (some .int))
def mX5_wordFrom : zm_Me := (yX5_wordFrom, cX5_wordFrom, 4, (some (.object "ApologyUp$Word")))
def mX5_isSpelled : zm_Me := (yX5_isSpelled, cX5_isSpelled, 5, (some .boolean))
def mX5_isDigit : zm_Me := (yX5_isDigit, cX5_isDigit, 1, (some .boolean))
def mX5_isLetter : zm_Me := (yX5_isLetter, cX5_isLetter, 1, (some .boolean))
def mX5_step : zm_Me := (yX5_step, cX5_step, 1, none)
def mX5_complain : zm_Me := (yX5_complain, cX5_complain, 2, none)
def mX5_expect : zm_Me := (yX5_expect, cX5_expect, 2, none)
def mX5_readNumber : zm_Me := (yX5_readNumber, cX5_readNumber, 4, (some .int))
def mX5_readClause : zm_Me := (yX5_readClause, cX5_readClause, 2, none)
def mX5_readLaw : zm_Me := (yX5_readLaw, cX5_readLaw, 1, none)
def mX5_readAction : zm_Me := (yX5_readAction, cX5_readAction, 2, none)
def mX5_readPair : zm_Me := (yX5_readPair, cX5_readPair, 5, none)
def mX5_readSum : zm_Me := (yX5_readSum, cX5_readSum, 4, none)
def mX5_readProduct : zm_Me := (yX5_readProduct, cX5_readProduct, 4, none)
def mX5_readOne : zm_Me := (yX5_readOne, cX5_readOne, 2, none)
def mX5_readName : zm_Me := (yX5_readName, cX5_readName, 2, none)
def mX5_readOpening : zm_Me := (yX5_readOpening, cX5_readOpening, 3, none)
def mX5_readChoice : zm_Me := (yX5_readChoice, cX5_readChoice, 4, none)
def mX5_readEither : zm_Me := (yX5_readEither, cX5_readEither, 3, none)
def mX5_readBoth : zm_Me := (yX5_readBoth, cX5_readBoth, 3, none)
def mX5_readAsk : zm_Me := (yX5_readAsk, cX5_readAsk, 2, none)
def mX5_readComparison : zm_Me := (yX5_readComparison, cX5_readComparison, 3, none)
def mX6_keep : zm_Me := (yX6_keep, cX6_keep, 1, none)
def mX6_takeBack : zm_Me := (yX6_takeBack, cX6_takeBack, 1, none)
def mX6_law : zm_Me := (yX6_law, cX6_law, 1, (some (.object "ApologyUp$Law")))
def mX6_copy : zm_Me := (yX6_copy, cX6_copy, 3, none)
def mX7_copy : zm_Me := (yX7_copy, cX7_copy, 2, none)
def mX7_has : zm_Me := (yX7_has, cX7_has, 2, (some .boolean))
def mX7_tell : zm_Me := (yX7_tell, cX7_tell, 3, (some .int))
def mX7_areCousins : zm_Me := (yX7_areCousins, cX7_areCousins, 3, (some .boolean))
def mX7_isAbove : zm_Me := (yX7_isAbove, cX7_isAbove, 3, (some .boolean))
def mX7_isAboveOrSame : zm_Me := (yX7_isAboveOrSame, cX7_isAboveOrSame, 5, (some .boolean))
def mX7_meeting : zm_Me := (yX7_meeting, cX7_meeting, 5, (some .int))
def mX7_distance : zm_Me := (yX7_distance, cX7_distance, 3, (some .int))
def mX7_stepDown : zm_Me := (yX7_stepDown, cX7_stepDown, 5, (some .int))
def mX7_bitsBelow : zm_Me := (yX7_bitsBelow, cX7_bitsBelow, 4, (some .int))
def mX8_measure : zm_Me := (yX8_measure, cX8_measure, 2, none)
def mX8_promotions : zm_Me := (yX8_promotions, cX8_promotions, 6, (some .long))
def mX8_promotedAt : zm_Me := (yX8_promotedAt, cX8_promotedAt, 5, (some .int))
def mX8_proudest : zm_Me := (yX8_proudest, cX8_proudest, 6, (some .int))
def mX8_heaviestApart : zm_Me := (yX8_heaviestApart, cX8_heaviestApart, 3, (some .int))
def mX8_weightOf : zm_Me := (yX8_weightOf, cX8_weightOf, 4, (some .int))
def mX8_fewestDeputies : zm_Me := (yX8_fewestDeputies, cX8_fewestDeputies, 4, (some .int))
def mX8_nearestToAll : zm_Me := (yX8_nearestToAll, cX8_nearestToAll, 6, (some .int))
def mX8_diameter : zm_Me := (yX8_diameter, cX8_diameter, 3, (some .int))
def mX8_farEnd : zm_Me := (yX8_farEnd, cX8_farEnd, 5, (some .int))
def mX8_farthestFrom : zm_Me := (yX8_farthestFrom, cX8_farthestFrom, 4, (some .int))
def mX8_greatestPart : zm_Me := (yX8_greatestPart, cX8_greatestPart, 4, (some .int))
def mX10_copy : zm_Me := (yX10_copy, cX10_copy, 2, none)
def mX10_has : zm_Me := (yX10_has, cX10_has, 2, (some .boolean))
def mX10_begin : zm_Me := (yX10_begin, cX10_begin, 4, (some .int))
def mX10_leave : zm_Me := (yX10_leave, cX10_leave, 3, none)
def mX10_isWaiting : zm_Me := (yX10_isWaiting, cX10_isWaiting, 2, (some .boolean))
def mX10_moves : zm_Me := (yX10_moves, cX10_moves, 2, (some .boolean))
def mX10_draw : zm_Me := (yX10_draw, cX10_draw, 2, (some .int))
def mX10_desk : zm_Me := (yX10_desk, cX10_desk, 4, (some .int))
def mX10_sizesAt : zm_Me := (yX10_sizesAt, cX10_sizesAt, 4, (some .int))
def mX10_write : zm_Me := (yX10_write, cX10_write, 4, none)
def mX10_notesOf : zm_Me := (yX10_notesOf, cX10_notesOf, 4, (some .int))
def mX11_officer : zm_Me := (yX11_officer, cX11_officer, 5, (some .int))
def mX11_cousin : zm_Me := (yX11_cousin, cX11_cousin, 4, (some .boolean))
def mX11_feed : zm_Me := (yX11_feed, cX11_feed, 6, (some .int))
def mX11_tapeFour : zm_Me := (yX11_tapeFour, cX11_tapeFour, 3, none)
def mX11_end : zm_Me := (yX11_end, cX11_end, 2, (some .int))
def mX11_text : zm_Me := (yX11_text, cX11_text, 1, (some .int))
def mX11_fault : zm_Me := (yX11_fault, cX11_fault, 2, (some .int))
def mX11_by : zm_Me := (yX11_by, cX11_by, 2, (some .boolean))
def mX11_wrong : zm_Me := (yX11_wrong, cX11_wrong, 4, (some .int))
def mX11_canWrong : zm_Me := (yX11_canWrong, cX11_canWrong, 4, (some .boolean))
def mX11_away : zm_Me := (yX11_away, cX11_away, 3, (some .boolean))
def mX11_sideways : zm_Me := (yX11_sideways, cX11_sideways, 5, (some .boolean))
def mX11_day : zm_Me := (yX11_day, cX11_day, 2, (some .int))
def mX11_passDays : zm_Me := (yX11_passDays, cX11_passDays, 5, (some .int))
def mX11_played : zm_Me := (yX11_played, cX11_played, 4, (some .int))
def mX11_canPerform : zm_Me := (yX11_canPerform, cX11_canPerform, 6, (some .boolean))
def mX11_years : zm_Me := (yX11_years, cX11_years, 5, (some .int))
def mX11_befallBy : zm_Me := (yX11_befallBy, cX11_befallBy, 5, none)
def mX11_undo : zm_Me := (yX11_undo, cX11_undo, 1, (some .int))
def mX11_of : zm_Me := (yX11_of, cX11_of, 4, (some .int))
def mX11_addsOf : zm_Me := (yX11_addsOf, cX11_addsOf, 3, (some .int))
def mX11_ofApology : zm_Me := (yX11_ofApology, cX11_ofApology, 4, (some .int))
def mX11_is : zm_Me := (yX11_is, cX11_is, 2, (some .int))
def mX11_book : zm_Me := (yX11_book, cX11_book, 4, (some .int))
def mX11_foretold : zm_Me := (yX11_foretold, cX11_foretold, 5, (some .int))
def mX11_pardoned : zm_Me := (yX11_pardoned, cX11_pardoned, 3, (some .int))
def mX11_meets : zm_Me := (yX11_meets, cX11_meets, 3, (some .int))
def mX11_steps : zm_Me := (yX11_steps, cX11_steps, 3, (some .int))
def mX11_route : zm_Me := (yX11_route, cX11_route, 5, (some .int))
def mX11_pile : zm_Me := (yX11_pile, cX11_pile, 2, (some .int))
def mX11_piles : zm_Me := (yX11_piles, cX11_piles, 4, (some .int))
def mX11_ask : zm_Me := (yX11_ask, cX11_ask, 2, (some .int))
def mX11_orders : zm_Me := (yX11_orders, cX11_orders, 1, (some .long))
def mX11_first : zm_Me := (yX11_first, cX11_first, 2, (some .int))
def mX11_weigh : zm_Me := (yX11_weigh, cX11_weigh, 3, (some .boolean))
def mX11_apart : zm_Me := (yX11_apart, cX11_apart, 3, (some .int))
def mX11_middle : zm_Me := (yX11_middle, cX11_middle, 1, (some .int))
def mX11_longest : zm_Me := (yX11_longest, cX11_longest, 2, (some .int))
def mX11_parts : zm_Me := (yX11_parts, cX11_parts, 2, (some .int))
def mX11_deputies : zm_Me := (yX11_deputies, cX11_deputies, 1, (some .int))
def mX11_ranked : zm_Me := (yX11_ranked, cX11_ranked, 5, (some .int))
def mX11_owes : zm_Me := (yX11_owes, cX11_owes, 4, (some .boolean))
def mX11_play : zm_Me := (yX11_play, cX11_play, 10, (some .int))
def mX11_added : zm_Me := (yX11_added, cX11_added, 3, (some .int))
def mX11_whose : zm_Me := (yX11_whose, cX11_whose, 3, (some .int))
def mX11_explainsAdded : zm_Me := (yX11_explainsAdded, cX11_explainsAdded, 3, (some .boolean))
def mX11_stuck : zm_Me := (yX11_stuck, cX11_stuck, 5, (some .int))
def mX11_eldest : zm_Me := (yX11_eldest, cX11_eldest, 4, (some .int))
def mX11_sorry : zm_Me := (yX11_sorry, cX11_sorry, 5, (some .int))
def mX11_befell : zm_Me := (yX11_befell, cX11_befell, 2, (some .int))
def mX11_image : zm_Me := (yX11_image, cX11_image, 1, (some .int))
def mX11_back : zm_Me := (yX11_back, cX11_back, 1, (some .int))
def mX11_about : zm_Me := (yX11_about, cX11_about, 2, (some .int))
def mX11_within : zm_Me := (yX11_within, cX11_within, 3, (some .boolean))
def mX12_copy : zm_Me := (yX12_copy, cX12_copy, 3, none)
def mX12_isIn : zm_Me := (yX12_isIn, cX12_isIn, 3, (some .boolean))
def mX12_cut : zm_Me := (yX12_cut, cX12_cut, 4, (some .int))
def mX12_has : zm_Me := (yX12_has, cX12_has, 2, (some .boolean))
def mX12_bits : zm_Me := (yX12_bits, cX12_bits, 3, (some .int))
def mX12_isOfficer : zm_Me := (yX12_isOfficer, cX12_isOfficer, 2, (some .boolean))
def mX12_isApology : zm_Me := (yX12_isApology, cX12_isApology, 2, (some .boolean))
def mX12_get : zm_Me := (yX12_get, cX12_get, 3, (some .int))
def mX12_put : zm_Me := (yX12_put, cX12_put, 4, none)
def mX12_rankOf : zm_Me := (yX12_rankOf, cX12_rankOf, 4, (some .int))
def mX12_isAbove : zm_Me := (yX12_isAbove, cX12_isAbove, 4, (some .boolean))
def mX12_downTo : zm_Me := (yX12_downTo, cX12_downTo, 4, (some .int))
def mX12_officer : zm_Me := (yX12_officer, cX12_officer, 4, (some .int))
def mX12_cousin : zm_Me := (yX12_cousin, cX12_cousin, 3, (some .boolean))
def mX12_four : zm_Me := (yX12_four, cX12_four, 3, none)
def mX12_feed : zm_Me := (yX12_feed, cX12_feed, 6, (some .int))
def mX12_end : zm_Me := (yX12_end, cX12_end, 2, (some .int))
def mX12_byteAt : zm_Me := (yX12_byteAt, cX12_byteAt, 2, (some .int))
def mX12_isLetterByte : zm_Me := (yX12_isLetterByte, cX12_isLetterByte, 1, (some .boolean))
def mX12_isFigure : zm_Me := (yX12_isFigure, cX12_isFigure, 1, (some .boolean))
def mX12_isSign : zm_Me := (yX12_isSign, cX12_isSign, 1, (some .boolean))
def mX12_nextToken : zm_Me := (yX12_nextToken, cX12_nextToken, 2, none)
def mX12_w2 : zm_Me := (yX12_w2, cX12_w2, 2, (some .long))
def mX12_w3 : zm_Me := (yX12_w3, cX12_w3, 3, (some .long))
def mX12_w4 : zm_Me := (yX12_w4, cX12_w4, 4, (some .long))
def mX12_w5 : zm_Me := (yX12_w5, cX12_w5, 5, (some .long))
def mX12_w6 : zm_Me := (yX12_w6, cX12_w6, 6, (some .long))
def mX12_isWord : zm_Me := (yX12_isWord, cX12_isWord, 3, (some .boolean))
def mX12_emit : zm_Me := (yX12_emit, cX12_emit, 3, none)
def mX12_isLong : zm_Me := (yX12_isLong, cX12_isLong, 5, (some .boolean))
def mX12_nameOf : zm_Me := (yX12_nameOf, cX12_nameOf, 1, (some .int))
def mX12_isOf : zm_Me := (yX12_isOf, cX12_isOf, 2, (some .boolean))
def mX12_rank : zm_Me := (yX12_rank, cX12_rank, 1, (some .int))
def mX12_settle : zm_Me := (yX12_settle, cX12_settle, 2, none)
def mX12_openAt : zm_Me := (yX12_openAt, cX12_openAt, 2, (some .int))
def mX12_openNow : zm_Me := (yX12_openNow, cX12_openNow, 1, (some .int))
def mX12_isCompared : zm_Me := (yX12_isCompared, cX12_isCompared, 2, (some .boolean))
def mX12_isAskAhead : zm_Me := (yX12_isAskAhead, cX12_isAskAhead, 1, (some .boolean))
def mX12_opened : zm_Me := (yX12_opened, cX12_opened, 2, (some .int))
def mX12_beginOne : zm_Me := (yX12_beginOne, cX12_beginOne, 2, (some .int))
def mX12_endOne : zm_Me := (yX12_endOne, cX12_endOne, 1, (some .int))
def mX12_compareOf : zm_Me := (yX12_compareOf, cX12_compareOf, 1, (some .int))
def mX12_betweenOf : zm_Me := (yX12_betweenOf, cX12_betweenOf, 1, (some .int))
def mX12_partOf : zm_Me := (yX12_partOf, cX12_partOf, 2, (some .int))
def mX12_behindOne : zm_Me := (yX12_behindOne, cX12_behindOne, 4, (some .int))
def mX12_summed : zm_Me := (yX12_summed, cX12_summed, 2, (some .int))
def mX12_figure : zm_Me := (yX12_figure, cX12_figure, 4, (some .int))
def mX12_worded : zm_Me := (yX12_worded, cX12_worded, 6, (some .int))
def mX12_lawClause : zm_Me := (yX12_lawClause, cX12_lawClause, 3, (some .int))
def mX12_pair : zm_Me := (yX12_pair, cX12_pair, 6, (some .int))
def mX12_body : zm_Me := (yX12_body, cX12_body, 4, (some .int))
def mX12_sortOf : zm_Me := (yX12_sortOf, cX12_sortOf, 1, (some .int))
def mX12_clause : zm_Me := (yX12_clause, cX12_clause, 5, (some .int))
def mX12_readText : zm_Me := (yX12_readText, cX12_readText, 2, (some .int))
def mX12_text : zm_Me := (yX12_text, cX12_text, 1, (some .int))
def mX12_fault : zm_Me := (yX12_fault, cX12_fault, 2, (some .int))
def mX12_by : zm_Me := (yX12_by, cX12_by, 2, (some .boolean))
def mX12_clip : zm_Me := (yX12_clip, cX12_clip, 2, (some .long))
def mX12_two : zm_Me := (yX12_two, cX12_two, 5, (some .long))
def mX12_isAsked : zm_Me := (yX12_isAsked, cX12_isAsked, 5, (some .boolean))
def mX12_ranksOf : zm_Me := (yX12_ranksOf, cX12_ranksOf, 3, (some .long))
def mX12_halved : zm_Me := (yX12_halved, cX12_halved, 8, (some .long))
def mX12_joined : zm_Me := (yX12_joined, cX12_joined, 3, (some .boolean))
def mX12_summedUp : zm_Me := (yX12_summedUp, cX12_summedUp, 10, (some .long))
def mX12_says : zm_Me := (yX12_says, cX12_says, 6, (some .int))
def mX12_name : zm_Me := (yX12_name, cX12_name, 5, none)
def mX12_addsBy : zm_Me := (yX12_addsBy, cX12_addsBy, 2, (some .int))
def mX12_addsOf : zm_Me := (yX12_addsOf, cX12_addsOf, 3, (some .int))
def mX12_deskOf : zm_Me := (yX12_deskOf, cX12_deskOf, 5, (some .int))
def mX12_nameApology : zm_Me := (yX12_nameApology, cX12_nameApology, 3, none)
def mX12_write : zm_Me := (yX12_write, cX12_write, 4, none)
def mX12_anew : zm_Me := (yX12_anew, cX12_anew, 1, none)
def mX12_goUp : zm_Me := (yX12_goUp, cX12_goUp, 4, none)
def mX12_finish : zm_Me := (yX12_finish, cX12_finish, 3, none)
def mX12_goDown : zm_Me := (yX12_goDown, cX12_goDown, 3, none)
def mX12_merge : zm_Me := (yX12_merge, cX12_merge, 5, none)
def mX12_pass : zm_Me := (yX12_pass, cX12_pass, 3, none)
def mX12_keep : zm_Me := (yX12_keep, cX12_keep, 3, none)
def mX12_undo : zm_Me := (yX12_undo, cX12_undo, 3, (some .int))
def mX12_canWrong : zm_Me := (yX12_canWrong, cX12_canWrong, 3, (some .boolean))
def mX12_wrongNow : zm_Me := (yX12_wrongNow, cX12_wrongNow, 5, none)
def mX12_wrong : zm_Me := (yX12_wrong, cX12_wrong, 4, (some .int))
def mX12_away : zm_Me := (yX12_away, cX12_away, 3, (some .boolean))
def mX12_canSend : zm_Me := (yX12_canSend, cX12_canSend, 3, (some .boolean))
def mX12_sideways : zm_Me := (yX12_sideways, cX12_sideways, 3, (some .boolean))
def mX12_arePassed : zm_Me := (yX12_arePassed, cX12_arePassed, 3, (some .boolean))
def mX12_day : zm_Me := (yX12_day, cX12_day, 2, (some .int))
def mX12_isPlayed : zm_Me := (yX12_isPlayed, cX12_isPlayed, 4, (some .boolean))
def mX12_played : zm_Me := (yX12_played, cX12_played, 3, (some .int))
def mX12_happens : zm_Me := (yX12_happens, cX12_happens, 3, none)
def mX12_years : zm_Me := (yX12_years, cX12_years, 5, (some .int))
def mX12_belowOf : zm_Me := (yX12_belowOf, cX12_belowOf, 4, (some .int))
def mX12_of : zm_Me := (yX12_of, cX12_of, 3, (some .int))
def mX12_ofApology : zm_Me := (yX12_ofApology, cX12_ofApology, 3, (some .int))
def mX12_is : zm_Me := (yX12_is, cX12_is, 2, (some .int))
def mX12_book : zm_Me := (yX12_book, cX12_book, 4, (some .int))
def mX12_befell : zm_Me := (yX12_befell, cX12_befell, 4, (some .int))
def mX12_stuck : zm_Me := (yX12_stuck, cX12_stuck, 4, (some .int))
def mX12_eldest : zm_Me := (yX12_eldest, cX12_eldest, 3, (some .int))
def mX12_sorry : zm_Me := (yX12_sorry, cX12_sorry, 4, (some .int))
def mX12_ranked : zm_Me := (yX12_ranked, cX12_ranked, 6, (some .int))
def mX12_setAside : zm_Me := (yX12_setAside, cX12_setAside, 2, none)
def mX12_putBack : zm_Me := (yX12_putBack, cX12_putBack, 2, none)
def mX12_foretold : zm_Me := (yX12_foretold, cX12_foretold, 5, (some .int))
def mX12_pardoned : zm_Me := (yX12_pardoned, cX12_pardoned, 4, (some .int))
def mX12_meetOf : zm_Me := (yX12_meetOf, cX12_meetOf, 4, (some .int))
def mX12_stepsOf : zm_Me := (yX12_stepsOf, cX12_stepsOf, 3, (some .int))
def mX12_meets : zm_Me := (yX12_meets, cX12_meets, 3, (some .int))
def mX12_steps : zm_Me := (yX12_steps, cX12_steps, 3, (some .int))
def mX12_daysOf : zm_Me := (yX12_daysOf, cX12_daysOf, 4, (some .int))
def mX12_layDays : zm_Me := (yX12_layDays, cX12_layDays, 6, none)
def mX12_nextOf : zm_Me := (yX12_nextOf, cX12_nextOf, 6, (some .int))
def mX12_sizeBehind : zm_Me := (yX12_sizeBehind, cX12_sizeBehind, 6, (some .int))
def mX12_takeWay : zm_Me := (yX12_takeWay, cX12_takeWay, 3, none)
def mX12_layRoute : zm_Me := (yX12_layRoute, cX12_layRoute, 6, none)
def mX12_route : zm_Me := (yX12_route, cX12_route, 4, (some .int))
def mX12_pile : zm_Me := (yX12_pile, cX12_pile, 2, (some .int))
def mX12_laySets : zm_Me := (yX12_laySets, cX12_laySets, 5, none)
def mX12_piles : zm_Me := (yX12_piles, cX12_piles, 5, (some .int))
def mX12_ask : zm_Me := (yX12_ask, cX12_ask, 6, (some .int))
def mX12_orders : zm_Me := (yX12_orders, cX12_orders, 4, (some .long))
def mX12_first : zm_Me := (yX12_first, cX12_first, 6, (some .int))
def mX12_weigh : zm_Me := (yX12_weigh, cX12_weigh, 3, (some .boolean))
def mX12_areApart : zm_Me := (yX12_areApart, cX12_areApart, 3, (some .boolean))
def mX12_weightOf : zm_Me := (yX12_weightOf, cX12_weightOf, 4, (some .int))
def mX12_apart : zm_Me := (yX12_apart, cX12_apart, 4, (some .int))
def mX12_middle : zm_Me := (yX12_middle, cX12_middle, 6, (some .int))
def mX12_longest : zm_Me := (yX12_longest, cX12_longest, 6, (some .int))
def mX12_parts : zm_Me := (yX12_parts, cX12_parts, 4, (some .int))
def mX12_standFor : zm_Me := (yX12_standFor, cX12_standFor, 4, (some .int))
def mX12_deputies : zm_Me := (yX12_deputies, cX12_deputies, 4, (some .int))
def mX12_owes : zm_Me := (yX12_owes, cX12_owes, 4, (some .boolean))
def mX12_play : zm_Me := (yX12_play, cX12_play, 9, (some .int))
def mX12_added : zm_Me := (yX12_added, cX12_added, 3, (some .int))
def mX12_whose : zm_Me := (yX12_whose, cX12_whose, 5, (some .int))
def mX12_image : zm_Me := (yX12_image, cX12_image, 1, (some .int))
def mX12_back : zm_Me := (yX12_back, cX12_back, 1, (some .int))
def mX12_about : zm_Me := (yX12_about, cX12_about, 2, (some .int))
def mJ7_fill_53178 : zm_Me := (yJ7_fill_53178, cJ7_fill_53178, 4, none)
def zy_frl (own : Nat) : List (Nat × (Nat × Nat)) := match own with
  | 0 => [(48, (7, 1)), (45, (10, 0)), (19, (10, 2)), (96, (10, 3)), (85, (10, 4)), (53, (10, 5)), (72, (10, 6)), (29, (10, 7)), (106, (10, 8)), (63, (2, 1)), (9, (0, 0)), (15, (0, 1))]
  | 1 => [(9, (1, 0)), (15, (1, 1)), (19, (1, 2)), (22, (1, 3)), (25, (1, 4)), (28, (1, 5)), (31, (1, 6)), (34, (1, 7)), (37, (1, 8)), (40, (1, 9))]
  | 2 => [(26, (7, 2)), (31, (7, 3)), (48, (1, 5)), (51, (1, 6)), (54, (1, 8)), (57, (1, 9)), (22, (2, 0)), (9, (2, 1)), (15, (2, 2)), (18, (2, 3))]
  | 3 => [(73, (7, 0)), (89, (7, 1)), (55, (2, 1)), (9, (3, 0)), (15, (3, 1)), (18, (3, 2)), (22, (3, 3)), (41, (3, 4)), (45, (3, 5)), (25, (3, 6)), (28, (3, 7)), (32, (3, 8)), (35, (3, 9)), (38, (3, 10))]
  | 4 => [(9, (4, 0)), (15, (4, 1)), (18, (4, 2)), (22, (4, 3))]
  | 5 => [(142, (1, 0)), (139, (1, 1)), (183, (1, 2)), (195, (1, 3)), (192, (1, 4)), (158, (1, 5)), (167, (1, 6)), (161, (1, 7)), (9, (5, 0)), (15, (5, 1)), (19, (5, 2)), (24, (5, 3)), (28, (5, 4)), (32, (5, 5)), (35, (5, 6)), (38, (5, 7)), (45, (5, 8)), (48, (5, 9)), (51, (5, 10))]
  | 6 => [(12, (6, 0)), (21, (6, 1)), (25, (6, 2)), (29, (6, 3)), (33, (6, 4)), (38, (6, 5)), (42, (6, 6)), (45, (6, 7)), (51, (6, 8)), (55, (6, 9)), (59, (6, 10)), (62, (6, 11)), (65, (6, 12))]
  | 7 => [(9, (7, 0)), (15, (7, 1)), (19, (7, 2)), (22, (7, 3)), (25, (7, 4)), (28, (7, 5))]
  | 8 => [(34, (7, 0)), (40, (7, 1)), (50, (7, 2)), (53, (7, 5)), (24, (8, 0)), (9, (8, 1)), (15, (8, 2)), (18, (8, 3)), (21, (8, 4))]
  | 10 => [(9, (10, 0)), (15, (10, 1)), (18, (10, 2)), (21, (10, 3)), (25, (10, 4)), (28, (10, 5)), (31, (10, 6)), (34, (10, 7)), (37, (10, 8)), (40, (10, 9)), (43, (10, 10)), (46, (10, 11)), (49, (10, 12))]
  | 11 => [(77, (7, 0)), (234, (7, 1)), (237, (7, 2)), (240, (7, 3)), (98, (7, 4)), (334, (7, 5)), (167, (10, 0)), (218, (10, 1)), (146, (10, 2)), (266, (10, 3)), (161, (10, 4)), (158, (10, 5)), (269, (10, 6)), (152, (10, 7)), (270, (10, 8)), (164, (10, 9)), (243, (10, 10)), (273, (10, 11)), (276, (10, 12)), (309, (4, 0)), (318, (4, 1)), (182, (1, 0)), (197, (1, 1)), (191, (1, 2)), (194, (1, 3)), (206, (1, 4)), (28, (6, 0)), (136, (6, 1)), (228, (6, 4)), (109, (6, 5)), (106, (6, 6)), (127, (6, 7)), (305, (6, 8)), (361, (6, 9)), (364, (6, 10)), (367, (6, 11)), (370, (6, 12)), (259, (2, 1)), (293, (3, 0)), (302, (3, 1)), (299, (3, 2)), (296, (3, 3)), (120, (5, 0)), (117, (5, 1)), (124, (5, 2)), (10, (11, 0)), (16, (11, 1)), (22, (11, 2)), (35, (11, 3)), (44, (11, 4)), (51, (11, 5)), (58, (11, 6)), (65, (11, 7)), (69, (11, 8)), (73, (11, 9))]
  | 12 => [(7, (12, 0)), (13, (12, 1)), (16, (12, 2)), (19, (12, 3)), (81, (12, 4)), (22, (12, 5)), (26, (12, 6)), (88, (12, 7)), (95, (12, 8)), (98, (12, 9)), (104, (12, 10)), (111, (12, 11)), (136, (12, 12)), (139, (12, 13)), (142, (12, 14)), (29, (12, 15)), (145, (12, 16)), (155, (12, 17)), (195, (12, 18)), (241, (12, 19)), (32, (12, 20)), (35, (12, 21)), (39, (12, 22)), (43, (12, 23)), (332, (12, 24)), (326, (12, 25)), (47, (12, 26)), (50, (12, 27)), (53, (12, 28)), (56, (12, 29)), (59, (12, 30)), (421, (12, 31)), (424, (12, 32)), (62, (12, 33)), (443, (12, 34))]
  | _ => []
def zy_fr (own i : Nat) : Nat × Nat := ((zy_frl own).lookup i).getD (99, 99)
def zy_mrl (own : Nat) : List (Nat × (Nat × Nat × Nat × zm_Me)) := match own with
  | 0 => [(25, (0, 10, 1, mX10_moves)), (33, (0, 0, 3, mX0_goUp)), (56, (0, 7, 1, mX7_has)), (59, (0, 0, 3, mX0_nameFor)), (102, (0, 2, 3, mX2_name)), (68, (0, 10, 1, mX10_desk)), (75, (0, 2, 2, mX2_value)), (79, (4, 0, 2, mX12_isIn)), (88, (0, 10, 0, mX10_draw)), (92, (0, 10, 2, mX10_write)), (37, (0, 0, 3, mX0_goDown)), (99, (0, 7, 2, mX7_stepDown)), (41, (0, 0, 1, mX0_merge)), (109, (0, 0, 3, mX0_mergeInto)), (112, (3, 0, 2, mX12_isIn))]
  | 1 => [(49, (1, 99, 2, mJ7_fill_53178)), (43, (6, 0, 5, mX12_isIn))]
  | 2 => [(34, (0, 1, 1, mX1_rules)), (40, (0, 2, 1, mX2_unwritten)), (44, (1, 2, 2, mX2_bound)), (71, (4, 0, 2, mX12_isIn)), (76, (3, 0, 2, mX12_isIn)), (60, (0, 2, 0, mX2_pop)), (64, (0, 2, 2, mX2_found)), (79, (0, 7, 1, mX7_has)), (82, (1, 2, 3, mX2_reckon)), (86, (1, 2, 3, mX2_compare)), (67, (0, 2, 1, mX2_push))]
  | 3 => [(49, (0, 7, 1, mX7_bitsBelow)), (60, (0, 3, 0, mX3_measureDays)), (67, (1, 99, 2, mJ7_fill_53178)), (76, (0, 3, 2, mX3_stepDays)), (85, (0, 3, 1, mX3_isBelow)), (92, (0, 7, 2, mX7_areCousins)), (80, (4, 0, 2, mX12_isIn)), (63, (0, 3, 3, mX3_walk)), (96, (6, 0, 5, mX12_isIn)), (102, (0, 3, 2, mX3_grown)), (105, (0, 2, 3, mX2_name)), (108, (0, 2, 2, mX2_value))]
  | 4 => [(31, (1, 99, 2, mJ7_fill_53178)), (37, (0, 4, 1, mX4_sumOf)), (41, (5, 0, 1, mX12_isIn)), (25, (6, 0, 5, mX12_isIn))]
  | 5 => [(55, (4, 0, 2, mX12_isIn)), (61, (0, 5, 2, mX5_findTokens)), (74, (1, 5, 3, mX5_endOfToken)), (78, (1, 5, 1, mX5_isDigit)), (95, (1, 5, 1, mX5_isLetter)), (82, (1, 5, 3, mX5_numberFrom)), (88, (1, 5, 3, mX5_wordFrom)), (105, (1, 5, 4, mX5_isSpelled)), (92, (3, 0, 2, mX12_isIn)), (65, (0, 1, 0, mX1_clear)), (70, (0, 5, 1, mX5_readClause)), (125, (0, 5, 1, mX5_complain)), (135, (0, 1, 1, mX1_rules)), (122, (0, 5, 0, mX5_step)), (145, (0, 5, 0, mX5_readLaw)), (164, (0, 5, 1, mX5_readSum)), (198, (0, 5, 1, mX5_readProduct)), (213, (0, 5, 1, mX5_readOne)), (186, (0, 5, 2, mX5_readNumber)), (128, (2, 11, 3, mX11_within)), (210, (0, 1, 2, mX1_put)), (225, (0, 5, 0, mX5_readName)), (240, (0, 5, 1, mX5_readOpening)), (154, (0, 5, 1, mX5_expect)), (249, (0, 5, 1, mX5_readChoice)), (252, (0, 5, 1, mX5_readEither)), (267, (0, 5, 1, mX5_readBoth)), (273, (0, 5, 1, mX5_readAsk)), (282, (0, 5, 1, mX5_readComparison)), (261, (0, 1, 1, mX1_leadHere)), (148, (0, 5, 1, mX5_readAction)), (173, (0, 5, 4, mX5_readPair))]
  | 6 => [(69, (0, 10, 1, mX10_copy)), (73, (4, 0, 2, mX12_isIn)), (79, (2, 11, 3, mX11_within)), (83, (0, 7, 1, mX7_copy)), (86, (0, 1, 1, mX1_copy)), (89, (0, 4, 1, mX4_copy)), (92, (6, 0, 5, mX12_isIn))]
  | 7 => [(37, (0, 7, 1, mX7_has)), (41, (0, 7, 2, mX7_isAboveOrSame)), (45, (0, 7, 2, mX7_meeting)), (31, (6, 0, 5, mX12_isIn))]
  | 8 => [(43, (0, 8, 0, mX8_measure)), (28, (1, 99, 2, mJ7_fill_53178)), (46, (0, 8, 1, mX8_proudest)), (56, (3, 0, 2, mX12_isIn)), (66, (0, 7, 2, mX7_distance)), (69, (0, 8, 1, mX8_farthestFrom)), (63, (4, 0, 2, mX12_isIn))]
  | 10 => [(52, (6, 0, 5, mX12_isIn)), (58, (0, 10, 1, mX10_isWaiting))]
  | 11 => [(82, (0, 7, 1, mX7_has)), (86, (1, 11, 3, mX11_within)), (90, (0, 7, 2, mX7_tell)), (94, (0, 7, 2, mX7_areCousins)), (102, (0, 11, 1, mX11_tapeFour)), (113, (0, 5, 3, mX5_read)), (130, (0, 11, 2, mX11_canWrong)), (143, (0, 7, 2, mX7_isAbove)), (133, (0, 6, 0, mX6_keep)), (139, (0, 10, 3, mX10_begin)), (147, (0, 10, 2, mX10_leave)), (151, (0, 10, 1, mX10_has)), (155, (0, 10, 1, mX10_isWaiting)), (170, (0, 11, 1, mX11_passDays)), (174, (0, 6, 0, mX6_law)), (178, (0, 0, 2, mX0_pass)), (187, (0, 11, 2, mX11_canPerform)), (200, (0, 11, 2, mX11_officer)), (203, (0, 11, 2, mX11_cousin)), (209, (0, 11, 3, mX11_wrong)), (212, (0, 11, 2, mX11_away)), (215, (0, 11, 2, mX11_sideways)), (221, (0, 10, 0, mX10_draw)), (225, (0, 11, 1, mX11_befallBy)), (231, (0, 6, 0, mX6_takeBack)), (245, (0, 11, 2, mX11_addsOf)), (255, (0, 2, 3, mX2_name)), (262, (0, 2, 2, mX2_value)), (249, (0, 10, 1, mX10_desk)), (252, (0, 7, 1, mX7_bitsBelow)), (279, (0, 10, 1, mX10_copy)), (283, (0, 7, 2, mX7_meeting)), (286, (0, 7, 2, mX7_distance)), (289, (0, 3, 4, mX3_find)), (312, (0, 4, 1, mX4_put)), (315, (0, 4, 1, mX4_countSets)), (321, (0, 4, 1, mX4_bitsIn)), (324, (0, 4, 0, mX4_nearestToHalf)), (327, (0, 8, 0, mX8_promotions)), (331, (0, 8, 1, mX8_promotedAt)), (337, (0, 8, 0, mX8_heaviestApart)), (340, (0, 8, 1, mX8_weightOf)), (343, (0, 8, 0, mX8_nearestToAll)), (346, (0, 8, 0, mX8_farEnd)), (349, (0, 8, 0, mX8_diameter)), (352, (0, 8, 1, mX8_greatestPart)), (355, (0, 8, 0, mX8_fewestDeputies)), (358, (0, 10, 1, mX10_sizesAt)), (373, (0, 11, 1, mX11_explainsAdded)), (377, (0, 10, 1, mX10_notesOf)), (380, (0, 6, 1, mX6_copy))]
  | 12 => [(65, (1, 12, 2, mX12_copy)), (73, (0, 12, 1, mX12_isOfficer)), (69, (1, 12, 3, mX12_isIn)), (77, (1, 12, 2, mX12_has)), (84, (0, 12, 1, mX12_four)), (251, (0, 12, 0, mX12_readText)), (165, (0, 12, 0, mX12_nextToken)), (91, (0, 12, 1, mX12_byteAt)), (101, (1, 12, 1, mX12_isFigure)), (108, (1, 12, 1, mX12_isLetterByte)), (117, (1, 12, 1, mX12_isSign)), (248, (0, 12, 0, mX12_clause)), (238, (0, 12, 0, mX12_sortOf)), (128, (1, 12, 4, mX12_w4)), (124, (1, 12, 3, mX12_w3)), (120, (1, 12, 2, mX12_w2)), (184, (0, 12, 1, mX12_isWord)), (234, (0, 12, 2, mX12_isLong)), (132, (1, 12, 5, mX12_w5)), (180, (1, 12, 6, mX12_w6)), (244, (0, 12, 2, mX12_body)), (227, (0, 12, 3, mX12_pair)), (216, (0, 12, 3, mX12_figure)), (223, (0, 12, 4, mX12_worded)), (231, (0, 12, 1, mX12_lawClause)), (220, (0, 12, 0, mX12_summed)), (210, (0, 12, 0, mX12_behindOne)), (204, (0, 12, 0, mX12_betweenOf)), (162, (0, 12, 0, mX12_openNow)), (158, (0, 12, 0, mX12_openAt)), (198, (0, 12, 0, mX12_isCompared)), (148, (1, 12, 1, mX12_rank)), (201, (0, 12, 0, mX12_compareOf)), (192, (0, 12, 1, mX12_settle)), (151, (0, 12, 2, mX12_emit)), (207, (0, 12, 1, mX12_partOf)), (174, (0, 12, 0, mX12_endOne)), (213, (0, 12, 0, mX12_beginOne)), (168, (0, 12, 0, mX12_nameOf)), (171, (0, 12, 1, mX12_isOf)), (177, (0, 12, 1, mX12_opened)), (188, (0, 12, 0, mX12_isAskAhead)), (353, (0, 12, 2, mX12_canWrong)), (350, (0, 12, 2, mX12_isAbove)), (356, (0, 12, 0, mX12_keep)), (359, (0, 12, 3, mX12_wrongNow)), (319, (0, 12, 3, mX12_put)), (365, (0, 12, 2, mX12_canSend)), (362, (0, 12, 1, mX12_isApology)), (304, (0, 12, 2, mX12_get)), (371, (0, 12, 1, mX12_arePassed)), (368, (0, 12, 0, mX12_pass)), (341, (0, 12, 1, mX12_goUp)), (316, (0, 12, 2, mX12_nameApology)), (297, (0, 12, 4, mX12_name)), (262, (0, 12, 1, mX12_rankOf)), (307, (0, 12, 2, mX12_deskOf)), (301, (0, 12, 1, mX12_addsBy)), (293, (0, 12, 4, mX12_says)), (286, (0, 12, 2, mX12_summedUp)), (267, (0, 12, 1, mX12_ranksOf)), (270, (1, 12, 2, mX12_halved)), (274, (1, 12, 3, mX12_two)), (258, (1, 12, 1, mX12_clip)), (278, (1, 12, 3, mX12_isAsked)), (282, (1, 12, 3, mX12_joined)), (289, (1, 12, 3, mX12_cut)), (323, (0, 12, 0, mX12_anew)), (329, (0, 12, 2, mX12_write)), (344, (0, 12, 1, mX12_goDown)), (335, (0, 12, 2, mX12_downTo)), (338, (0, 12, 2, mX12_finish)), (347, (0, 12, 2, mX12_merge)), (389, (0, 12, 1, mX12_isPlayed)), (374, (0, 12, 2, mX12_officer)), (377, (0, 12, 2, mX12_cousin)), (380, (0, 12, 3, mX12_wrong)), (383, (0, 12, 2, mX12_away)), (386, (0, 12, 2, mX12_sideways)), (392, (0, 12, 1, mX12_happens)), (395, (0, 12, 2, mX12_addsOf)), (398, (0, 12, 1, mX12_belowOf)), (402, (0, 12, 2, mX12_book)), (405, (0, 12, 0, mX12_setAside)), (408, (0, 12, 0, mX12_putBack)), (411, (0, 12, 2, mX12_meetOf)), (414, (0, 12, 2, mX12_stepsOf)), (440, (0, 12, 2, mX12_layRoute)), (427, (0, 12, 1, mX12_layDays)), (418, (0, 12, 3, mX12_daysOf)), (430, (0, 12, 3, mX12_nextOf)), (433, (0, 12, 1, mX12_takeWay)), (436, (0, 12, 5, mX12_sizeBehind)), (446, (0, 12, 1, mX12_laySets)), (449, (1, 12, 1, mX12_bits)), (452, (0, 12, 1, mX12_weightOf)), (455, (0, 12, 1, mX12_areApart)), (458, (0, 12, 1, mX12_standFor))]
  | _ => []
def zy_mr (own i : Nat) : Nat × Nat × Nat × zm_Me := ((zy_mrl own).lookup i).getD (99, 99, 0, mX12_isIn)
def zy_kll (own : Nat) : List (Nat × Int64) := match own with
  | 2 => [(90, (1000000 : Int64)), (93, (-1000000 : Int64))]
  | 12 => [(115, (1152921504606846976 : Int64)), (265, (2 : Int64)), (254, (1000000 : Int64)), (256, (-1000000 : Int64)), (310, (421 : Int64)), (312, (307 : Int64)), (314, (30539 : Int64))]
  | _ => []
def zy_kl (own i : Nat) : Int64 := ((zy_kll own).lookup i).getD 0
/-! ===== what the tables must say of a field, of a call ===== -/
def zy_ty (q : Nat × Nat) (ty : FieldType) (fin : Bool) : Prop := match q with
  | (0, 0) => ty = .int ∧ fin = false
  | (0, 1) => ty = .boolean ∧ fin = false
  | (1, _) => ty = .long ∧ fin = false
  | (4, _) => (∃ c, ty = .object c) ∧ fin = false
  | _ => True
def zy_co (ci : Nat) (C : String) (T : u_T) (N : Nat) (ty0 : Nat → FieldType) : Prop := zy_cl[ci]? = some (C, T, N) ∧ (∀ w ∈ u_ws C T N, w ∈ zy_T) ∧ (∀ k, k < N → parseFieldDescriptor (T k).2.2.1 = some (ty0 k)) ∧ (∀ a, a < N → ∀ b, b < N → a ≠ b → (T a).2.1 ≠ (T b).2.1) ∧ (∀ p, p < zy_N → (zy_ly p).1 = ci → (zy_ly p).2 = N) ∧ ∀ k, k < N → zy_ty (zy_fk ci k) (ty0 k) (T k).2.2.2
def zy_fo (own i : Nat) : Prop := ∃ (C : String) (T : u_T) (N : Nat) (ty0 : Nat → FieldType), zy_co (zy_fr own i).1 C T N ty0 ∧ (zy_fr own i).2 < N ∧ Cond.fieldLink (zy_on own) i (T (zy_fr own i).2).1 (T (zy_fr own i).2).2.1 (T (zy_fr own i).2).2.2.1 ∈ zy_T
/-- of a called method: its code, its class, its number of parameters -/
def zy_mc (n : Nat) (me : MethodName × ByteArray × Nat × Option FieldType) : Prop := Cond.code me.1 me.2.1 me.2.2.1 me.2.2.2 ∈ zy_T ∧ Cond.initialized me.1.cls ∈ zy_T ∧ (me.1.cls ≠ "java/lang/invoke/MethodHandle" ∧ me.1.cls ≠ "java/lang/invoke/VarHandle" ∧ (parseMethodDescriptor me.1.desc).map (fun d => d.parameters.length) = some n) ∧ me.2.2.1 ≤ 40
def zy_mv (own i : Nat) : Prop := zy_mc (zy_mr own i).2.2.1 (zy_mr own i).2.2.2 ∧ (∃ (T : u_T) (N : Nat), zy_cl[(zy_mr own i).2.1]? = some ((zy_mr own i).2.2.2.1.cls, T, N)) ∧ Cond.methodLink (zy_on own) i (zy_mr own i).2.2.2.1 ∈ zy_T ∧ Cond.instanceMethod (zy_mr own i).2.2.2.1 ∈ zy_T ∧ Cond.selects (zy_mr own i).2.2.2.1.cls (zy_mr own i).2.2.2.1 (zy_mr own i).2.2.2.1 ∈ zy_T
def zy_ms (own i : Nat) : Prop := zy_mc (zy_mr own i).2.2.1 (zy_mr own i).2.2.2 ∧ Cond.static (zy_mr own i).2.2.2.1 ∈ zy_T ∧ (Cond.methodLink (zy_on own) i (zy_mr own i).2.2.2.1 ∈ zy_T ∨ ((zy_on own = RX6 ∧ i = 79 ∨ zy_on own = RX5 ∧ i = 128) ∧ (zy_mr own i).2.2.2.1 = yX11_within))
def zy_mnk (n own i : Nat) : Prop := match n with
  | 3 => Cond.methodLink (zy_on own) i Lib.Math.max.name ∈ zy_T ∧ Cond.static Lib.Math.max.name ∈ zy_T ∧ Cond.initialized "java/lang/Math" ∈ zy_T ∧ Cond.code Lib.Math.max.name Lib.Math.max.code 2 (some .int) ∈ zy_T
  | 4 => Cond.methodLink (zy_on own) i Lib.Math.min.name ∈ zy_T ∧ Cond.static Lib.Math.min.name ∈ zy_T ∧ Cond.initialized "java/lang/Math" ∈ zy_T ∧ Cond.code Lib.Math.min.name Lib.Math.min.code 2 (some .int) ∈ zy_T
  | 5 => Cond.methodLink (zy_on own) i Lib.Math.abs.name ∈ zy_T ∧ Cond.static Lib.Math.abs.name ∈ zy_T ∧ Cond.initialized "java/lang/Math" ∈ zy_T ∧ Cond.code Lib.Math.abs.name Lib.Math.abs.code 1 (some .int) ∈ zy_T
  | _ => Cond.methodLink (zy_on own) i arraycopyName ∈ zy_T ∧ Cond.native arraycopyName ∈ zy_T ∧ Cond.static arraycopyName ∈ zy_T ∧ Cond.initialized "java/lang/System" ∈ zy_T
def zy_mn (own i : Nat) : Prop := zy_mnk (zy_mr own i).1 own i
/-! the words: their statics, their fields, as the Reader names them -/
def zz_gl : List (Nat × Nat) := [(41, 43), (85, 41), (109, 42), (228, 38), (204, 35), (231, 18), (234, 20), (237, 21), (243, 39), (246, 19), (279, 27), (276, 26), (270, 25), (255, 22), (258, 23), (264, 24), (216, 36), (219, 37), (201, 34), (170, 17), (177, 15), (180, 14), (189, 9), (151, 40)]
def zz_lk : List (Nat × Nat) → Nat → Option Nat
  | [], _ => none
  | (a, b) :: l, i => if i = a then some b else zz_lk l i
theorem zz_lk_mem : ∀ {l : List (Nat × Nat)} {i w : Nat}, zz_lk l i = some w → (i, w) ∈ l := by
  intro l
  induction l with
  | nil => intro i w h; cases h
  | cons q l ih =>
    intro i w h
    obtain ⟨a, b⟩ := q
    simp only [zz_lk] at h
    split at h
    · next e => cases h; rw [e]; exact List.mem_cons_self
    · exact List.mem_cons_of_mem _ (ih h)
theorem zz_ex {a : Nat} (h1 : 1000 ≤ a) (h2 : a < 1044) : ∃ w : Nat, w < 44 ∧ a = 1000 + w := ⟨a - 1000, by omega, by omega⟩
def zz_gs (own i : Nat) : Option Nat := if own = 5 then zz_lk zz_gl i else none
def zz_gf (own i : Nat) : Nat := if own = 5 then (if i = 132 then 1 else if i = 222 then 2 else if i = 207 then 3 else 0) else 0
def zz_fv (f w : Nat) : Int32 := match f with
  | 0 => zz_ck.getD w 0
  | 1 => zz_nc.getD w 0
  | _ => zz_oc.getD w 0
theorem zz_gl_ok : ∀ q ∈ zz_gl, q.2 < 44 ∧ Cond.fieldLink RX5 q.1 "ApologyUp$Word" (zz_nm.getD q.2 "") "LApologyUp$Word;" ∈ zy_T := by decide +kernel
theorem zz_gs_ok {own i w : Nat} (h : zz_gs own i = some w) : w < 44 ∧ Cond.fieldLink (zy_on own) i "ApologyUp$Word" (zz_nm.getD w "") "LApologyUp$Word;" ∈ zy_T := by
  unfold zz_gs at h
  split at h
  · next e => subst e; exact zz_gl_ok _ (zz_lk_mem h)
  · cases h
theorem zz_gf_l : Cond.fieldLink RX5 132 "ApologyUp$Word" "clauseKind" "I" ∈ zy_T ∧ Cond.fieldLink RX5 222 "ApologyUp$Word" "nameCode" "I" ∈ zy_T ∧ Cond.fieldLink RX5 207 "ApologyUp$Word" "opCode" "I" ∈ zy_T := by decide +kernel
theorem zz_gf_ok {own i f : Nat} (h : zz_gf own i = f + 1) : ∃ q ∈ zz_F, q.1 = "ApologyUp$Word" ∧ Cond.fieldLink (zy_on own) i "ApologyUp$Word" q.2.1 q.2.2.1 ∈ zy_T ∧ ∀ w, q.2.2.2.getD w 0 = zz_fv f w := by
  unfold zz_gf at h
  split at h
  · next e =>
    subst e
    split at h
    · next e =>
      subst e
      obtain rfl : f = 0 := by omega
      exact ⟨_, List.mem_cons_self, rfl, zz_gf_l.1, fun w => rfl⟩
    · split at h
      · next e =>
        subst e
        obtain rfl : f = 1 := by omega
        exact ⟨_, List.mem_cons_of_mem _ List.mem_cons_self, rfl, zz_gf_l.2.1, fun w => rfl⟩
      · split at h
        · next e =>
          subst e
          obtain rfl : f = 2 := by omega
          exact ⟨_, List.mem_cons_of_mem _ (List.mem_cons_of_mem _ List.mem_cons_self), rfl, zz_gf_l.2.2, fun w => rfl⟩
        · cases h
  · cases h
