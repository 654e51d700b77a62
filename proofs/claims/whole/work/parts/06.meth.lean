def mX0_init : zMd := (yX0_init, cX0_init, none, 1, 1, 20, 0, 0, 1)
def mX0_begin : zMd := (yX0_begin, cX0_begin, none, 2, 0, 0, 0, 1, 0)
def mX0_draw : zMd := (yX0_draw, cX0_draw, some .int, 1, 0, 0, 0, 0, 0)
def mX2_init : zMd := (yX2_init, cX2_init, none, 2, 2, 40, 2, 0, 1)
def mX2_size : zMd := (yX2_size, cX2_size, some .int, 1, 0, 0, 2, 0, 0)
def mX2_clear : zMd := (yX2_clear, cX2_clear, none, 1, 0, 0, 2, 0, 0)
def mX2_keep : zMd := (yX2_keep, cX2_keep, none, 2, 2, 81, 2, 1, 0)
def mX2_goBack : zMd := (yX2_goBack, cX2_goBack, some .int, 2, 2, 81, 2, 1, 0)
def mX3_init : zMd := (yX3_init, cX3_init, none, 1, 2, 40, 3, 0, 1)
def mX4_init : zMd := (yX4_init, cX4_init, none, 1, 1, 20, 4, 0, 1)
def mX4_size : zMd := (yX4_size, cX4_size, some .int, 1, 0, 0, 4, 0, 0)
def mX4_isFull : zMd := (yX4_isFull, cX4_isFull, some .boolean, 1, 0, 0, 4, 0, 0)
def mX4_clear : zMd := (yX4_clear, cX4_clear, none, 1, 0, 0, 4, 0, 0)
def mX4_add : zMd := (yX4_add, cX4_add, none, 4, 0, 0, 4, 3, 0)
def mX4_copyFrom : zMd := (yX4_copyFrom, cX4_copyFrom, none, 2, 1, 60, 4, 1, 0)
def mX4_holdFrom : zMd := (yX4_holdFrom, cX4_holdFrom, some .boolean, 5, 4, 99, 4, 2, 0)
def mX4_holdAt : zMd := (yX4_holdAt, cX4_holdAt, some .boolean, 4, 1, 23, 4, 2, 0)
def mX5_init : zMd := (yX5_init, cX5_init, none, 5, 1, 21, 5, 2, 1)
def mX5_quarters : zMd := (yX5_quarters, cX5_quarters, some .int, 6, 2, 50, 5, 2, 0)
def mX5_negate : zMd := (yX5_negate, cX5_negate, none, 2, 0, 0, 5, 1, 0)
def mX5_combine : zMd := (yX5_combine, cX5_combine, none, 7, 1, 24, 5, 2, 0)
def mX5_reckon : zMd := (yX5_reckon, cX5_reckon, some .long, 5, 0, 0, 5, 3, 0)
def mX5_judge : zMd := (yX5_judge, cX5_judge, some .boolean, 5, 0, 0, 5, 3, 0)
def mX6_init : zMd := (yX6_init, cX6_init, none, 1, 1, 20, 6, 0, 1)
def mX6_read : zMd := (yX6_read, cX6_read, some .int, 4, 10, 221, 6, 1, 0)
def mX6_made : zMd := (yX6_made, cX6_made, some (.object RX5), 1, 2, 45, 6, 0, 0)
def mX6_take : zMd := (yX6_take, cX6_take, some .int, 2, 9, 200, 6, 1, 0)
def mX6_takeTurn : zMd := (yX6_takeTurn, cX6_takeTurn, some .int, 2, 7, 155, 6, 1, 0)
def mX6_takeValue : zMd := (yX6_takeValue, cX6_takeValue, some .int, 4, 7, 155, 6, 1, 0)
def mX6_takeFact : zMd := (yX6_takeFact, cX6_takeFact, some .int, 3, 8, 178, 6, 1, 0)
def mX6_takeBehindValue : zMd := (yX6_takeBehindValue, cX6_takeBehindValue, some .int, 3, 8, 178, 6, 1, 0)
def mX6_takeBehindTurn : zMd := (yX6_takeBehindTurn, cX6_takeBehindTurn, some .int, 2, 7, 155, 6, 1, 0)
def mX6_takeBehindFact : zMd := (yX6_takeBehindFact, cX6_takeBehindFact, some .int, 4, 7, 155, 6, 1, 0)
def mX6_takeEnd : zMd := (yX6_takeEnd, cX6_takeEnd, some .int, 2, 2, 42, 6, 1, 0)
def mX6_partCounted : zMd := (yX6_partCounted, cX6_partCounted, some .int, 1, 0, 0, 6, 0, 0)
def mX6_order : zMd := (yX6_order, cX6_order, none, 2, 0, 0, 6, 1, 0)
def mX6_await : zMd := (yX6_await, cX6_await, none, 2, 0, 0, 6, 1, 0)
def mX6_settle : zMd := (yX6_settle, cX6_settle, none, 2, 1, 21, 6, 1, 0)
def mX6_rankOf : zMd := (yX6_rankOf, cX6_rankOf, some .int, 1, 0, 0, 6, 1, 0)
def mX6_operatorOf : zMd := (yX6_operatorOf, cX6_operatorOf, some .int, 1, 0, 0, 6, 1, 0)
def mX7_init : zMd := (yX7_init, cX7_init, none, 1, 1, 20, 7, 0, 1)
def mX7_read : zMd := (yX7_read, cX7_read, some .int, 6, 7, 155, 7, 2, 0)
def mX7_faultOfClause : zMd := (yX7_faultOfClause, cX7_faultOfClause, some .int, 5, 1, 21, 7, 3, 0)
def mX7_readNumbers : zMd := (yX7_readNumbers, cX7_readNumbers, some .int, 7, 3, 63, 7, 3, 0)
def mX7_mostOf : zMd := (yX7_mostOf, cX7_mostOf, some .int, 3, 2, 41, 7, 3, 0)
def mX7_take : zMd := (yX7_take, cX7_take, none, 3, 2, 48, 7, 2, 0)
def mX8_init : zMd := (yX8_init, cX8_init, none, 1, 1, 20, 8, 0, 1)
def mX8_length : zMd := (yX8_length, cX8_length, some .int, 1, 0, 0, 8, 0, 0)
def mX8_hasRoom : zMd := (yX8_hasRoom, cX8_hasRoom, some .boolean, 2, 0, 0, 8, 1, 0)
def mX8_append : zMd := (yX8_append, cX8_append, none, 3, 0, 0, 8, 1, 0)
def mX8_cutTo : zMd := (yX8_cutTo, cX8_cutTo, none, 2, 0, 0, 8, 1, 0)
def mX8_rewind : zMd := (yX8_rewind, cX8_rewind, none, 1, 0, 0, 8, 0, 0)
def mX8_kind : zMd := (yX8_kind, cX8_kind, some .int, 1, 0, 0, 8, 0, 0)
def mX8_value : zMd := (yX8_value, cX8_value, some .int, 1, 0, 0, 8, 0, 0)
def mX8_faultOf : zMd := (yX8_faultOf, cX8_faultOf, some .int, 2, 0, 0, 8, 1, 0)
def mX8_next : zMd := (yX8_next, cX8_next, none, 2, 2, 42, 8, 0, 0)
def mX8_wordIn : zMd := (yX8_wordIn, cX8_wordIn, some .int, 5, 6, 131, 8, 1, 0)
def mX8_byteAt : zMd := (yX8_byteAt, cX8_byteAt, some .int, 2, 0, 0, 8, 1, 0)
def mX8_isDigit : zMd := (yX8_isDigit, cX8_isDigit, some .boolean, 1, 0, 0, 8, 1, 0)
def mX8_isLetter : zMd := (yX8_isLetter, cX8_isLetter, some .boolean, 1, 0, 0, 8, 1, 0)
def mX8_readNumber : zMd := (yX8_readNumber, cX8_readNumber, none, 1, 1, 21, 8, 0, 0)
def mX8_readWord : zMd := (yX8_readWord, cX8_readWord, none, 1, 1, 21, 8, 0, 0)
def mX8_readSign : zMd := (yX8_readSign, cX8_readSign, none, 2, 1, 21, 8, 1, 0)
def mX8_isWord : zMd := (yX8_isWord, cX8_isWord, some .boolean, 6, 5, 106, 8, 3, 0)
def mX9_init : zMd := (yX9_init, cX9_init, none, 1, 1, 20, 9, 0, 1)
def mX9_get : zMd := (yX9_get, cX9_get, some .int, 2, 0, 0, 9, 1, 0)
def mX9_set : zMd := (yX9_set, cX9_set, none, 3, 0, 0, 9, 2, 0)
def mX9_of : zMd := (yX9_of, cX9_of, some .int, 4, 0, 0, 9, 2, 0)
def mX9_put : zMd := (yX9_put, cX9_put, none, 5, 0, 0, 9, 3, 0)
def mX9_copyFrom : zMd := (yX9_copyFrom, cX9_copyFrom, none, 2, 1, 60, 9, 1, 0)
def mX9_clear : zMd := (yX9_clear, cX9_clear, none, 2, 1, 22, 9, 0, 0)
def mX9_addGoer : zMd := (yX9_addGoer, cX9_addGoer, none, 5, 1, 24, 9, 3, 0)
def mX9_cells : zMd := (yX9_cells, cX9_cells, some .int, 1, 1, 21, 9, 0, 0)
def mX9_isOn : zMd := (yX9_isOn, cX9_isOn, some .boolean, 2, 1, 23, 9, 1, 0)
def mX9_hasStone : zMd := (yX9_hasStone, cX9_hasStone, some .boolean, 2, 0, 0, 9, 1, 0)
def mX9_turnStone : zMd := (yX9_turnStone, cX9_turnStone, none, 2, 1, 22, 9, 1, 0)
def mX9_stones : zMd := (yX9_stones, cX9_stones, some .int, 3, 0, 0, 9, 0, 0)
def mX9_bitsOf : zMd := (yX9_bitsOf, cX9_bitsOf, some .int, 4, 1, 23, 9, 1, 0)
def mX9_foodOfAll : zMd := (yX9_foodOfAll, cX9_foodOfAll, some .int, 3, 1, 23, 9, 0, 0)
def mX9_lastUsed : zMd := (yX9_lastUsed, cX9_lastUsed, some .int, 1, 0, 0, 9, 0, 0)
def mX9_whereabouts : zMd := (yX9_whereabouts, cX9_whereabouts, some .int, 4, 1, 23, 9, 1, 0)
def mX9_rowOf : zMd := (yX9_rowOf, cX9_rowOf, some .int, 3, 0, 0, 9, 1, 0)
def mX9_columnOf : zMd := (yX9_columnOf, cX9_columnOf, some .int, 3, 0, 0, 9, 1, 0)
def mX9_margin : zMd := (yX9_margin, cX9_margin, some .int, 4, 0, 0, 9, 2, 0)
def mX9_nextCell : zMd := (yX9_nextCell, cX9_nextCell, some .int, 4, 0, 0, 9, 2, 0)
def mX9_placeOf : zMd := (yX9_placeOf, cX9_placeOf, some .int, 3, 1, 22, 9, 2, 0)
def mX9_cellAt : zMd := (yX9_cellAt, cX9_cellAt, some .int, 4, 0, 0, 9, 2, 0)
def mX9_pass : zMd := (yX9_pass, cX9_pass, none, 5, 3, 75, 9, 1, 0)
def mX9_goOn : zMd := (yX9_goOn, cX9_goOn, none, 5, 2, 44, 9, 1, 0)
def mX9_bideOut : zMd := (yX9_bideOut, cX9_bideOut, none, 4, 2, 48, 9, 1, 0)
def mX9_comeIn : zMd := (yX9_comeIn, cX9_comeIn, none, 5, 1, 24, 9, 1, 0)
def mX9_othersIn : zMd := (yX9_othersIn, cX9_othersIn, some .int, 5, 0, 0, 9, 2, 0)
def mX9_wordOf : zMd := (yX9_wordOf, cX9_wordOf, some .int, 5, 1, 24, 9, 2, 0)
def mX10_init : zMd := (yX10_init, cX10_init, none, 2, 3, 61, 10, 0, 1)
def mX10_feed : zMd := (yX10_feed, cX10_feed, some .int, 6, 1, 22, 10, 5, 0)
def mX10_end : zMd := (yX10_end, cX10_end, some .int, 2, 1, 22, 10, 1, 0)
def mX10_sheet : zMd := (yX10_sheet, cX10_sheet, some .int, 2, 8, 180, 10, 0, 0)
def mX10_rule : zMd := (yX10_rule, cX10_rule, some .int, 2, 11, 244, 10, 0, 0)
def mX10_force : zMd := (yX10_force, cX10_force, some .int, 3, 1, 22, 10, 1, 0)
def mX10_goer : zMd := (yX10_goer, cX10_goer, some .int, 3, 3, 62, 10, 2, 0)
def mX10_join : zMd := (yX10_join, cX10_join, some .int, 3, 2, 42, 10, 2, 0)
def mX10_stoneIn : zMd := (yX10_stoneIn, cX10_stoneIn, some .int, 2, 3, 62, 10, 1, 0)
def mX10_step : zMd := (yX10_step, cX10_step, some .int, 1, 4, 102, 10, 0, 0)
def mX10_give : zMd := (yX10_give, cX10_give, some .int, 4, 3, 102, 10, 2, 0)
def mX10_way : zMd := (yX10_way, cX10_way, some .int, 4, 4, 102, 10, 2, 0)
def mX10_stone : zMd := (yX10_stone, cX10_stone, some .int, 2, 3, 102, 10, 1, 0)
def mX10_fold : zMd := (yX10_fold, cX10_fold, some .int, 4, 3, 102, 10, 2, 0)
def mX10_undo : zMd := (yX10_undo, cX10_undo, some .int, 1, 3, 102, 10, 0, 0)
def mX10_ahead : zMd := (yX10_ahead, cX10_ahead, some .int, 4, 5, 122, 10, 3, 0)
def mX10_home : zMd := (yX10_home, cX10_home, some .int, 3, 4, 101, 10, 1, 0)
def mX10_gone : zMd := (yX10_gone, cX10_gone, some .int, 2, 5, 122, 10, 1, 0)
def mX10_leastFood : zMd := (yX10_leastFood, cX10_leastFood, some .int, 5, 4, 101, 10, 2, 0)
def mX10_meet : zMd := (yX10_meet, cX10_meet, some .int, 5, 4, 101, 10, 2, 0)
def mX10_shortest : zMd := (yX10_shortest, cX10_shortest, some .int, 3, 5, 112, 10, 2, 0)
def mX10_seen : zMd := (yX10_seen, cX10_seen, some .int, 6, 4, 101, 10, 2, 0)
def mX10_longest : zMd := (yX10_longest, cX10_longest, some .int, 5, 5, 124, 10, 2, 0)
def mX10_bestFold : zMd := (yX10_bestFold, cX10_bestFold, some .int, 7, 6, 143, 10, 2, 0)
def mX10_bestStone : zMd := (yX10_bestStone, cX10_bestStone, some .int, 7, 6, 143, 10, 2, 0)
def mX10_rests : zMd := (yX10_rests, cX10_rests, some .int, 9, 5, 126, 10, 4, 0)
def mX10_ring : zMd := (yX10_ring, cX10_ring, some .int, 4, 5, 123, 10, 1, 0)
def mX10_bread : zMd := (yX10_bread, cX10_bread, some .int, 9, 3, 62, 10, 2, 0)
def mX10_note : zMd := (yX10_note, cX10_note, some .int, 5, 3, 62, 10, 3, 0)
def mX10_ruled : zMd := (yX10_ruled, cX10_ruled, some .int, 5, 6, 144, 10, 1, 0)
def mX10_look : zMd := (yX10_look, cX10_look, some .int, 8, 6, 148, 10, 2, 0)
def mX10_folds : zMd := (yX10_folds, cX10_folds, some .int, 7, 6, 145, 10, 1, 0)
def mX10_seed : zMd := (yX10_seed, cX10_seed, some .int, 3, 0, 0, 10, 1, 0)
def mX10_gusts : zMd := (yX10_gusts, cX10_gusts, some .int, 9, 4, 101, 10, 4, 0)
def mX10_count : zMd := (yX10_count, cX10_count, some .int, 2, 2, 46, 10, 1, 0)
def mX10_image : zMd := (yX10_image, cX10_image, some .int, 3, 2, 81, 10, 1, 0)
def mX10_back : zMd := (yX10_back, cX10_back, some .int, 3, 2, 81, 10, 1, 0)
def mX10_within : zMd := (yX10_within, cX10_within, some .boolean, 3, 0, 0, 10, 3, 0)
def mX10_hasSheet : zMd := (yX10_hasSheet, cX10_hasSheet, some .boolean, 1, 1, 21, 10, 0, 0)
def mX10_goers : zMd := (yX10_goers, cX10_goers, some .int, 1, 1, 21, 10, 0, 0)
def mX10_isGoer : zMd := (yX10_isGoer, cX10_isGoer, some .boolean, 2, 2, 41, 10, 1, 0)
def mX10_isOn : zMd := (yX10_isOn, cX10_isOn, some .boolean, 2, 3, 62, 10, 1, 0)
def mX10_isCell : zMd := (yX10_isCell, cX10_isCell, some .boolean, 2, 2, 41, 10, 1, 0)
def mX10_isEdge : zMd := (yX10_isEdge, cX10_isEdge, some .boolean, 1, 1, 22, 10, 1, 0)
def mX10_ruleOf : zMd := (yX10_ruleOf, cX10_ruleOf, some (.object RX5), 2, 1, 22, 10, 1, 0)
def mX10_ruleInForce : zMd := (yX10_ruleInForce, cX10_ruleInForce, some (.object RX5), 1, 2, 43, 10, 0, 0)
def mX10_restart : zMd := (yX10_restart, cX10_restart, none, 1, 2, 81, 10, 0, 0)
def mX10_walkOn : zMd := (yX10_walkOn, cX10_walkOn, none, 4, 4, 99, 10, 2, 0)
def mX10_hungerOf : zMd := (yX10_hungerOf, cX10_hungerOf, some .int, 2, 1, 23, 10, 1, 0)
def mX10_costBehind : zMd := (yX10_costBehind, cX10_costBehind, some .int, 2, 5, 122, 10, 1, 0)
def mX10_lostOf : zMd := (yX10_lostOf, cX10_lostOf, some .int, 1, 0, 0, 10, 1, 0)
def mX10_foodOf : zMd := (yX10_foodOf, cX10_foodOf, some .int, 1, 0, 0, 10, 1, 0)
def mX10_findWaysFrom : zMd := (yX10_findWaysFrom, cX10_findWaysFrom, none, 6, 4, 87, 10, 1, 0)
def mX10_spreadFrom : zMd := (yX10_spreadFrom, cX10_spreadFrom, some .boolean, 6, 3, 62, 10, 1, 0)
def mX10_countOut : zMd := (yX10_countOut, cX10_countOut, none, 4, 4, 101, 10, 1, 0)
def mX10_countOn : zMd := (yX10_countOn, cX10_countOn, none, 6, 4, 101, 10, 4, 0)
def mX10_isRest : zMd := (yX10_isRest, cX10_isRest, some .boolean, 5, 0, 0, 10, 1, 0)
def mX10_trackAll : zMd := (yX10_trackAll, cX10_trackAll, none, 3, 4, 101, 10, 0, 0)
def mX10_sameTrack : zMd := (yX10_sameTrack, cX10_sameTrack, some .boolean, 4, 0, 0, 10, 2, 0)
def mX10_rightlyRuled : zMd := (yX10_rightlyRuled, cX10_rightlyRuled, some .boolean, 2, 5, 123, 10, 1, 0)
def mX10_trackFitting : zMd := (yX10_trackFitting, cX10_trackFitting, some .int, 6, 5, 123, 10, 1, 0)
def mX10_mostAlike : zMd := (yX10_mostAlike, cX10_mostAlike, some .int, 7, 1, 21, 10, 2, 0)
def mX10_leadIn : zMd := (yX10_leadIn, cX10_leadIn, some .int, 2, 0, 0, 10, 2, 0)
def mX10_rightlyFolded : zMd := (yX10_rightlyFolded, cX10_rightlyFolded, some .boolean, 3, 5, 123, 10, 1, 0)
def mX10_behindAllLike : zMd := (yX10_behindAllLike, cX10_behindAllLike, some .int, 3, 1, 20, 10, 1, 0)
def mX10_gust : zMd := (yX10_gust, cX10_gust, none, 4, 2, 44, 10, 1, 0)
def mX11_init : zMd := (yX11_init, cX11_init, none, 1, 1, 20, 11, 0, 1)
def mX11_in : zMd := (yX11_in, cX11_in, some .boolean, 6, 0, 0, 11, 3, 0)
def mX11_four : zMd := (yX11_four, cX11_four, none, 3, 0, 0, 11, 1, 0)
def mX11_feed : zMd := (yX11_feed, cX11_feed, some .int, 6, 1, 22, 11, 5, 0)
def mX11_end : zMd := (yX11_end, cX11_end, some .int, 2, 0, 0, 11, 1, 0)
def mX11_fails : zMd := (yX11_fails, cX11_fails, some .boolean, 3, 0, 0, 11, 2, 0)
def mX11_see : zMd := (yX11_see, cX11_see, some .int, 1, 0, 0, 11, 0, 0)
def mX11_isDigit : zMd := (yX11_isDigit, cX11_isDigit, some .boolean, 2, 0, 0, 11, 1, 0)
def mX11_isLetter : zMd := (yX11_isLetter, cX11_isLetter, some .boolean, 2, 0, 0, 11, 1, 0)
def mX11_isWord : zMd := (yX11_isWord, cX11_isWord, some .boolean, 6, 1, 21, 11, 1, 0)
def mX11_passWord : zMd := (yX11_passWord, cX11_passWord, none, 1, 1, 21, 11, 0, 0)
def mX11_takesWord : zMd := (yX11_takesWord, cX11_takesWord, some .boolean, 3, 2, 46, 11, 1, 0)
def mX11_numberHere : zMd := (yX11_numberHere, cX11_numberHere, some .boolean, 5, 1, 25, 11, 2, 0)
def mX11_wordHere : zMd := (yX11_wordHere, cX11_wordHere, some .int, 1, 2, 46, 11, 0, 0)
def mX11_puts : zMd := (yX11_puts, cX11_puts, none, 3, 0, 0, 11, 2, 0)
def mX11_makes : zMd := (yX11_makes, cX11_makes, some .boolean, 2, 1, 22, 11, 1, 0)
def mX11_opens : zMd := (yX11_opens, cX11_opens, some .boolean, 2, 1, 22, 11, 1, 0)
def mX11_strength : zMd := (yX11_strength, cX11_strength, some .int, 1, 0, 0, 11, 1, 0)
def mX11_layDown : zMd := (yX11_layDown, cX11_layDown, none, 2, 1, 22, 11, 1, 0)
def mX11_value : zMd := (yX11_value, cX11_value, some .boolean, 3, 3, 66, 11, 0, 0)
def mX11_term : zMd := (yX11_term, cX11_term, some .boolean, 2, 4, 88, 11, 0, 0)
def mX11_sum : zMd := (yX11_sum, cX11_sum, some .boolean, 2, 5, 109, 11, 0, 0)
def mX11_compare : zMd := (yX11_compare, cX11_compare, some .boolean, 5, 6, 130, 11, 0, 0)
def mX11_fact : zMd := (yX11_fact, cX11_fact, some .boolean, 3, 7, 154, 11, 0, 0)
def mX11_isInside : zMd := (yX11_isInside, cX11_isInside, some .boolean, 2, 0, 0, 11, 0, 0)
def mX11_closes : zMd := (yX11_closes, cX11_closes, none, 1, 2, 43, 11, 0, 0)
def mX11_tested : zMd := (yX11_tested, cX11_tested, some .boolean, 3, 8, 176, 11, 0, 0)
def mX11_isTurnHere : zMd := (yX11_isTurnHere, cX11_isTurnHere, some .boolean, 2, 9, 198, 11, 0, 0)
def mX11_cellHere : zMd := (yX11_cellHere, cX11_cellHere, some .boolean, 4, 2, 49, 11, 3, 0)
def mX11_lastCell : zMd := (yX11_lastCell, cX11_lastCell, some .int, 1, 0, 0, 11, 0, 0)
def mX11_isSheetHere : zMd := (yX11_isSheetHere, cX11_isSheetHere, some .boolean, 2, 3, 72, 11, 1, 0)
def mX11_isGoerHere : zMd := (yX11_isGoerHere, cX11_isGoerHere, some .boolean, 3, 3, 72, 11, 1, 0)
def mX11_isJoinHere : zMd := (yX11_isJoinHere, cX11_isJoinHere, some .boolean, 2, 3, 72, 11, 0, 0)
def mX11_isStoneHere : zMd := (yX11_isStoneHere, cX11_isStoneHere, some .boolean, 1, 2, 49, 11, 0, 0)
def mX11_sheetLineHere : zMd := (yX11_sheetLineHere, cX11_sheetLineHere, some .boolean, 2, 4, 94, 11, 1, 0)
def mX11_isSheetWord : zMd := (yX11_isSheetWord, cX11_isSheetWord, some .boolean, 1, 2, 46, 11, 0, 0)
def mX11_clauseHere : zMd := (yX11_clauseHere, cX11_clauseHere, some .boolean, 3, 10, 219, 11, 0, 0)
def mX11_readsAll : zMd := (yX11_readsAll, cX11_readsAll, some .boolean, 2, 11, 241, 11, 0, 0)
def mX11_rule : zMd := (yX11_rule, cX11_rule, some .int, 1, 12, 262, 11, 0, 0)
def mX11_sheet : zMd := (yX11_sheet, cX11_sheet, some .int, 2, 12, 262, 11, 0, 0)
def mX11_isRule : zMd := (yX11_isRule, cX11_isRule, some .boolean, 2, 0, 0, 11, 1, 0)
def mX11_push : zMd := (yX11_push, cX11_push, none, 3, 0, 0, 11, 1, 0)
def mX11_pop : zMd := (yX11_pop, cX11_pop, some .long, 1, 0, 0, 11, 0, 0)
def mX11_one : zMd := (yX11_one, cX11_one, some .long, 5, 0, 0, 11, 3, 0)
def mX11_reckons : zMd := (yX11_reckons, cX11_reckons, some .long, 11, 1, 24, 11, 3, 0)
def mX11_isSheet : zMd := (yX11_isSheet, cX11_isSheet, some .boolean, 1, 0, 0, 11, 0, 0)
def mX11_cells : zMd := (yX11_cells, cX11_cells, some .int, 1, 0, 0, 11, 0, 0)
def mX11_isCell : zMd := (yX11_isCell, cX11_isCell, some .boolean, 2, 1, 20, 11, 1, 0)
def mX11_isGoer : zMd := (yX11_isGoer, cX11_isGoer, some .boolean, 2, 0, 0, 11, 1, 0)
def mX11_isEdge : zMd := (yX11_isEdge, cX11_isEdge, some .boolean, 2, 1, 25, 11, 1, 0)
def mX11_cellOf : zMd := (yX11_cellOf, cX11_cellOf, some .int, 2, 0, 0, 11, 1, 0)
def mX11_facesOf : zMd := (yX11_facesOf, cX11_facesOf, some .int, 2, 0, 0, 11, 1, 0)
def mX11_foodOf : zMd := (yX11_foodOf, cX11_foodOf, some .int, 2, 0, 0, 11, 1, 0)
def mX11_statusOf : zMd := (yX11_statusOf, cX11_statusOf, some .int, 2, 0, 0, 11, 1, 0)
def mX11_isOn : zMd := (yX11_isOn, cX11_isOn, some .boolean, 2, 1, 21, 11, 1, 0)
def mX11_onesWhoAre : zMd := (yX11_onesWhoAre, cX11_onesWhoAre, some .int, 4, 1, 21, 11, 1, 0)
def mX11_bits : zMd := (yX11_bits, cX11_bits, some .int, 3, 0, 0, 11, 1, 0)
def mX11_foodAll : zMd := (yX11_foodAll, cX11_foodAll, some .int, 3, 1, 21, 11, 0, 0)
def mX11_marginOf : zMd := (yX11_marginOf, cX11_marginOf, some .int, 4, 0, 0, 11, 2, 0)
def mX11_nextOf : zMd := (yX11_nextOf, cX11_nextOf, some .int, 3, 1, 23, 11, 2, 0)
def mX11_cellAt : zMd := (yX11_cellAt, cX11_cellAt, some .int, 4, 0, 0, 11, 2, 0)
def mX11_placeAlong : zMd := (yX11_placeAlong, cX11_placeAlong, some .int, 3, 0, 0, 11, 2, 0)
def mX11_isStone : zMd := (yX11_isStone, cX11_isStone, some .boolean, 2, 0, 0, 11, 1, 0)
def mX11_begins : zMd := (yX11_begins, cX11_begins, none, 3, 0, 0, 11, 0, 0)
def mX11_force : zMd := (yX11_force, cX11_force, some .int, 3, 1, 21, 11, 1, 0)
def mX11_goer : zMd := (yX11_goer, cX11_goer, some .int, 3, 2, 42, 11, 2, 0)
def mX11_join : zMd := (yX11_join, cX11_join, some .int, 3, 2, 46, 11, 2, 0)
def mX11_stoneIn : zMd := (yX11_stoneIn, cX11_stoneIn, some .int, 2, 2, 41, 11, 1, 0)
def mX11_summedBy : zMd := (yX11_summedBy, cX11_summedBy, some .long, 4, 2, 54, 11, 1, 0)
def mX11_quartersOf : zMd := (yX11_quartersOf, cX11_quartersOf, some .int, 6, 3, 77, 11, 1, 0)
def mX11_walks : zMd := (yX11_walks, cX11_walks, none, 4, 4, 102, 11, 1, 0)
def mX11_comesOn : zMd := (yX11_comesOn, cX11_comesOn, none, 5, 1, 23, 11, 1, 0)
def mX11_goesOut : zMd := (yX11_goesOut, cX11_goesOut, none, 3, 2, 47, 11, 1, 0)
def mX11_passes : zMd := (yX11_passes, cX11_passes, none, 2, 5, 125, 11, 0, 0)
def mX11_passesAll : zMd := (yX11_passesAll, cX11_passesAll, none, 3, 6, 146, 11, 1, 0)
def mX11_keepsAct : zMd := (yX11_keepsAct, cX11_keepsAct, none, 2, 0, 0, 11, 0, 0)
def mX11_undo : zMd := (yX11_undo, cX11_undo, some .int, 2, 0, 0, 11, 0, 0)
def mX11_step : zMd := (yX11_step, cX11_step, some .int, 1, 6, 146, 11, 0, 0)
def mX11_give : zMd := (yX11_give, cX11_give, some .int, 4, 1, 25, 11, 2, 0)
def mX11_way : zMd := (yX11_way, cX11_way, some .int, 4, 2, 42, 11, 2, 0)
def mX11_stone : zMd := (yX11_stone, cX11_stone, some .int, 2, 2, 41, 11, 1, 0)
def mX11_fold : zMd := (yX11_fold, cX11_fold, some .int, 4, 2, 46, 11, 2, 0)
def mX11_keeps : zMd := (yX11_keeps, cX11_keeps, none, 2, 0, 0, 11, 0, 0)
def mX11_laysBack : zMd := (yX11_laysBack, cX11_laysBack, none, 2, 0, 0, 11, 0, 0)
def mX11_ahead : zMd := (yX11_ahead, cX11_ahead, some .int, 5, 7, 168, 11, 3, 0)
def mX11_home : zMd := (yX11_home, cX11_home, some .int, 4, 6, 146, 11, 1, 0)
def mX11_gone : zMd := (yX11_gone, cX11_gone, some .int, 3, 7, 168, 11, 1, 0)
def mX11_leastFood : zMd := (yX11_leastFood, cX11_leastFood, some .int, 5, 7, 168, 11, 2, 0)
def mX11_meet : zMd := (yX11_meet, cX11_meet, some .int, 5, 6, 146, 11, 2, 0)
def mX11_nears : zMd := (yX11_nears, cX11_nears, some .boolean, 3, 1, 21, 11, 2, 0)
def mX11_goesFrom : zMd := (yX11_goesFrom, cX11_goesFrom, some .boolean, 4, 2, 45, 11, 2, 0)
def mX11_shortest : zMd := (yX11_shortest, cX11_shortest, some .int, 6, 3, 68, 11, 2, 0)
def mX11_seen : zMd := (yX11_seen, cX11_seen, some .int, 5, 6, 146, 11, 2, 0)
def mX11_longest : zMd := (yX11_longest, cX11_longest, some .int, 7, 6, 146, 11, 2, 0)
def mX11_weighs : zMd := (yX11_weighs, cX11_weighs, none, 5, 7, 168, 11, 2, 0)
def mX11_bestFold : zMd := (yX11_bestFold, cX11_bestFold, some .int, 4, 8, 192, 11, 2, 0)
def mX11_bestStone : zMd := (yX11_bestStone, cX11_bestStone, some .int, 4, 8, 192, 11, 2, 0)
def mX11_isRest : zMd := (yX11_isRest, cX11_isRest, some .boolean, 4, 0, 0, 11, 2, 0)
def mX11_rests : zMd := (yX11_rests, cX11_rests, some .int, 8, 6, 146, 11, 4, 0)
def mX11_whereOf : zMd := (yX11_whereOf, cX11_whereOf, some .int, 4, 1, 21, 11, 1, 0)
def mX11_areAlike : zMd := (yX11_areAlike, cX11_areAlike, some .boolean, 4, 0, 0, 11, 2, 0)
def mX11_ring : zMd := (yX11_ring, cX11_ring, some .int, 4, 6, 146, 11, 1, 0)
def mX11_shortOf : zMd := (yX11_shortOf, cX11_shortOf, some .int, 2, 1, 21, 11, 1, 0)
def mX11_bread : zMd := (yX11_bread, cX11_bread, some .int, 10, 2, 42, 11, 2, 0)
def mX11_note : zMd := (yX11_note, cX11_note, some .int, 5, 2, 41, 11, 3, 0)
def mX11_cellOn : zMd := (yX11_cellOn, cX11_cellOn, some .int, 2, 2, 42, 11, 1, 0)
def mX11_areNotesSo : zMd := (yX11_areNotesSo, cX11_areNotesSo, some .boolean, 3, 3, 63, 11, 1, 0)
def mX11_areAllSo : zMd := (yX11_areAllSo, cX11_areAllSo, some .boolean, 6, 6, 146, 11, 2, 0)
def mX11_fillsFits : zMd := (yX11_fillsFits, cX11_fillsFits, none, 4, 7, 171, 11, 1, 0)
def mX11_ruled : zMd := (yX11_ruled, cX11_ruled, some .int, 5, 8, 194, 11, 1, 0)
def mX11_alikeAt : zMd := (yX11_alikeAt, cX11_alikeAt, some .int, 6, 0, 0, 11, 1, 0)
def mX11_look : zMd := (yX11_look, cX11_look, some .int, 7, 8, 194, 11, 2, 0)
def mX11_folds : zMd := (yX11_folds, cX11_folds, some .int, 6, 7, 171, 11, 1, 0)
def mX11_seed : zMd := (yX11_seed, cX11_seed, some .int, 3, 0, 0, 11, 1, 0)
def mX11_draw : zMd := (yX11_draw, cX11_draw, some .int, 2, 0, 0, 11, 1, 0)
def mX11_blows : zMd := (yX11_blows, cX11_blows, none, 3, 2, 42, 11, 0, 0)
def mX11_gusts : zMd := (yX11_gusts, cX11_gusts, some .int, 9, 6, 146, 11, 4, 0)
def mX11_count : zMd := (yX11_count, cX11_count, some .int, 4, 2, 44, 11, 1, 0)
def mX11_image : zMd := (yX11_image, cX11_image, some .int, 3, 1, 25, 11, 1, 0)
def mX11_back : zMd := (yX11_back, cX11_back, some .int, 3, 1, 25, 11, 1, 0)
def mJ6_bitCount_0f7a4 : zMd := (yJ6_bitCount_0f7a4, cJ6_bitCount_0f7a4, some .int, 1, 0, 0, 13, 1, 0)
def mJ13_bitCount_95d88 : zMd := (yJ13_bitCount_95d88, cJ13_bitCount_95d88, some .int, 2, 0, 0, 14, 1, 0)
def mL_law : zMd := (yL_law, code, some .boolean, 4, 15, 568, 12, 1, 0)
theorem kX0_init : zMok mX0_init := ⟨by decide +kernel, rfl, fun _ => rfl, zW_1 (i := 163) rfl rfl, zW_1 (i := 8) rfl rfl, by decide +kernel⟩
theorem kX0_begin : zMok mX0_begin := ⟨by decide +kernel, rfl, fun h => absurd h (by decide), zW_4 (i := 202) rfl rfl, zW_1 (i := 8) rfl rfl, by decide +kernel⟩
theorem kX0_draw : zMok mX0_draw := ⟨by decide +kernel, rfl, fun h => absurd h (by decide), zW_4 (i := 210) rfl rfl, zW_1 (i := 8) rfl rfl, by decide +kernel⟩
theorem kX2_init : zMok mX2_init := ⟨by decide +kernel, rfl, fun _ => rfl, zW_1 (i := 142) rfl rfl, zW_1 (i := 7) rfl rfl, by decide +kernel⟩
theorem kX2_size : zMok mX2_size := ⟨by decide +kernel, rfl, fun h => absurd h (by decide), zW_4 (i := 226) rfl rfl, zW_1 (i := 7) rfl rfl, by decide +kernel⟩
theorem kX2_clear : zMok mX2_clear := ⟨by decide +kernel, rfl, fun h => absurd h (by decide), zW_2 (i := 204) rfl rfl, zW_1 (i := 7) rfl rfl, by decide +kernel⟩
theorem kX2_keep : zMok mX2_keep := ⟨by decide +kernel, rfl, fun h => absurd h (by decide), zW_3 (i := 111) rfl rfl, zW_1 (i := 7) rfl rfl, by decide +kernel⟩
theorem kX2_goBack : zMok mX2_goBack := ⟨by decide +kernel, rfl, fun h => absurd h (by decide), zW_3 (i := 237) rfl rfl, zW_1 (i := 7) rfl rfl, by decide +kernel⟩
theorem kX3_init : zMok mX3_init := ⟨by decide +kernel, rfl, fun _ => rfl, zW_1 (i := 172) rfl rfl, zW_1 (i := 9) rfl rfl, by decide +kernel⟩
theorem kX4_init : zMok mX4_init := ⟨by decide +kernel, rfl, fun _ => rfl, zW_1 (i := 123) rfl rfl, zW_1 (i := 6) rfl rfl, by decide +kernel⟩
theorem kX4_size : zMok mX4_size := ⟨by decide +kernel, rfl, fun h => absurd h (by decide), zW_4 (i := 139) rfl rfl, zW_1 (i := 6) rfl rfl, by decide +kernel⟩
theorem kX4_isFull : zMok mX4_isFull := ⟨by decide +kernel, rfl, fun h => absurd h (by decide), zW_4 (i := 131) rfl rfl, zW_1 (i := 6) rfl rfl, by decide +kernel⟩
theorem kX4_clear : zMok mX4_clear := ⟨by decide +kernel, rfl, fun h => absurd h (by decide), zW_2 (i := 200) rfl rfl, zW_1 (i := 6) rfl rfl, by decide +kernel⟩
theorem kX4_add : zMok mX4_add := ⟨by decide +kernel, rfl, fun h => absurd h (by decide), zW_4 (i := 135) rfl rfl, zW_1 (i := 6) rfl rfl, by decide +kernel⟩
theorem kX4_copyFrom : zMok mX4_copyFrom := ⟨by decide +kernel, rfl, fun h => absurd h (by decide), zW_4 (i := 234) rfl rfl, zW_1 (i := 6) rfl rfl, by decide +kernel⟩
theorem kX4_holdFrom : zMok mX4_holdFrom := ⟨by decide +kernel, rfl, fun h => absurd h (by decide), zW_4 (i := 151) rfl rfl, zW_1 (i := 6) rfl rfl, by decide +kernel⟩
theorem kX4_holdAt : zMok mX4_holdAt := ⟨by decide +kernel, rfl, fun h => absurd h (by decide), zW_4 (i := 156) rfl rfl, zW_1 (i := 6) rfl rfl, by decide +kernel⟩
theorem kX5_init : zMok mX5_init := ⟨by decide +kernel, rfl, fun _ => rfl, zW_3 (i := 52) rfl rfl, zW_1 (i := 16) rfl rfl, by decide +kernel⟩
theorem kX5_quarters : zMok mX5_quarters := ⟨by decide +kernel, rfl, fun h => absurd h (by decide), zW_3 (i := 130) rfl rfl, zW_1 (i := 16) rfl rfl, by decide +kernel⟩
theorem kX5_negate : zMok mX5_negate := ⟨by decide +kernel, rfl, fun h => absurd h (by decide), zW_3 (i := 135) rfl rfl, zW_1 (i := 16) rfl rfl, by decide +kernel⟩
theorem kX5_combine : zMok mX5_combine := ⟨by decide +kernel, rfl, fun h => absurd h (by decide), zW_3 (i := 139) rfl rfl, zW_1 (i := 16) rfl rfl, by decide +kernel⟩
theorem kX5_reckon : zMok mX5_reckon := ⟨by decide +kernel, rfl, fun h => absurd h (by decide), zW_3 (i := 142) rfl rfl, zW_1 (i := 16) rfl rfl, by decide +kernel⟩
theorem kX5_judge : zMok mX5_judge := ⟨by decide +kernel, rfl, fun h => absurd h (by decide), zW_3 (i := 145) rfl rfl, zW_1 (i := 16) rfl rfl, by decide +kernel⟩
theorem kX6_init : zMok mX6_init := ⟨by decide +kernel, rfl, fun _ => rfl, zW_1 (i := 68) rfl rfl, zW_1 (i := 4) rfl rfl, by decide +kernel⟩
theorem kX6_read : zMok mX6_read := ⟨by decide +kernel, rfl, fun h => absurd h (by decide), zW_2 (i := 218) rfl rfl, zW_1 (i := 4) rfl rfl, by decide +kernel⟩
theorem kX6_made : zMok mX6_made := ⟨by decide +kernel, rfl, fun h => absurd h (by decide), zW_3 (i := 47) rfl rfl, zW_1 (i := 4) rfl rfl, by decide +kernel⟩
theorem kX6_take : zMok mX6_take := ⟨by decide +kernel, rfl, fun h => absurd h (by decide), zW_2 (i := 224) rfl rfl, zW_1 (i := 4) rfl rfl, by decide +kernel⟩
theorem kX6_takeTurn : zMok mX6_takeTurn := ⟨by decide +kernel, rfl, fun h => absurd h (by decide), zW_2 (i := 228) rfl rfl, zW_1 (i := 4) rfl rfl, by decide +kernel⟩
theorem kX6_takeValue : zMok mX6_takeValue := ⟨by decide +kernel, rfl, fun h => absurd h (by decide), zW_2 (i := 234) rfl rfl, zW_1 (i := 4) rfl rfl, by decide +kernel⟩
theorem kX6_takeFact : zMok mX6_takeFact := ⟨by decide +kernel, rfl, fun h => absurd h (by decide), zW_3 (i := 9) rfl rfl, zW_1 (i := 4) rfl rfl, by decide +kernel⟩
theorem kX6_takeBehindValue : zMok mX6_takeBehindValue := ⟨by decide +kernel, rfl, fun h => absurd h (by decide), zW_3 (i := 18) rfl rfl, zW_1 (i := 4) rfl rfl, by decide +kernel⟩
theorem kX6_takeBehindTurn : zMok mX6_takeBehindTurn := ⟨by decide +kernel, rfl, fun h => absurd h (by decide), zW_3 (i := 32) rfl rfl, zW_1 (i := 4) rfl rfl, by decide +kernel⟩
theorem kX6_takeBehindFact : zMok mX6_takeBehindFact := ⟨by decide +kernel, rfl, fun h => absurd h (by decide), zW_3 (i := 41) rfl rfl, zW_1 (i := 4) rfl rfl, by decide +kernel⟩
theorem kX6_takeEnd : zMok mX6_takeEnd := ⟨by decide +kernel, rfl, fun h => absurd h (by decide), zW_3 (i := 37) rfl rfl, zW_1 (i := 4) rfl rfl, by decide +kernel⟩
theorem kX6_partCounted : zMok mX6_partCounted := ⟨by decide +kernel, rfl, fun h => absurd h (by decide), zW_3 (i := 5) rfl rfl, zW_1 (i := 4) rfl rfl, by decide +kernel⟩
theorem kX6_order : zMok mX6_order := ⟨by decide +kernel, rfl, fun h => absurd h (by decide), zW_3 (i := 1) rfl rfl, zW_1 (i := 4) rfl rfl, by decide +kernel⟩
theorem kX6_await : zMok mX6_await := ⟨by decide +kernel, rfl, fun h => absurd h (by decide), zW_3 (i := 14) rfl rfl, zW_1 (i := 4) rfl rfl, by decide +kernel⟩
theorem kX6_settle : zMok mX6_settle := ⟨by decide +kernel, rfl, fun h => absurd h (by decide), zW_3 (i := 28) rfl rfl, zW_1 (i := 4) rfl rfl, by decide +kernel⟩
theorem kX6_rankOf : zMok mX6_rankOf := ⟨by decide +kernel, rfl, fun h => absurd h (by decide), zW_3 (i := 24) rfl rfl, zW_1 (i := 4) rfl rfl, by decide +kernel⟩
theorem kX6_operatorOf : zMok mX6_operatorOf := ⟨by decide +kernel, rfl, fun h => absurd h (by decide), zW_3 (i := 21) rfl rfl, zW_1 (i := 4) rfl rfl, by decide +kernel⟩
theorem kX7_init : zMok mX7_init := ⟨by decide +kernel, rfl, fun _ => rfl, zW_1 (i := 58) rfl rfl, zW_1 (i := 3) rfl rfl, by decide +kernel⟩
theorem kX7_read : zMok mX7_read := ⟨by decide +kernel, rfl, fun h => absurd h (by decide), zW_2 (i := 49) rfl rfl, zW_1 (i := 3) rfl rfl, by decide +kernel⟩
theorem kX7_faultOfClause : zMok mX7_faultOfClause := ⟨by decide +kernel, rfl, fun h => absurd h (by decide), zW_2 (i := 147) rfl rfl, zW_1 (i := 3) rfl rfl, by decide +kernel⟩
theorem kX7_readNumbers : zMok mX7_readNumbers := ⟨by decide +kernel, rfl, fun h => absurd h (by decide), zW_2 (i := 155) rfl rfl, zW_1 (i := 3) rfl rfl, by decide +kernel⟩
theorem kX7_mostOf : zMok mX7_mostOf := ⟨by decide +kernel, rfl, fun h => absurd h (by decide), zW_2 (i := 166) rfl rfl, zW_1 (i := 3) rfl rfl, by decide +kernel⟩
theorem kX7_take : zMok mX7_take := ⟨by decide +kernel, rfl, fun h => absurd h (by decide), zW_2 (i := 180) rfl rfl, zW_1 (i := 3) rfl rfl, by decide +kernel⟩
theorem kX8_init : zMok mX8_init := ⟨by decide +kernel, rfl, fun _ => rfl, zW_1 (i := 32) rfl rfl, zW_1 (i := 2) rfl rfl, by decide +kernel⟩
theorem kX8_length : zMok mX8_length := ⟨by decide +kernel, rfl, fun h => absurd h (by decide), zW_2 (i := 30) rfl rfl, zW_1 (i := 2) rfl rfl, by decide +kernel⟩
theorem kX8_hasRoom : zMok mX8_hasRoom := ⟨by decide +kernel, rfl, fun h => absurd h (by decide), zW_2 (i := 22) rfl rfl, zW_1 (i := 2) rfl rfl, by decide +kernel⟩
theorem kX8_append : zMok mX8_append := ⟨by decide +kernel, rfl, fun h => absurd h (by decide), zW_2 (i := 26) rfl rfl, zW_1 (i := 2) rfl rfl, by decide +kernel⟩
theorem kX8_cutTo : zMok mX8_cutTo := ⟨by decide +kernel, rfl, fun h => absurd h (by decide), zW_2 (i := 41) rfl rfl, zW_1 (i := 2) rfl rfl, by decide +kernel⟩
theorem kX8_rewind : zMok mX8_rewind := ⟨by decide +kernel, rfl, fun h => absurd h (by decide), zW_2 (i := 61) rfl rfl, zW_1 (i := 2) rfl rfl, by decide +kernel⟩
theorem kX8_kind : zMok mX8_kind := ⟨by decide +kernel, rfl, fun h => absurd h (by decide), zW_2 (i := 159) rfl rfl, zW_1 (i := 2) rfl rfl, by decide +kernel⟩
theorem kX8_value : zMok mX8_value := ⟨by decide +kernel, rfl, fun h => absurd h (by decide), zW_2 (i := 163) rfl rfl, zW_1 (i := 2) rfl rfl, by decide +kernel⟩
theorem kX8_faultOf : zMok mX8_faultOf := ⟨by decide +kernel, rfl, fun h => absurd h (by decide), zW_2 (i := 176) rfl rfl, zW_1 (i := 2) rfl rfl, by decide +kernel⟩
theorem kX8_next : zMok mX8_next := ⟨by decide +kernel, rfl, fun h => absurd h (by decide), zW_2 (i := 65) rfl rfl, zW_1 (i := 2) rfl rfl, by decide +kernel⟩
theorem kX8_wordIn : zMok mX8_wordIn := ⟨by decide +kernel, rfl, fun h => absurd h (by decide), zW_2 (i := 92) rfl rfl, zW_1 (i := 2) rfl rfl, by decide +kernel⟩
theorem kX8_byteAt : zMok mX8_byteAt := ⟨by decide +kernel, rfl, fun h => absurd h (by decide), zW_2 (i := 69) rfl rfl, zW_1 (i := 2) rfl rfl, by decide +kernel⟩
theorem kX8_isDigit : zMok mX8_isDigit := ⟨by decide +kernel, rfl, fun h => absurd h (by decide), zW_2 (i := 72) rfl rfl, zW_1 (i := 2) rfl rfl, by decide +kernel⟩
theorem kX8_isLetter : zMok mX8_isLetter := ⟨by decide +kernel, rfl, fun h => absurd h (by decide), zW_2 (i := 79) rfl rfl, zW_1 (i := 2) rfl rfl, by decide +kernel⟩
theorem kX8_readNumber : zMok mX8_readNumber := ⟨by decide +kernel, rfl, fun h => absurd h (by decide), zW_2 (i := 76) rfl rfl, zW_1 (i := 2) rfl rfl, by decide +kernel⟩
theorem kX8_readWord : zMok mX8_readWord := ⟨by decide +kernel, rfl, fun h => absurd h (by decide), zW_2 (i := 83) rfl rfl, zW_1 (i := 2) rfl rfl, by decide +kernel⟩
theorem kX8_readSign : zMok mX8_readSign := ⟨by decide +kernel, rfl, fun h => absurd h (by decide), zW_2 (i := 87) rfl rfl, zW_1 (i := 2) rfl rfl, by decide +kernel⟩
theorem kX8_isWord : zMok mX8_isWord := ⟨by decide +kernel, rfl, fun h => absurd h (by decide), zW_2 (i := 144) rfl rfl, zW_1 (i := 2) rfl rfl, by decide +kernel⟩
theorem kX9_init : zMok mX9_init := ⟨by decide +kernel, rfl, fun _ => rfl, zW_1 (i := 110) rfl rfl, zW_1 (i := 5) rfl rfl, by decide +kernel⟩
theorem kX9_get : zMok mX9_get := ⟨by decide +kernel, rfl, fun h => absurd h (by decide), zW_2 (i := 151) rfl rfl, zW_1 (i := 5) rfl rfl, by decide +kernel⟩
theorem kX9_set : zMok mX9_set := ⟨by decide +kernel, rfl, fun h => absurd h (by decide), zW_2 (i := 57) rfl rfl, zW_1 (i := 5) rfl rfl, by decide +kernel⟩
theorem kX9_of : zMok mX9_of := ⟨by decide +kernel, rfl, fun h => absurd h (by decide), zW_3 (i := 83) rfl rfl, zW_1 (i := 5) rfl rfl, by decide +kernel⟩
theorem kX9_put : zMok mX9_put := ⟨by decide +kernel, rfl, fun h => absurd h (by decide), zW_2 (i := 189) rfl rfl, zW_1 (i := 5) rfl rfl, by decide +kernel⟩
theorem kX9_copyFrom : zMok mX9_copyFrom := ⟨by decide +kernel, rfl, fun h => absurd h (by decide), zW_2 (i := 193) rfl rfl, zW_1 (i := 5) rfl rfl, by decide +kernel⟩
theorem kX9_clear : zMok mX9_clear := ⟨by decide +kernel, rfl, fun h => absurd h (by decide), zW_2 (i := 53) rfl rfl, zW_1 (i := 5) rfl rfl, by decide +kernel⟩
theorem kX9_addGoer : zMok mX9_addGoer := ⟨by decide +kernel, rfl, fun h => absurd h (by decide), zW_2 (i := 185) rfl rfl, zW_1 (i := 5) rfl rfl, by decide +kernel⟩
theorem kX9_cells : zMok mX9_cells := ⟨by decide +kernel, rfl, fun h => absurd h (by decide), zW_2 (i := 170) rfl rfl, zW_1 (i := 5) rfl rfl, by decide +kernel⟩
theorem kX9_isOn : zMok mX9_isOn := ⟨by decide +kernel, rfl, fun h => absurd h (by decide), zW_3 (i := 216) rfl rfl, zW_1 (i := 5) rfl rfl, by decide +kernel⟩
theorem kX9_hasStone : zMok mX9_hasStone := ⟨by decide +kernel, rfl, fun h => absurd h (by decide), zW_3 (i := 169) rfl rfl, zW_1 (i := 5) rfl rfl, by decide +kernel⟩
theorem kX9_turnStone : zMok mX9_turnStone := ⟨by decide +kernel, rfl, fun h => absurd h (by decide), zW_3 (i := 224) rfl rfl, zW_1 (i := 5) rfl rfl, by decide +kernel⟩
theorem kX9_stones : zMok mX9_stones := ⟨by decide +kernel, rfl, fun h => absurd h (by decide), zW_4 (i := 222) rfl rfl, zW_1 (i := 5) rfl rfl, by decide +kernel⟩
theorem kX9_bitsOf : zMok mX9_bitsOf := ⟨by decide +kernel, rfl, fun h => absurd h (by decide), zW_3 (i := 198) rfl rfl, zW_1 (i := 5) rfl rfl, by decide +kernel⟩
theorem kX9_foodOfAll : zMok mX9_foodOfAll := ⟨by decide +kernel, rfl, fun h => absurd h (by decide), zW_4 (i := 77) rfl rfl, zW_1 (i := 5) rfl rfl, by decide +kernel⟩
theorem kX9_lastUsed : zMok mX9_lastUsed := ⟨by decide +kernel, rfl, fun h => absurd h (by decide), zW_4 (i := 190) rfl rfl, zW_1 (i := 5) rfl rfl, by decide +kernel⟩
theorem kX9_whereabouts : zMok mX9_whereabouts := ⟨by decide +kernel, rfl, fun h => absurd h (by decide), zW_4 (i := 111) rfl rfl, zW_1 (i := 5) rfl rfl, by decide +kernel⟩
theorem kX9_rowOf : zMok mX9_rowOf := ⟨by decide +kernel, rfl, fun h => absurd h (by decide), zW_3 (i := 153) rfl rfl, zW_1 (i := 5) rfl rfl, by decide +kernel⟩
theorem kX9_columnOf : zMok mX9_columnOf := ⟨by decide +kernel, rfl, fun h => absurd h (by decide), zW_3 (i := 157) rfl rfl, zW_1 (i := 5) rfl rfl, by decide +kernel⟩
theorem kX9_margin : zMok mX9_margin := ⟨by decide +kernel, rfl, fun h => absurd h (by decide), zW_3 (i := 161) rfl rfl, zW_1 (i := 5) rfl rfl, by decide +kernel⟩
theorem kX9_nextCell : zMok mX9_nextCell := ⟨by decide +kernel, rfl, fun h => absurd h (by decide), zW_3 (i := 165) rfl rfl, zW_1 (i := 5) rfl rfl, by decide +kernel⟩
theorem kX9_placeOf : zMok mX9_placeOf := ⟨by decide +kernel, rfl, fun h => absurd h (by decide), zW_3 (i := 181) rfl rfl, zW_1 (i := 5) rfl rfl, by decide +kernel⟩
theorem kX9_cellAt : zMok mX9_cellAt := ⟨by decide +kernel, rfl, fun h => absurd h (by decide), zW_3 (i := 193) rfl rfl, zW_1 (i := 5) rfl rfl, by decide +kernel⟩
theorem kX9_pass : zMok mX9_pass := ⟨by decide +kernel, rfl, fun h => absurd h (by decide), zW_3 (i := 125) rfl rfl, zW_1 (i := 5) rfl rfl, by decide +kernel⟩
theorem kX9_goOn : zMok mX9_goOn := ⟨by decide +kernel, rfl, fun h => absurd h (by decide), zW_3 (i := 177) rfl rfl, zW_1 (i := 5) rfl rfl, by decide +kernel⟩
theorem kX9_bideOut : zMok mX9_bideOut := ⟨by decide +kernel, rfl, fun h => absurd h (by decide), zW_3 (i := 185) rfl rfl, zW_1 (i := 5) rfl rfl, by decide +kernel⟩
theorem kX9_comeIn : zMok mX9_comeIn := ⟨by decide +kernel, rfl, fun h => absurd h (by decide), zW_3 (i := 189) rfl rfl, zW_1 (i := 5) rfl rfl, by decide +kernel⟩
theorem kX9_othersIn : zMok mX9_othersIn := ⟨by decide +kernel, rfl, fun h => absurd h (by decide), zW_3 (i := 173) rfl rfl, zW_1 (i := 5) rfl rfl, by decide +kernel⟩
theorem kX9_wordOf : zMok mX9_wordOf := ⟨by decide +kernel, rfl, fun h => absurd h (by decide), zW_3 (i := 149) rfl rfl, zW_1 (i := 5) rfl rfl, by decide +kernel⟩
theorem kX10_init : zMok mX10_init := ⟨by decide +kernel, rfl, fun _ => rfl, zW_1 (i := 24) rfl rfl, zW_1 (i := 1) rfl rfl, by decide +kernel⟩
theorem kX10_feed : zMok mX10_feed := ⟨by decide +kernel, rfl, fun h => absurd h (by decide), zW_2 (i := 18) rfl rfl, zW_1 (i := 1) rfl rfl, by decide +kernel⟩
theorem kX10_end : zMok mX10_end := ⟨by decide +kernel, rfl, fun h => absurd h (by decide), zW_2 (i := 34) rfl rfl, zW_1 (i := 1) rfl rfl, by decide +kernel⟩
theorem kX10_sheet : zMok mX10_sheet := ⟨by decide +kernel, rfl, fun h => absurd h (by decide), zW_2 (i := 45) rfl rfl, zW_1 (i := 1) rfl rfl, by decide +kernel⟩
theorem kX10_rule : zMok mX10_rule := ⟨by decide +kernel, rfl, fun h => absurd h (by decide), zW_2 (i := 214) rfl rfl, zW_1 (i := 1) rfl rfl, by decide +kernel⟩
theorem kX10_force : zMok mX10_force := ⟨by decide +kernel, rfl, fun h => absurd h (by decide), zW_3 (i := 71) rfl rfl, zW_1 (i := 1) rfl rfl, by decide +kernel⟩
theorem kX10_goer : zMok mX10_goer := ⟨by decide +kernel, rfl, fun h => absurd h (by decide), zW_3 (i := 75) rfl rfl, zW_1 (i := 1) rfl rfl, by decide +kernel⟩
theorem kX10_join : zMok mX10_join := ⟨by decide +kernel, rfl, fun h => absurd h (by decide), zW_3 (i := 87) rfl rfl, zW_1 (i := 1) rfl rfl, by decide +kernel⟩
theorem kX10_stoneIn : zMok mX10_stoneIn := ⟨by decide +kernel, rfl, fun h => absurd h (by decide), zW_3 (i := 98) rfl rfl, zW_1 (i := 1) rfl rfl, by decide +kernel⟩
theorem kX10_step : zMok mX10_step := ⟨by decide +kernel, rfl, fun h => absurd h (by decide), zW_3 (i := 107) rfl rfl, zW_1 (i := 1) rfl rfl, by decide +kernel⟩
theorem kX10_give : zMok mX10_give := ⟨by decide +kernel, rfl, fun h => absurd h (by decide), zW_3 (i := 202) rfl rfl, zW_1 (i := 1) rfl rfl, by decide +kernel⟩
theorem kX10_way : zMok mX10_way := ⟨by decide +kernel, rfl, fun h => absurd h (by decide), zW_3 (i := 208) rfl rfl, zW_1 (i := 1) rfl rfl, by decide +kernel⟩
theorem kX10_stone : zMok mX10_stone := ⟨by decide +kernel, rfl, fun h => absurd h (by decide), zW_3 (i := 220) rfl rfl, zW_1 (i := 1) rfl rfl, by decide +kernel⟩
theorem kX10_fold : zMok mX10_fold := ⟨by decide +kernel, rfl, fun h => absurd h (by decide), zW_3 (i := 228) rfl rfl, zW_1 (i := 1) rfl rfl, by decide +kernel⟩
theorem kX10_undo : zMok mX10_undo := ⟨by decide +kernel, rfl, fun h => absurd h (by decide), zW_3 (i := 233) rfl rfl, zW_1 (i := 1) rfl rfl, by decide +kernel⟩
theorem kX10_ahead : zMok mX10_ahead := ⟨by decide +kernel, rfl, fun h => absurd h (by decide), zW_4 (i := 1) rfl rfl, zW_1 (i := 1) rfl rfl, by decide +kernel⟩
theorem kX10_home : zMok mX10_home := ⟨by decide +kernel, rfl, fun h => absurd h (by decide), zW_4 (i := 13) rfl rfl, zW_1 (i := 1) rfl rfl, by decide +kernel⟩
theorem kX10_gone : zMok mX10_gone := ⟨by decide +kernel, rfl, fun h => absurd h (by decide), zW_4 (i := 17) rfl rfl, zW_1 (i := 1) rfl rfl, by decide +kernel⟩
theorem kX10_leastFood : zMok mX10_leastFood := ⟨by decide +kernel, rfl, fun h => absurd h (by decide), zW_4 (i := 21) rfl rfl, zW_1 (i := 1) rfl rfl, by decide +kernel⟩
theorem kX10_meet : zMok mX10_meet := ⟨by decide +kernel, rfl, fun h => absurd h (by decide), zW_4 (i := 25) rfl rfl, zW_1 (i := 1) rfl rfl, by decide +kernel⟩
theorem kX10_shortest : zMok mX10_shortest := ⟨by decide +kernel, rfl, fun h => absurd h (by decide), zW_4 (i := 29) rfl rfl, zW_1 (i := 1) rfl rfl, by decide +kernel⟩
theorem kX10_seen : zMok mX10_seen := ⟨by decide +kernel, rfl, fun h => absurd h (by decide), zW_4 (i := 45) rfl rfl, zW_1 (i := 1) rfl rfl, by decide +kernel⟩
theorem kX10_longest : zMok mX10_longest := ⟨by decide +kernel, rfl, fun h => absurd h (by decide), zW_4 (i := 55) rfl rfl, zW_1 (i := 1) rfl rfl, by decide +kernel⟩
theorem kX10_bestFold : zMok mX10_bestFold := ⟨by decide +kernel, rfl, fun h => absurd h (by decide), zW_4 (i := 63) rfl rfl, zW_1 (i := 1) rfl rfl, by decide +kernel⟩
theorem kX10_bestStone : zMok mX10_bestStone := ⟨by decide +kernel, rfl, fun h => absurd h (by decide), zW_4 (i := 87) rfl rfl, zW_1 (i := 1) rfl rfl, by decide +kernel⟩
theorem kX10_rests : zMok mX10_rests := ⟨by decide +kernel, rfl, fun h => absurd h (by decide), zW_4 (i := 91) rfl rfl, zW_1 (i := 1) rfl rfl, by decide +kernel⟩
theorem kX10_ring : zMok mX10_ring := ⟨by decide +kernel, rfl, fun h => absurd h (by decide), zW_4 (i := 103) rfl rfl, zW_1 (i := 1) rfl rfl, by decide +kernel⟩
theorem kX10_bread : zMok mX10_bread := ⟨by decide +kernel, rfl, fun h => absurd h (by decide), zW_4 (i := 119) rfl rfl, zW_1 (i := 1) rfl rfl, by decide +kernel⟩
theorem kX10_note : zMok mX10_note := ⟨by decide +kernel, rfl, fun h => absurd h (by decide), zW_4 (i := 127) rfl rfl, zW_1 (i := 1) rfl rfl, by decide +kernel⟩
theorem kX10_ruled : zMok mX10_ruled := ⟨by decide +kernel, rfl, fun h => absurd h (by decide), zW_4 (i := 143) rfl rfl, zW_1 (i := 1) rfl rfl, by decide +kernel⟩
theorem kX10_look : zMok mX10_look := ⟨by decide +kernel, rfl, fun h => absurd h (by decide), zW_4 (i := 162) rfl rfl, zW_1 (i := 1) rfl rfl, by decide +kernel⟩
theorem kX10_folds : zMok mX10_folds := ⟨by decide +kernel, rfl, fun h => absurd h (by decide), zW_4 (i := 175) rfl rfl, zW_1 (i := 1) rfl rfl, by decide +kernel⟩
theorem kX10_seed : zMok mX10_seed := ⟨by decide +kernel, rfl, fun h => absurd h (by decide), zW_4 (i := 194) rfl rfl, zW_1 (i := 1) rfl rfl, by decide +kernel⟩
theorem kX10_gusts : zMok mX10_gusts := ⟨by decide +kernel, rfl, fun h => absurd h (by decide), zW_4 (i := 198) rfl rfl, zW_1 (i := 1) rfl rfl, by decide +kernel⟩
theorem kX10_count : zMok mX10_count := ⟨by decide +kernel, rfl, fun h => absurd h (by decide), zW_4 (i := 218) rfl rfl, zW_1 (i := 1) rfl rfl, by decide +kernel⟩
theorem kX10_image : zMok mX10_image := ⟨by decide +kernel, rfl, fun h => absurd h (by decide), zW_4 (i := 230) rfl rfl, zW_1 (i := 1) rfl rfl, by decide +kernel⟩
theorem kX10_back : zMok mX10_back := ⟨by decide +kernel, rfl, fun h => absurd h (by decide), zW_4 (i := 239) rfl rfl, zW_1 (i := 1) rfl rfl, by decide +kernel⟩
theorem kX10_within : zMok mX10_within := ⟨by decide +kernel, rfl, fun h => absurd h (by decide), zW_2 (i := 37) rfl rfl, zW_1 (i := 1) rfl rfl, by decide +kernel⟩
theorem kX10_hasSheet : zMok mX10_hasSheet := ⟨by decide +kernel, rfl, fun h => absurd h (by decide), zW_3 (i := 91) rfl rfl, zW_1 (i := 1) rfl rfl, by decide +kernel⟩
theorem kX10_goers : zMok mX10_goers := ⟨by decide +kernel, rfl, fun h => absurd h (by decide), zW_2 (i := 208) rfl rfl, zW_1 (i := 1) rfl rfl, by decide +kernel⟩
theorem kX10_isGoer : zMok mX10_isGoer := ⟨by decide +kernel, rfl, fun h => absurd h (by decide), zW_3 (i := 79) rfl rfl, zW_1 (i := 1) rfl rfl, by decide +kernel⟩
theorem kX10_isOn : zMok mX10_isOn := ⟨by decide +kernel, rfl, fun h => absurd h (by decide), zW_3 (i := 212) rfl rfl, zW_1 (i := 1) rfl rfl, by decide +kernel⟩
theorem kX10_isCell : zMok mX10_isCell := ⟨by decide +kernel, rfl, fun h => absurd h (by decide), zW_3 (i := 102) rfl rfl, zW_1 (i := 1) rfl rfl, by decide +kernel⟩
theorem kX10_isEdge : zMok mX10_isEdge := ⟨by decide +kernel, rfl, fun h => absurd h (by decide), zW_3 (i := 94) rfl rfl, zW_1 (i := 1) rfl rfl, by decide +kernel⟩
theorem kX10_ruleOf : zMok mX10_ruleOf := ⟨by decide +kernel, rfl, fun h => absurd h (by decide), zW_3 (i := 121) rfl rfl, zW_1 (i := 1) rfl rfl, by decide +kernel⟩
theorem kX10_ruleInForce : zMok mX10_ruleInForce := ⟨by decide +kernel, rfl, fun h => absurd h (by decide), zW_3 (i := 117) rfl rfl, zW_1 (i := 1) rfl rfl, by decide +kernel⟩
theorem kX10_restart : zMok mX10_restart := ⟨by decide +kernel, rfl, fun h => absurd h (by decide), zW_4 (i := 5) rfl rfl, zW_1 (i := 1) rfl rfl, by decide +kernel⟩
theorem kX10_walkOn : zMok mX10_walkOn := ⟨by decide +kernel, rfl, fun h => absurd h (by decide), zW_4 (i := 9) rfl rfl, zW_1 (i := 1) rfl rfl, by decide +kernel⟩
theorem kX10_hungerOf : zMok mX10_hungerOf := ⟨by decide +kernel, rfl, fun h => absurd h (by decide), zW_4 (i := 123) rfl rfl, zW_1 (i := 1) rfl rfl, by decide +kernel⟩
theorem kX10_costBehind : zMok mX10_costBehind := ⟨by decide +kernel, rfl, fun h => absurd h (by decide), zW_4 (i := 67) rfl rfl, zW_1 (i := 1) rfl rfl, by decide +kernel⟩
theorem kX10_lostOf : zMok mX10_lostOf := ⟨by decide +kernel, rfl, fun h => absurd h (by decide), zW_4 (i := 80) rfl rfl, zW_1 (i := 1) rfl rfl, by decide +kernel⟩
theorem kX10_foodOf : zMok mX10_foodOf := ⟨by decide +kernel, rfl, fun h => absurd h (by decide), zW_4 (i := 83) rfl rfl, zW_1 (i := 1) rfl rfl, by decide +kernel⟩
theorem kX10_findWaysFrom : zMok mX10_findWaysFrom := ⟨by decide +kernel, rfl, fun h => absurd h (by decide), zW_4 (i := 33) rfl rfl, zW_1 (i := 1) rfl rfl, by decide +kernel⟩
theorem kX10_spreadFrom : zMok mX10_spreadFrom := ⟨by decide +kernel, rfl, fun h => absurd h (by decide), zW_4 (i := 37) rfl rfl, zW_1 (i := 1) rfl rfl, by decide +kernel⟩
theorem kX10_countOut : zMok mX10_countOut := ⟨by decide +kernel, rfl, fun h => absurd h (by decide), zW_4 (i := 59) rfl rfl, zW_1 (i := 1) rfl rfl, by decide +kernel⟩
theorem kX10_countOn : zMok mX10_countOn := ⟨by decide +kernel, rfl, fun h => absurd h (by decide), zW_4 (i := 95) rfl rfl, zW_1 (i := 1) rfl rfl, by decide +kernel⟩
theorem kX10_isRest : zMok mX10_isRest := ⟨by decide +kernel, rfl, fun h => absurd h (by decide), zW_4 (i := 99) rfl rfl, zW_1 (i := 1) rfl rfl, by decide +kernel⟩
theorem kX10_trackAll : zMok mX10_trackAll := ⟨by decide +kernel, rfl, fun h => absurd h (by decide), zW_4 (i := 107) rfl rfl, zW_1 (i := 1) rfl rfl, by decide +kernel⟩
theorem kX10_sameTrack : zMok mX10_sameTrack := ⟨by decide +kernel, rfl, fun h => absurd h (by decide), zW_4 (i := 115) rfl rfl, zW_1 (i := 1) rfl rfl, by decide +kernel⟩
theorem kX10_rightlyRuled : zMok mX10_rightlyRuled := ⟨by decide +kernel, rfl, fun h => absurd h (by decide), zW_4 (i := 147) rfl rfl, zW_1 (i := 1) rfl rfl, by decide +kernel⟩
theorem kX10_trackFitting : zMok mX10_trackFitting := ⟨by decide +kernel, rfl, fun h => absurd h (by decide), zW_4 (i := 166) rfl rfl, zW_1 (i := 1) rfl rfl, by decide +kernel⟩
theorem kX10_mostAlike : zMok mX10_mostAlike := ⟨by decide +kernel, rfl, fun h => absurd h (by decide), zW_4 (i := 170) rfl rfl, zW_1 (i := 1) rfl rfl, by decide +kernel⟩
theorem kX10_leadIn : zMok mX10_leadIn := ⟨by decide +kernel, rfl, fun h => absurd h (by decide), zW_4 (i := 182) rfl rfl, zW_1 (i := 1) rfl rfl, by decide +kernel⟩
theorem kX10_rightlyFolded : zMok mX10_rightlyFolded := ⟨by decide +kernel, rfl, fun h => absurd h (by decide), zW_4 (i := 179) rfl rfl, zW_1 (i := 1) rfl rfl, by decide +kernel⟩
theorem kX10_behindAllLike : zMok mX10_behindAllLike := ⟨by decide +kernel, rfl, fun h => absurd h (by decide), zW_4 (i := 186) rfl rfl, zW_1 (i := 1) rfl rfl, by decide +kernel⟩
theorem kX10_gust : zMok mX10_gust := ⟨by decide +kernel, rfl, fun h => absurd h (by decide), zW_4 (i := 206) rfl rfl, zW_1 (i := 1) rfl rfl, by decide +kernel⟩
theorem kX11_init : zMok mX11_init := ⟨by decide +kernel, rfl, fun _ => rfl, zW_5 (i := 4) rfl rfl, zW_1 (i := 10) rfl rfl, by decide +kernel⟩
theorem kX11_in : zMok mX11_in := ⟨by decide +kernel, rfl, fun h => absurd h (by decide), zW_5 (i := 206) rfl rfl, zW_1 (i := 10) rfl rfl, by decide +kernel⟩
theorem kX11_four : zMok mX11_four := ⟨by decide +kernel, rfl, fun h => absurd h (by decide), zW_5 (i := 138) rfl rfl, zW_1 (i := 10) rfl rfl, by decide +kernel⟩
theorem kX11_feed : zMok mX11_feed := ⟨by decide +kernel, rfl, fun h => absurd h (by decide), zW_5 (i := 134) rfl rfl, zW_1 (i := 10) rfl rfl, by decide +kernel⟩
theorem kX11_end : zMok mX11_end := ⟨by decide +kernel, rfl, fun h => absurd h (by decide), zW_5 (i := 142) rfl rfl, zW_1 (i := 10) rfl rfl, by decide +kernel⟩
theorem kX11_fails : zMok mX11_fails := ⟨by decide +kernel, rfl, fun h => absurd h (by decide), zW_5 (i := 179) rfl rfl, zW_1 (i := 10) rfl rfl, by decide +kernel⟩
theorem kX11_see : zMok mX11_see := ⟨by decide +kernel, rfl, fun h => absurd h (by decide), zW_5 (i := 158) rfl rfl, zW_1 (i := 10) rfl rfl, by decide +kernel⟩
theorem kX11_isDigit : zMok mX11_isDigit := ⟨by decide +kernel, rfl, fun h => absurd h (by decide), zW_5 (i := 203) rfl rfl, zW_1 (i := 10) rfl rfl, by decide +kernel⟩
theorem kX11_isLetter : zMok mX11_isLetter := ⟨by decide +kernel, rfl, fun h => absurd h (by decide), zW_5 (i := 171) rfl rfl, zW_1 (i := 10) rfl rfl, by decide +kernel⟩
theorem kX11_isWord : zMok mX11_isWord := ⟨by decide +kernel, rfl, fun h => absurd h (by decide), zW_5 (i := 167) rfl rfl, zW_1 (i := 10) rfl rfl, by decide +kernel⟩
theorem kX11_passWord : zMok mX11_passWord := ⟨by decide +kernel, rfl, fun h => absurd h (by decide), zW_5 (i := 191) rfl rfl, zW_1 (i := 10) rfl rfl, by decide +kernel⟩
theorem kX11_takesWord : zMok mX11_takesWord := ⟨by decide +kernel, rfl, fun h => absurd h (by decide), zW_6 (i := 25) rfl rfl, zW_1 (i := 10) rfl rfl, by decide +kernel⟩
theorem kX11_numberHere : zMok mX11_numberHere := ⟨by decide +kernel, rfl, fun h => absurd h (by decide), zW_5 (i := 199) rfl rfl, zW_1 (i := 10) rfl rfl, by decide +kernel⟩
theorem kX11_wordHere : zMok mX11_wordHere := ⟨by decide +kernel, rfl, fun h => absurd h (by decide), zW_6 (i := 11) rfl rfl, zW_1 (i := 10) rfl rfl, by decide +kernel⟩
theorem kX11_puts : zMok mX11_puts := ⟨by decide +kernel, rfl, fun h => absurd h (by decide), zW_6 (i := 7) rfl rfl, zW_1 (i := 10) rfl rfl, by decide +kernel⟩
theorem kX11_makes : zMok mX11_makes := ⟨by decide +kernel, rfl, fun h => absurd h (by decide), zW_6 (i := 3) rfl rfl, zW_1 (i := 10) rfl rfl, by decide +kernel⟩
theorem kX11_opens : zMok mX11_opens := ⟨by decide +kernel, rfl, fun h => absurd h (by decide), zW_6 (i := 38) rfl rfl, zW_1 (i := 10) rfl rfl, by decide +kernel⟩
theorem kX11_strength : zMok mX11_strength := ⟨by decide +kernel, rfl, fun h => absurd h (by decide), zW_6 (i := 53) rfl rfl, zW_1 (i := 10) rfl rfl, by decide +kernel⟩
theorem kX11_layDown : zMok mX11_layDown := ⟨by decide +kernel, rfl, fun h => absurd h (by decide), zW_6 (i := 50) rfl rfl, zW_1 (i := 10) rfl rfl, by decide +kernel⟩
theorem kX11_value : zMok mX11_value := ⟨by decide +kernel, rfl, fun h => absurd h (by decide), zW_5 (i := 238) rfl rfl, zW_1 (i := 10) rfl rfl, by decide +kernel⟩
theorem kX11_term : zMok mX11_term := ⟨by decide +kernel, rfl, fun h => absurd h (by decide), zW_5 (i := 234) rfl rfl, zW_1 (i := 10) rfl rfl, by decide +kernel⟩
theorem kX11_sum : zMok mX11_sum := ⟨by decide +kernel, rfl, fun h => absurd h (by decide), zW_5 (i := 230) rfl rfl, zW_1 (i := 10) rfl rfl, by decide +kernel⟩
theorem kX11_compare : zMok mX11_compare := ⟨by decide +kernel, rfl, fun h => absurd h (by decide), zW_6 (i := 42) rfl rfl, zW_1 (i := 10) rfl rfl, by decide +kernel⟩
theorem kX11_fact : zMok mX11_fact := ⟨by decide +kernel, rfl, fun h => absurd h (by decide), zW_6 (i := 33) rfl rfl, zW_1 (i := 10) rfl rfl, by decide +kernel⟩
theorem kX11_isInside : zMok mX11_isInside := ⟨by decide +kernel, rfl, fun h => absurd h (by decide), zW_6 (i := 57) rfl rfl, zW_1 (i := 10) rfl rfl, by decide +kernel⟩
theorem kX11_closes : zMok mX11_closes := ⟨by decide +kernel, rfl, fun h => absurd h (by decide), zW_6 (i := 46) rfl rfl, zW_1 (i := 10) rfl rfl, by decide +kernel⟩
theorem kX11_tested : zMok mX11_tested := ⟨by decide +kernel, rfl, fun h => absurd h (by decide), zW_6 (i := 29) rfl rfl, zW_1 (i := 10) rfl rfl, by decide +kernel⟩
theorem kX11_isTurnHere : zMok mX11_isTurnHere := ⟨by decide +kernel, rfl, fun h => absurd h (by decide), zW_5 (i := 226) rfl rfl, zW_1 (i := 10) rfl rfl, by decide +kernel⟩
theorem kX11_cellHere : zMok mX11_cellHere := ⟨by decide +kernel, rfl, fun h => absurd h (by decide), zW_5 (i := 195) rfl rfl, zW_1 (i := 10) rfl rfl, by decide +kernel⟩
theorem kX11_lastCell : zMok mX11_lastCell := ⟨by decide +kernel, rfl, fun h => absurd h (by decide), zW_5 (i := 214) rfl rfl, zW_1 (i := 10) rfl rfl, by decide +kernel⟩
theorem kX11_isSheetHere : zMok mX11_isSheetHere := ⟨by decide +kernel, rfl, fun h => absurd h (by decide), zW_5 (i := 187) rfl rfl, zW_1 (i := 10) rfl rfl, by decide +kernel⟩
theorem kX11_isGoerHere : zMok mX11_isGoerHere := ⟨by decide +kernel, rfl, fun h => absurd h (by decide), zW_5 (i := 210) rfl rfl, zW_1 (i := 10) rfl rfl, by decide +kernel⟩
theorem kX11_isJoinHere : zMok mX11_isJoinHere := ⟨by decide +kernel, rfl, fun h => absurd h (by decide), zW_5 (i := 218) rfl rfl, zW_1 (i := 10) rfl rfl, by decide +kernel⟩
theorem kX11_isStoneHere : zMok mX11_isStoneHere := ⟨by decide +kernel, rfl, fun h => absurd h (by decide), zW_5 (i := 222) rfl rfl, zW_1 (i := 10) rfl rfl, by decide +kernel⟩
theorem kX11_sheetLineHere : zMok mX11_sheetLineHere := ⟨by decide +kernel, rfl, fun h => absurd h (by decide), zW_5 (i := 183) rfl rfl, zW_1 (i := 10) rfl rfl, by decide +kernel⟩
theorem kX11_isSheetWord : zMok mX11_isSheetWord := ⟨by decide +kernel, rfl, fun h => absurd h (by decide), zW_5 (i := 162) rfl rfl, zW_1 (i := 10) rfl rfl, by decide +kernel⟩
theorem kX11_clauseHere : zMok mX11_clauseHere := ⟨by decide +kernel, rfl, fun h => absurd h (by decide), zW_5 (i := 154) rfl rfl, zW_1 (i := 10) rfl rfl, by decide +kernel⟩
theorem kX11_readsAll : zMok mX11_readsAll := ⟨by decide +kernel, rfl, fun h => absurd h (by decide), zW_5 (i := 150) rfl rfl, zW_1 (i := 10) rfl rfl, by decide +kernel⟩
theorem kX11_rule : zMok mX11_rule := ⟨by decide +kernel, rfl, fun h => absurd h (by decide), zW_5 (i := 146) rfl rfl, zW_1 (i := 10) rfl rfl, by decide +kernel⟩
theorem kX11_sheet : zMok mX11_sheet := ⟨by decide +kernel, rfl, fun h => absurd h (by decide), zW_6 (i := 63) rfl rfl, zW_1 (i := 10) rfl rfl, by decide +kernel⟩
theorem kX11_isRule : zMok mX11_isRule := ⟨by decide +kernel, rfl, fun h => absurd h (by decide), zW_6 (i := 75) rfl rfl, zW_1 (i := 10) rfl rfl, by decide +kernel⟩
theorem kX11_push : zMok mX11_push := ⟨by decide +kernel, rfl, fun h => absurd h (by decide), zW_6 (i := 176) rfl rfl, zW_1 (i := 10) rfl rfl, by decide +kernel⟩
theorem kX11_pop : zMok mX11_pop := ⟨by decide +kernel, rfl, fun h => absurd h (by decide), zW_6 (i := 180) rfl rfl, zW_1 (i := 10) rfl rfl, by decide +kernel⟩
theorem kX11_one : zMok mX11_one := ⟨by decide +kernel, rfl, fun h => absurd h (by decide), zW_6 (i := 183) rfl rfl, zW_1 (i := 10) rfl rfl, by decide +kernel⟩
theorem kX11_reckons : zMok mX11_reckons := ⟨by decide +kernel, rfl, fun h => absurd h (by decide), zW_6 (i := 172) rfl rfl, zW_1 (i := 10) rfl rfl, by decide +kernel⟩
theorem kX11_isSheet : zMok mX11_isSheet := ⟨by decide +kernel, rfl, fun h => absurd h (by decide), zW_6 (i := 115) rfl rfl, zW_1 (i := 10) rfl rfl, by decide +kernel⟩
theorem kX11_cells : zMok mX11_cells := ⟨by decide +kernel, rfl, fun h => absurd h (by decide), zW_6 (i := 128) rfl rfl, zW_1 (i := 10) rfl rfl, by decide +kernel⟩
theorem kX11_isCell : zMok mX11_isCell := ⟨by decide +kernel, rfl, fun h => absurd h (by decide), zW_6 (i := 124) rfl rfl, zW_1 (i := 10) rfl rfl, by decide +kernel⟩
theorem kX11_isGoer : zMok mX11_isGoer := ⟨by decide +kernel, rfl, fun h => absurd h (by decide), zW_6 (i := 83) rfl rfl, zW_1 (i := 10) rfl rfl, by decide +kernel⟩
theorem kX11_isEdge : zMok mX11_isEdge := ⟨by decide +kernel, rfl, fun h => absurd h (by decide), zW_6 (i := 111) rfl rfl, zW_1 (i := 10) rfl rfl, by decide +kernel⟩
theorem kX11_cellOf : zMok mX11_cellOf := ⟨by decide +kernel, rfl, fun h => absurd h (by decide), zW_6 (i := 95) rfl rfl, zW_1 (i := 10) rfl rfl, by decide +kernel⟩
theorem kX11_facesOf : zMok mX11_facesOf := ⟨by decide +kernel, rfl, fun h => absurd h (by decide), zW_6 (i := 99) rfl rfl, zW_1 (i := 10) rfl rfl, by decide +kernel⟩
theorem kX11_foodOf : zMok mX11_foodOf := ⟨by decide +kernel, rfl, fun h => absurd h (by decide), zW_6 (i := 103) rfl rfl, zW_1 (i := 10) rfl rfl, by decide +kernel⟩
theorem kX11_statusOf : zMok mX11_statusOf := ⟨by decide +kernel, rfl, fun h => absurd h (by decide), zW_6 (i := 91) rfl rfl, zW_1 (i := 10) rfl rfl, by decide +kernel⟩
theorem kX11_isOn : zMok mX11_isOn := ⟨by decide +kernel, rfl, fun h => absurd h (by decide), zW_6 (i := 87) rfl rfl, zW_1 (i := 10) rfl rfl, by decide +kernel⟩
theorem kX11_onesWhoAre : zMok mX11_onesWhoAre := ⟨by decide +kernel, rfl, fun h => absurd h (by decide), zW_6 (i := 203) rfl rfl, zW_1 (i := 10) rfl rfl, by decide +kernel⟩
theorem kX11_bits : zMok mX11_bits := ⟨by decide +kernel, rfl, fun h => absurd h (by decide), zW_7 (i := 46) rfl rfl, zW_1 (i := 10) rfl rfl, by decide +kernel⟩
theorem kX11_foodAll : zMok mX11_foodAll := ⟨by decide +kernel, rfl, fun h => absurd h (by decide), zW_7 (i := 50) rfl rfl, zW_1 (i := 10) rfl rfl, by decide +kernel⟩
theorem kX11_marginOf : zMok mX11_marginOf := ⟨by decide +kernel, rfl, fun h => absurd h (by decide), zW_6 (i := 160) rfl rfl, zW_1 (i := 10) rfl rfl, by decide +kernel⟩
theorem kX11_nextOf : zMok mX11_nextOf := ⟨by decide +kernel, rfl, fun h => absurd h (by decide), zW_6 (i := 156) rfl rfl, zW_1 (i := 10) rfl rfl, by decide +kernel⟩
theorem kX11_cellAt : zMok mX11_cellAt := ⟨by decide +kernel, rfl, fun h => absurd h (by decide), zW_6 (i := 199) rfl rfl, zW_1 (i := 10) rfl rfl, by decide +kernel⟩
theorem kX11_placeAlong : zMok mX11_placeAlong := ⟨by decide +kernel, rfl, fun h => absurd h (by decide), zW_6 (i := 187) rfl rfl, zW_1 (i := 10) rfl rfl, by decide +kernel⟩
theorem kX11_isStone : zMok mX11_isStone := ⟨by decide +kernel, rfl, fun h => absurd h (by decide), zW_6 (i := 164) rfl rfl, zW_1 (i := 10) rfl rfl, by decide +kernel⟩
theorem kX11_begins : zMok mX11_begins := ⟨by decide +kernel, rfl, fun h => absurd h (by decide), zW_6 (i := 67) rfl rfl, zW_1 (i := 10) rfl rfl, by decide +kernel⟩
theorem kX11_force : zMok mX11_force := ⟨by decide +kernel, rfl, fun h => absurd h (by decide), zW_6 (i := 71) rfl rfl, zW_1 (i := 10) rfl rfl, by decide +kernel⟩
theorem kX11_goer : zMok mX11_goer := ⟨by decide +kernel, rfl, fun h => absurd h (by decide), zW_6 (i := 79) rfl rfl, zW_1 (i := 10) rfl rfl, by decide +kernel⟩
theorem kX11_join : zMok mX11_join := ⟨by decide +kernel, rfl, fun h => absurd h (by decide), zW_6 (i := 107) rfl rfl, zW_1 (i := 10) rfl rfl, by decide +kernel⟩
theorem kX11_stoneIn : zMok mX11_stoneIn := ⟨by decide +kernel, rfl, fun h => absurd h (by decide), zW_6 (i := 120) rfl rfl, zW_1 (i := 10) rfl rfl, by decide +kernel⟩
theorem kX11_summedBy : zMok mX11_summedBy := ⟨by decide +kernel, rfl, fun h => absurd h (by decide), zW_6 (i := 168) rfl rfl, zW_1 (i := 10) rfl rfl, by decide +kernel⟩
theorem kX11_quartersOf : zMok mX11_quartersOf := ⟨by decide +kernel, rfl, fun h => absurd h (by decide), zW_6 (i := 152) rfl rfl, zW_1 (i := 10) rfl rfl, by decide +kernel⟩
theorem kX11_walks : zMok mX11_walks := ⟨by decide +kernel, rfl, fun h => absurd h (by decide), zW_6 (i := 148) rfl rfl, zW_1 (i := 10) rfl rfl, by decide +kernel⟩
theorem kX11_comesOn : zMok mX11_comesOn := ⟨by decide +kernel, rfl, fun h => absurd h (by decide), zW_6 (i := 195) rfl rfl, zW_1 (i := 10) rfl rfl, by decide +kernel⟩
theorem kX11_goesOut : zMok mX11_goesOut := ⟨by decide +kernel, rfl, fun h => absurd h (by decide), zW_6 (i := 191) rfl rfl, zW_1 (i := 10) rfl rfl, by decide +kernel⟩
theorem kX11_passes : zMok mX11_passes := ⟨by decide +kernel, rfl, fun h => absurd h (by decide), zW_6 (i := 144) rfl rfl, zW_1 (i := 10) rfl rfl, by decide +kernel⟩
theorem kX11_passesAll : zMok mX11_passesAll := ⟨by decide +kernel, rfl, fun h => absurd h (by decide), zW_6 (i := 234) rfl rfl, zW_1 (i := 10) rfl rfl, by decide +kernel⟩
theorem kX11_keepsAct : zMok mX11_keepsAct := ⟨by decide +kernel, rfl, fun h => absurd h (by decide), zW_6 (i := 140) rfl rfl, zW_1 (i := 10) rfl rfl, by decide +kernel⟩
theorem kX11_undo : zMok mX11_undo := ⟨by decide +kernel, rfl, fun h => absurd h (by decide), zW_6 (i := 132) rfl rfl, zW_1 (i := 10) rfl rfl, by decide +kernel⟩
theorem kX11_step : zMok mX11_step := ⟨by decide +kernel, rfl, fun h => absurd h (by decide), zW_6 (i := 136) rfl rfl, zW_1 (i := 10) rfl rfl, by decide +kernel⟩
theorem kX11_give : zMok mX11_give := ⟨by decide +kernel, rfl, fun h => absurd h (by decide), zW_6 (i := 207) rfl rfl, zW_1 (i := 10) rfl rfl, by decide +kernel⟩
theorem kX11_way : zMok mX11_way := ⟨by decide +kernel, rfl, fun h => absurd h (by decide), zW_6 (i := 212) rfl rfl, zW_1 (i := 10) rfl rfl, by decide +kernel⟩
theorem kX11_stone : zMok mX11_stone := ⟨by decide +kernel, rfl, fun h => absurd h (by decide), zW_6 (i := 216) rfl rfl, zW_1 (i := 10) rfl rfl, by decide +kernel⟩
theorem kX11_fold : zMok mX11_fold := ⟨by decide +kernel, rfl, fun h => absurd h (by decide), zW_6 (i := 220) rfl rfl, zW_1 (i := 10) rfl rfl, by decide +kernel⟩
theorem kX11_keeps : zMok mX11_keeps := ⟨by decide +kernel, rfl, fun h => absurd h (by decide), zW_6 (i := 230) rfl rfl, zW_1 (i := 10) rfl rfl, by decide +kernel⟩
theorem kX11_laysBack : zMok mX11_laysBack := ⟨by decide +kernel, rfl, fun h => absurd h (by decide), zW_6 (i := 238) rfl rfl, zW_1 (i := 10) rfl rfl, by decide +kernel⟩
theorem kX11_ahead : zMok mX11_ahead := ⟨by decide +kernel, rfl, fun h => absurd h (by decide), zW_6 (i := 224) rfl rfl, zW_1 (i := 10) rfl rfl, by decide +kernel⟩
theorem kX11_home : zMok mX11_home := ⟨by decide +kernel, rfl, fun h => absurd h (by decide), zW_7 (i := 2) rfl rfl, zW_1 (i := 10) rfl rfl, by decide +kernel⟩
theorem kX11_gone : zMok mX11_gone := ⟨by decide +kernel, rfl, fun h => absurd h (by decide), zW_7 (i := 6) rfl rfl, zW_1 (i := 10) rfl rfl, by decide +kernel⟩
theorem kX11_leastFood : zMok mX11_leastFood := ⟨by decide +kernel, rfl, fun h => absurd h (by decide), zW_7 (i := 10) rfl rfl, zW_1 (i := 10) rfl rfl, by decide +kernel⟩
theorem kX11_meet : zMok mX11_meet := ⟨by decide +kernel, rfl, fun h => absurd h (by decide), zW_7 (i := 14) rfl rfl, zW_1 (i := 10) rfl rfl, by decide +kernel⟩
theorem kX11_nears : zMok mX11_nears := ⟨by decide +kernel, rfl, fun h => absurd h (by decide), zW_7 (i := 26) rfl rfl, zW_1 (i := 10) rfl rfl, by decide +kernel⟩
theorem kX11_goesFrom : zMok mX11_goesFrom := ⟨by decide +kernel, rfl, fun h => absurd h (by decide), zW_7 (i := 22) rfl rfl, zW_1 (i := 10) rfl rfl, by decide +kernel⟩
theorem kX11_shortest : zMok mX11_shortest := ⟨by decide +kernel, rfl, fun h => absurd h (by decide), zW_7 (i := 18) rfl rfl, zW_1 (i := 10) rfl rfl, by decide +kernel⟩
theorem kX11_seen : zMok mX11_seen := ⟨by decide +kernel, rfl, fun h => absurd h (by decide), zW_7 (i := 30) rfl rfl, zW_1 (i := 10) rfl rfl, by decide +kernel⟩
theorem kX11_longest : zMok mX11_longest := ⟨by decide +kernel, rfl, fun h => absurd h (by decide), zW_7 (i := 34) rfl rfl, zW_1 (i := 10) rfl rfl, by decide +kernel⟩
theorem kX11_weighs : zMok mX11_weighs := ⟨by decide +kernel, rfl, fun h => absurd h (by decide), zW_7 (i := 43) rfl rfl, zW_1 (i := 10) rfl rfl, by decide +kernel⟩
theorem kX11_bestFold : zMok mX11_bestFold := ⟨by decide +kernel, rfl, fun h => absurd h (by decide), zW_7 (i := 38) rfl rfl, zW_1 (i := 10) rfl rfl, by decide +kernel⟩
theorem kX11_bestStone : zMok mX11_bestStone := ⟨by decide +kernel, rfl, fun h => absurd h (by decide), zW_7 (i := 54) rfl rfl, zW_1 (i := 10) rfl rfl, by decide +kernel⟩
theorem kX11_isRest : zMok mX11_isRest := ⟨by decide +kernel, rfl, fun h => absurd h (by decide), zW_7 (i := 62) rfl rfl, zW_1 (i := 10) rfl rfl, by decide +kernel⟩
theorem kX11_rests : zMok mX11_rests := ⟨by decide +kernel, rfl, fun h => absurd h (by decide), zW_7 (i := 58) rfl rfl, zW_1 (i := 10) rfl rfl, by decide +kernel⟩
theorem kX11_whereOf : zMok mX11_whereOf := ⟨by decide +kernel, rfl, fun h => absurd h (by decide), zW_7 (i := 70) rfl rfl, zW_1 (i := 10) rfl rfl, by decide +kernel⟩
theorem kX11_areAlike : zMok mX11_areAlike := ⟨by decide +kernel, rfl, fun h => absurd h (by decide), zW_7 (i := 74) rfl rfl, zW_1 (i := 10) rfl rfl, by decide +kernel⟩
theorem kX11_ring : zMok mX11_ring := ⟨by decide +kernel, rfl, fun h => absurd h (by decide), zW_7 (i := 66) rfl rfl, zW_1 (i := 10) rfl rfl, by decide +kernel⟩
theorem kX11_shortOf : zMok mX11_shortOf := ⟨by decide +kernel, rfl, fun h => absurd h (by decide), zW_7 (i := 83) rfl rfl, zW_1 (i := 10) rfl rfl, by decide +kernel⟩
theorem kX11_bread : zMok mX11_bread := ⟨by decide +kernel, rfl, fun h => absurd h (by decide), zW_7 (i := 78) rfl rfl, zW_1 (i := 10) rfl rfl, by decide +kernel⟩
theorem kX11_note : zMok mX11_note := ⟨by decide +kernel, rfl, fun h => absurd h (by decide), zW_7 (i := 87) rfl rfl, zW_1 (i := 10) rfl rfl, by decide +kernel⟩
theorem kX11_cellOn : zMok mX11_cellOn := ⟨by decide +kernel, rfl, fun h => absurd h (by decide), zW_7 (i := 108) rfl rfl, zW_1 (i := 10) rfl rfl, by decide +kernel⟩
theorem kX11_areNotesSo : zMok mX11_areNotesSo := ⟨by decide +kernel, rfl, fun h => absurd h (by decide), zW_7 (i := 104) rfl rfl, zW_1 (i := 10) rfl rfl, by decide +kernel⟩
theorem kX11_areAllSo : zMok mX11_areAllSo := ⟨by decide +kernel, rfl, fun h => absurd h (by decide), zW_7 (i := 100) rfl rfl, zW_1 (i := 10) rfl rfl, by decide +kernel⟩
theorem kX11_fillsFits : zMok mX11_fillsFits := ⟨by decide +kernel, rfl, fun h => absurd h (by decide), zW_7 (i := 96) rfl rfl, zW_1 (i := 10) rfl rfl, by decide +kernel⟩
theorem kX11_ruled : zMok mX11_ruled := ⟨by decide +kernel, rfl, fun h => absurd h (by decide), zW_7 (i := 92) rfl rfl, zW_1 (i := 10) rfl rfl, by decide +kernel⟩
theorem kX11_alikeAt : zMok mX11_alikeAt := ⟨by decide +kernel, rfl, fun h => absurd h (by decide), zW_7 (i := 116) rfl rfl, zW_1 (i := 10) rfl rfl, by decide +kernel⟩
theorem kX11_look : zMok mX11_look := ⟨by decide +kernel, rfl, fun h => absurd h (by decide), zW_7 (i := 112) rfl rfl, zW_1 (i := 10) rfl rfl, by decide +kernel⟩
theorem kX11_folds : zMok mX11_folds := ⟨by decide +kernel, rfl, fun h => absurd h (by decide), zW_7 (i := 120) rfl rfl, zW_1 (i := 10) rfl rfl, by decide +kernel⟩
theorem kX11_seed : zMok mX11_seed := ⟨by decide +kernel, rfl, fun h => absurd h (by decide), zW_7 (i := 125) rfl rfl, zW_1 (i := 10) rfl rfl, by decide +kernel⟩
theorem kX11_draw : zMok mX11_draw := ⟨by decide +kernel, rfl, fun h => absurd h (by decide), zW_7 (i := 134) rfl rfl, zW_1 (i := 10) rfl rfl, by decide +kernel⟩
theorem kX11_blows : zMok mX11_blows := ⟨by decide +kernel, rfl, fun h => absurd h (by decide), zW_7 (i := 142) rfl rfl, zW_1 (i := 10) rfl rfl, by decide +kernel⟩
theorem kX11_gusts : zMok mX11_gusts := ⟨by decide +kernel, rfl, fun h => absurd h (by decide), zW_7 (i := 129) rfl rfl, zW_1 (i := 10) rfl rfl, by decide +kernel⟩
theorem kX11_count : zMok mX11_count := ⟨by decide +kernel, rfl, fun h => absurd h (by decide), zW_7 (i := 146) rfl rfl, zW_1 (i := 10) rfl rfl, by decide +kernel⟩
theorem kX11_image : zMok mX11_image := ⟨by decide +kernel, rfl, fun h => absurd h (by decide), zW_7 (i := 150) rfl rfl, zW_1 (i := 10) rfl rfl, by decide +kernel⟩
theorem kX11_back : zMok mX11_back := ⟨by decide +kernel, rfl, fun h => absurd h (by decide), zW_7 (i := 154) rfl rfl, zW_1 (i := 10) rfl rfl, by decide +kernel⟩
theorem kJ6_bitCount_0f7a4 : zMok mJ6_bitCount_0f7a4 := ⟨by decide +kernel, rfl, fun h => absurd h (by decide), zW_4 (i := 70) rfl rfl, zW_1 (i := 19) rfl rfl, by decide +kernel⟩
theorem kJ13_bitCount_95d88 : zMok mJ13_bitCount_95d88 := ⟨by decide +kernel, rfl, fun h => absurd h (by decide), zW_4 (i := 48) rfl rfl, zW_1 (i := 18) rfl rfl, by decide +kernel⟩
