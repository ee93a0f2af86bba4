abbrev M_X0_clear : Mt := (yX0_clear, cX0_clear, 1, none)
abbrev M_X8_clear : Mt := (yX8_clear, cX8_clear, 1, none)
abbrev M_X0_copyFrom : Mt := (yX0_copyFrom, cX0_copyFrom, 2, none)
abbrev M_X8_copyFrom : Mt := (yX8_copyFrom, cX8_copyFrom, 2, none)
abbrev M_X0_isTold : Mt := (yX0_isTold, cX0_isTold, 1, some .boolean)
abbrev M_X0_hasLady : Mt := (yX0_hasLady, cX0_hasLady, 2, some .boolean)
abbrev M_X8_has : Mt := (yX8_has, cX8_has, 2, some .boolean)
abbrev M_X0_hasRoom : Mt := (yX0_hasRoom, cX0_hasRoom, 2, some .boolean)
abbrev M_X0_hasDance : Mt := (yX0_hasDance, cX0_hasDance, 2, some .boolean)
abbrev M_X0_hasSet : Mt := (yX0_hasSet, cX0_hasSet, 2, some .boolean)
abbrev M_X0_everybody : Mt := (yX0_everybody, cX0_everybody, 1, some .int)
abbrev M_X0_ministersUnder : Mt := (yX0_ministersUnder, cX0_ministersUnder, 4, some .int)
abbrev M_X8_cell : Mt := (yX8_cell, cX8_cell, 3, some .int)
abbrev M_X0_seatsUnder : Mt := (yX0_seatsUnder, cX0_seatsUnder, 4, some .int)
abbrev M_X0_actBid : Mt := (yX0_actBid, cX0_actBid, 4, none)
abbrev M_X8_add : Mt := (yX8_add, cX8_add, 5, none)
abbrev M_X0_actMove : Mt := (yX0_actMove, cX0_actMove, 3, none)
abbrev M_X8_put : Mt := (yX8_put, cX8_put, 4, none)
abbrev M_X0_takeBack : Mt := (yX0_takeBack, cX0_takeBack, 2, none)
abbrev M_X8_dropLast : Mt := (yX8_dropLast, cX8_dropLast, 1, none)
abbrev M_X1_prepare : Mt := (yX1_prepare, cX1_prepare, 6, none)
abbrev M_X5_ahead : Mt := (yX5_ahead, cX5_ahead, 2, some .int)
abbrev M_X1_roomsOf : Mt := (yX1_roomsOf, cX1_roomsOf, 5, some .int)
abbrev M_X2_placeOf : Mt := (yX2_placeOf, cX2_placeOf, 3, some .int)
abbrev M_X9_hasBit : Mt := (yX9_hasBit, cX9_hasBit, 2, some .boolean)
abbrev M_X1_soonest : Mt := (yX1_soonest, cX1_soonest, 4, some .int)
abbrev M_X1_lookBack : Mt := (yX1_lookBack, cX1_lookBack, 4, none)
abbrev M_X2_spread : Mt := (yX2_spread, cX2_spread, 5, some .int)
abbrev M_X1_goodWithout : Mt := (yX1_goodWithout, cX1_goodWithout, 4, some .int)
abbrev M_X1_roomAt : Mt := (yX1_roomAt, cX1_roomAt, 9, some .int)
abbrev M_X2_stepsFrom : Mt := (yX2_stepsFrom, cX2_stepsFrom, 3, some .int)
abbrev M_X9_lowest : Mt := (yX9_lowest, cX9_lowest, 2, some .int)
abbrev M_X2_settle : Mt := (yX2_settle, cX2_settle, 5, none)
abbrev M_X2_openDoors : Mt := (yX2_openDoors, cX2_openDoors, 6, none)
abbrev M_X2_hearBids : Mt := (yX2_hearBids, cX2_hearBids, 3, none)
abbrev M_X2_goAsBidden : Mt := (yX2_goAsBidden, cX2_goAsBidden, 5, none)
abbrev M_X2_gather : Mt := (yX2_gather, cX2_gather, 3, none)
abbrev M_X2_openDoor : Mt := (yX2_openDoor, cX2_openDoor, 7, none)
abbrev M_J7_fill_53178 : Mt := (yJ7_fill_53178, cJ7_fill_53178, 4, none)
abbrev M_X2_hearBid : Mt := (yX2_hearBid, cX2_hearBid, 5, none)
abbrev M_X2_goalOf : Mt := (yX2_goalOf, cX2_goalOf, 3, some .int)
abbrev M_X2_nextRoom : Mt := (yX2_nextRoom, cX2_nextRoom, 7, some .int)
abbrev M_X2_ladiesIn : Mt := (yX2_ladiesIn, cX2_ladiesIn, 5, some .int)
abbrev M_X2_keepStill : Mt := (yX2_keepStill, cX2_keepStill, 4, none)
abbrev M_X2_copyFrom : Mt := (yX2_copyFrom, cX2_copyFrom, 2, none)
abbrev M_X2_distance : Mt := (yX2_distance, cX2_distance, 6, some .int)
abbrev M_X2_reachable : Mt := (yX2_reachable, cX2_reachable, 5, some .int)
abbrev M_X2_isHere : Mt := (yX2_isHere, cX2_isHere, 3, some .boolean)
abbrev M_X2_companyOf : Mt := (yX2_companyOf, cX2_companyOf, 3, some .int)
abbrev M_X2_dancesIn : Mt := (yX2_dancesIn, cX2_dancesIn, 5, some .int)
abbrev M_X2_stepsOf : Mt := (yX2_stepsOf, cX2_stepsOf, 4, some .int)
abbrev M_X2_meetingsOf : Mt := (yX2_meetingsOf, cX2_meetingsOf, 5, some .int)
abbrev M_X2_friendsOf : Mt := (yX2_friendsOf, cX2_friendsOf, 4, some .int)
abbrev M_X3_tally : Mt := (yX3_tally, cX3_tally, 3, none)
abbrev M_X3_seatsOf : Mt := (yX3_seatsOf, cX3_seatsOf, 4, some .int)
abbrev M_X3_isMoreThanHalf : Mt := (yX3_isMoreThanHalf, cX3_isMoreThanHalf, 2, some .boolean)
abbrev M_X3_isMajority : Mt := (yX3_isMajority, cX3_isMajority, 2, some .boolean)
abbrev M_X3_isLeastMajority : Mt := (yX3_isLeastMajority, cX3_isLeastMajority, 3, some .boolean)
abbrev M_X3_powerOf : Mt := (yX3_powerOf, cX3_powerOf, 4, some .int)
abbrev M_X4_play : Mt := (yX4_play, cX4_play, 7, none)
abbrev M_J7_fill_d0a16 : Mt := (yJ7_fill_d0a16, cJ7_fill_d0a16, 5, none)
abbrev M_X4_playOne : Mt := (yX4_playOne, cX4_playOne, 6, none)
abbrev M_X5_passed : Mt := (yX5_passed, cX5_passed, 6, some .int)
abbrev M_X4_weightWith : Mt := (yX4_weightWith, cX4_weightWith, 5, some .long)
abbrev M_X4_weightOfHolders : Mt := (yX4_weightOfHolders, cX4_weightOfHolders, 4, some .long)
abbrev M_J6_bitCount_0f7a4 : Mt := (yJ6_bitCount_0f7a4, cJ6_bitCount_0f7a4, 1, some .int)
abbrev M_X5_prepare : Mt := (yX5_prepare, cX5_prepare, 6, none)
abbrev M_X5_mayGive : Mt := (yX5_mayGive, cX5_mayGive, 5, some .boolean)
abbrev M_X5_follow : Mt := (yX5_follow, cX5_follow, 6, none)
abbrev M_X5_behind : Mt := (yX5_behind, cX5_behind, 2, some .int)
abbrev M_X5_gotAt : Mt := (yX5_gotAt, cX5_gotAt, 3, some .int)
abbrev M_X5_giverOf : Mt := (yX5_giverOf, cX5_giverOf, 5, some .int)
abbrev M_X6_read : Mt := (yX6_read, cX6_read, 3, none)
abbrev M_X6_nextToken : Mt := (yX6_nextToken, cX6_nextToken, 2, none)
abbrev M_X6_readLine : Mt := (yX6_readLine, cX6_readLine, 1, none)
abbrev M_X6_readBall : Mt := (yX6_readBall, cX6_readBall, 1, none)
abbrev M_X6_isWord : Mt := (yX6_isWord, cX6_isWord, 3, some .boolean)
abbrev M_X6_readDoor : Mt := (yX6_readDoor, cX6_readDoor, 4, none)
abbrev M_X6_readLady : Mt := (yX6_readLady, cX6_readLady, 3, none)
abbrev M_X6_readMinister : Mt := (yX6_readMinister, cX6_readMinister, 3, none)
abbrev M_X6_readBid : Mt := (yX6_readBid, cX6_readBid, 4, none)
abbrev M_X6_fail : Mt := (yX6_fail, cX6_fail, 2, none)
abbrev M_X6_takeWord : Mt := (yX6_takeWord, cX6_takeWord, 2, none)
abbrev M_X6_takeNumber : Mt := (yX6_takeNumber, cX6_takeNumber, 4, some .int)
abbrev M_X6_takeSign : Mt := (yX6_takeSign, cX6_takeSign, 1, none)
abbrev M_X6_startRow : Mt := (yX6_startRow, cX6_startRow, 2, none)
abbrev M_X6_digits : Mt := (yX6_digits, cX6_digits, 3, some .int)
abbrev M_X8_isFull : Mt := (yX8_isFull, cX8_isFull, 1, some .boolean)
abbrev M_X6_byteAt : Mt := (yX6_byteAt, cX6_byteAt, 2, some .int)
abbrev M_X6_isBlank : Mt := (yX6_isBlank, cX6_isBlank, 1, some .boolean)
abbrev M_X6_kindOf : Mt := (yX6_kindOf, cX6_kindOf, 1, some .int)
abbrev M_X7_isBare : Mt := (yX7_isBare, cX7_isBare, 1, some .boolean)
abbrev M_X7_start : Mt := (yX7_start, cX7_start, 3, none)
abbrev M_X7_cell : Mt := (yX7_cell, cX7_cell, 2, some .long)
abbrev M_X7_put : Mt := (yX7_put, cX7_put, 4, none)
abbrev M_X7_cut : Mt := (yX7_cut, cX7_cut, 3, some .long)
abbrev M_X7_hasStretch : Mt := (yX7_hasStretch, cX7_hasStretch, 3, some .boolean)
abbrev M_X8_hasCell : Mt := (yX8_hasCell, cX8_hasCell, 3, some .boolean)
abbrev M_X9_feed : Mt := (yX9_feed, cX9_feed, 6, some .int)
abbrev M_X9_appendFour : Mt := (yX9_appendFour, cX9_appendFour, 3, none)
abbrev M_X9_end : Mt := (yX9_end, cX9_end, 2, some .int)
abbrev M_X9_ball : Mt := (yX9_ball, cX9_ball, 1, some .int)
abbrev M_X9_settle : Mt := (yX9_settle, cX9_settle, 1, none)
abbrev M_X9_fault : Mt := (yX9_fault, cX9_fault, 2, some .int)
abbrev M_X9_door : Mt := (yX9_door, cX9_door, 3, some .int)
abbrev M_X9_lady : Mt := (yX9_lady, cX9_lady, 3, some .int)
abbrev M_X9_minister : Mt := (yX9_minister, cX9_minister, 3, some .int)
abbrev M_X9_way : Mt := (yX9_way, cX9_way, 4, some .int)
abbrev M_X9_reach : Mt := (yX9_reach, cX9_reach, 3, some .int)
abbrev M_X9_bidden : Mt := (yX9_bidden, cX9_bidden, 3, some .int)
abbrev M_X9_at : Mt := (yX9_at, cX9_at, 3, some .int)
abbrev M_X9_within : Mt := (yX9_within, cX9_within, 3, some .int)
abbrev M_X9_steps : Mt := (yX9_steps, cX9_steps, 2, some .int)
abbrev M_X9_sees : Mt := (yX9_sees, cX9_sees, 4, some .int)
abbrev M_X9_meets : Mt := (yX9_meets, cX9_meets, 4, some .int)
abbrev M_X9_often : Mt := (yX9_often, cX9_often, 3, some .int)
abbrev M_X9_friends : Mt := (yX9_friends, cX9_friends, 2, some .int)
abbrev M_X9_crush : Mt := (yX9_crush, cX9_crush, 3, some .int)
abbrev M_X9_fullest : Mt := (yX9_fullest, cX9_fullest, 4, some .int)
abbrev M_X9_crushed : Mt := (yX9_crushed, cX9_crushed, 3, some .int)
abbrev M_X9_likes : Mt := (yX9_likes, cX9_likes, 6, some .int)
abbrev M_X9_apart : Mt := (yX9_apart, cX9_apart, 4, some .int)
abbrev M_X9_alone : Mt := (yX9_alone, cX9_alone, 4, some .int)
abbrev M_X9_empty : Mt := (yX9_empty, cX9_empty, 4, some .int)
abbrev M_X9_late : Mt := (yX9_late, cX9_late, 3, some .int)
abbrev M_X9_waits : Mt := (yX9_waits, cX9_waits, 6, some .int)
abbrev M_X9_mate : Mt := (yX9_mate, cX9_mate, 6, some .int)
abbrev M_X9_passAsTold : Mt := (yX9_passAsTold, cX9_passAsTold, 1, none)
abbrev M_X9_inTheEnd : Mt := (yX9_inTheEnd, cX9_inTheEnd, 3, some .int)
abbrev M_X9_hears : Mt := (yX9_hears, cX9_hears, 4, some .int)
abbrev M_X9_hands : Mt := (yX9_hands, cX9_hands, 5, some .int)
abbrev M_X9_have : Mt := (yX9_have, cX9_have, 3, some .int)
abbrev M_X9_gets : Mt := (yX9_gets, cX9_gets, 3, some .int)
abbrev M_X9_from : Mt := (yX9_from, cX9_from, 3, some .int)
abbrev M_X9_all : Mt := (yX9_all, cX9_all, 4, some .int)
abbrev M_X9_best : Mt := (yX9_best, cX9_best, 5, some .int)
abbrev M_X9_lasts : Mt := (yX9_lasts, cX9_lasts, 4, some .int)
abbrev M_X9_needed : Mt := (yX9_needed, cX9_needed, 6, some .int)
abbrev M_X9_by : Mt := (yX9_by, cX9_by, 3, some .int)
abbrev M_X9_carry : Mt := (yX9_carry, cX9_carry, 4, some .int)
abbrev M_X9_walk : Mt := (yX9_walk, cX9_walk, 6, some .int)
abbrev M_X9_widen : Mt := (yX9_widen, cX9_widen, 7, some .int)
abbrev M_X9_shut : Mt := (yX9_shut, cX9_shut, 3, some .int)
abbrev M_X9_bars : Mt := (yX9_bars, cX9_bars, 5, some .int)
abbrev M_X9_firsts : Mt := (yX9_firsts, cX9_firsts, 3, some .int)
abbrev M_X9_seenFault : Mt := (yX9_seenFault, cX9_seenFault, 4, some .int)
abbrev M_X9_possibleFirsts : Mt := (yX9_possibleFirsts, cX9_possibleFirsts, 4, some .int)
abbrev M_X9_ask : Mt := (yX9_ask, cX9_ask, 3, some .int)
abbrev M_X9_bestAsked : Mt := (yX9_bestAsked, cX9_bestAsked, 6, some .int)
abbrev M_X9_leaves : Mt := (yX9_leaves, cX9_leaves, 5, some .int)
abbrev M_X9_leftAtWorst : Mt := (yX9_leftAtWorst, cX9_leftAtWorst, 6, some .int)
abbrev M_X9_isSlot : Mt := (yX9_isSlot, cX9_isSlot, 1, some .boolean)
abbrev M_X9_isSighting : Mt := (yX9_isSighting, cX9_isSighting, 7, some .boolean)
abbrev M_X9_agrees : Mt := (yX9_agrees, cX9_agrees, 4, some .boolean)
abbrev M_X9_seats : Mt := (yX9_seats, cX9_seats, 2, some .int)
abbrev M_X9_under : Mt := (yX9_under, cX9_under, 2, some .int)
abbrev M_X9_holds : Mt := (yX9_holds, cX9_holds, 2, some .int)
abbrev M_X9_blocks : Mt := (yX9_blocks, cX9_blocks, 2, some .int)
abbrev M_X9_power : Mt := (yX9_power, cX9_power, 2, some .int)
abbrev M_X9_dummies : Mt := (yX9_dummies, cX9_dummies, 3, some .int)
abbrev M_X9_strongest : Mt := (yX9_strongest, cX9_strongest, 5, some .int)
abbrev M_X9_part : Mt := (yX9_part, cX9_part, 3, some .int)
abbrev M_X9_isPart : Mt := (yX9_isPart, cX9_isPart, 1, some .boolean)
abbrev M_X9_lowestTerms : Mt := (yX9_lowestTerms, cX9_lowestTerms, 12, some .long)
abbrev M_X9_cabinet : Mt := (yX9_cabinet, cX9_cabinet, 4, some .int)
abbrev M_X9_cabinets : Mt := (yX9_cabinets, cX9_cabinets, 3, some .int)
abbrev M_X9_kingmaker : Mt := (yX9_kingmaker, cX9_kingmaker, 2, some .int)
abbrev M_X9_makesOneHold : Mt := (yX9_makesOneHold, cX9_makesOneHold, 4, some .boolean)
abbrev M_X9_rests : Mt := (yX9_rests, cX9_rests, 7, some .int)
abbrev M_X9_isContent : Mt := (yX9_isContent, cX9_isContent, 5, some .boolean)
abbrev M_X9_gains : Mt := (yX9_gains, cX9_gains, 5, some .int)
abbrev M_X9_gainOf : Mt := (yX9_gainOf, cX9_gainOf, 5, some .int)
abbrev M_X9_chance : Mt := (yX9_chance, cX9_chance, 5, some .long)
abbrev M_X9_isChanceDance : Mt := (yX9_isChanceDance, cX9_isChanceDance, 2, some .boolean)
abbrev M_X9_mean : Mt := (yX9_mean, cX9_mean, 4, some .long)
abbrev M_X9_drawn : Mt := (yX9_drawn, cX9_drawn, 5, some .int)
abbrev M_X9_isSeed : Mt := (yX9_isSeed, cX9_isSeed, 1, some .boolean)
abbrev M_X9_loudDances : Mt := (yX9_loudDances, cX9_loudDances, 6, some .int)
abbrev M_X9_drawnHolders : Mt := (yX9_drawnHolders, cX9_drawnHolders, 3, some .int)
abbrev M_X9_luck : Mt := (yX9_luck, cX9_luck, 7, some .int)
abbrev M_X9_bid : Mt := (yX9_bid, cX9_bid, 4, some .int)
abbrev M_X9_move : Mt := (yX9_move, cX9_move, 4, some .int)
abbrev M_X9_undo : Mt := (yX9_undo, cX9_undo, 1, some .int)
abbrev M_X9_anew : Mt := (yX9_anew, cX9_anew, 3, some .int)
abbrev M_X9_hang : Mt := (yX9_hang, cX9_hang, 4, some .int)
abbrev M_X9_count : Mt := (yX9_count, cX9_count, 2, some .int)
abbrev M_X9_slotsWithRow : Mt := (yX9_slotsWithRow, cX9_slotsWithRow, 3, some .int)
abbrev M_X9_image : Mt := (yX9_image, cX9_image, 2, some .int)
abbrev M_X9_back : Mt := (yX9_back, cX9_back, 2, some .int)
abbrev M_X9_row : Mt := (yX9_row, cX9_row, 4, some .int)
abbrev M_X9_write : Mt := (yX9_write, cX9_write, 5, some .int)
abbrev M_X9_paste : Mt := (yX9_paste, cX9_paste, 8, some .int)
abbrev M_X10_in : Mt := (yX10_in, cX10_in, 6, some .boolean)
abbrev M_X10_bits : Mt := (yX10_bits, cX10_bits, 3, some .int)
abbrev M_X10_bit : Mt := (yX10_bit, cX10_bit, 2, some .int)
abbrev M_X10_image : Mt := (yX10_image, cX10_image, 3, some .int)
abbrev M_X10_back : Mt := (yX10_back, cX10_back, 3, some .int)
abbrev M_X10_isBall : Mt := (yX10_isBall, cX10_isBall, 1, some .boolean)
abbrev M_X10_isRoom : Mt := (yX10_isRoom, cX10_isRoom, 2, some .boolean)
abbrev M_X10_isDance : Mt := (yX10_isDance, cX10_isDance, 3, some .boolean)
abbrev M_X10_isDoor : Mt := (yX10_isDoor, cX10_isDoor, 2, some .boolean)
abbrev M_X10_isLady : Mt := (yX10_isLady, cX10_isLady, 3, some .boolean)
abbrev M_X10_isMinister : Mt := (yX10_isMinister, cX10_isMinister, 2, some .boolean)
abbrev M_X10_isSet : Mt := (yX10_isSet, cX10_isSet, 2, some .boolean)
abbrev M_X10_dances : Mt := (yX10_dances, cX10_dances, 1, some .int)
abbrev M_X10_ladies : Mt := (yX10_ladies, cX10_ladies, 1, some .int)
abbrev M_X10_wideOf : Mt := (yX10_wideOf, cX10_wideOf, 2, some .int)
abbrev M_X10_feed : Mt := (yX10_feed, cX10_feed, 7, some .int)
abbrev M_X10_end : Mt := (yX10_end, cX10_end, 2, some .int)
abbrev M_X10_see : Mt := (yX10_see, cX10_see, 2, some .int)
abbrev M_X10_advance : Mt := (yX10_advance, cX10_advance, 2, none)
abbrev M_X10_good : Mt := (yX10_good, cX10_good, 1, some .boolean)
abbrev M_X10_errs : Mt := (yX10_errs, cX10_errs, 2, none)
abbrev M_X10_is : Mt := (yX10_is, cX10_is, 4, some .boolean)
abbrev M_X10_takes : Mt := (yX10_takes, cX10_takes, 3, some .boolean)
abbrev M_X10_needs : Mt := (yX10_needs, cX10_needs, 2, none)
abbrev M_X10_number : Mt := (yX10_number, cX10_number, 4, some .int)
abbrev M_X10_told : Mt := (yX10_told, cX10_told, 4, some .int)
abbrev M_X10_fault : Mt := (yX10_fault, cX10_fault, 2, some .int)
abbrev M_X10_freshRoom : Mt := (yX10_freshRoom, cX10_freshRoom, 2, some .int)
abbrev M_X10_readFirst : Mt := (yX10_readFirst, cX10_readFirst, 1, none)
abbrev M_X10_readDoor : Mt := (yX10_readDoor, cX10_readDoor, 2, none)
abbrev M_X10_readBid : Mt := (yX10_readBid, cX10_readBid, 2, none)
abbrev M_X10_isFull : Mt := (yX10_isFull, cX10_isFull, 1, some .boolean)
abbrev M_X10_readNext : Mt := (yX10_readNext, cX10_readNext, 3, none)
abbrev M_X10_readLine : Mt := (yX10_readLine, cX10_readLine, 1, none)
abbrev M_X10_ball : Mt := (yX10_ball, cX10_ball, 2, some .int)
abbrev M_X10_door : Mt := (yX10_door, cX10_door, 3, some .int)
abbrev M_X10_lady : Mt := (yX10_lady, cX10_lady, 3, some .int)
abbrev M_X10_wayOf : Mt := (yX10_wayOf, cX10_wayOf, 4, some .int)
abbrev M_X10_layWays : Mt := (yX10_layWays, cX10_layWays, 8, none)
abbrev M_X10_atOf : Mt := (yX10_atOf, cX10_atOf, 3, some .int)
abbrev M_X10_biddenOf : Mt := (yX10_biddenOf, cX10_biddenOf, 11, some .int)
abbrev M_X10_nextRoom : Mt := (yX10_nextRoom, cX10_nextRoom, 6, some .int)
abbrev M_X10_layPlaces : Mt := (yX10_layPlaces, cX10_layPlaces, 3, none)
abbrev M_X10_layMinisters : Mt := (yX10_layMinisters, cX10_layMinisters, 3, none)
abbrev M_X10_asItIs : Mt := (yX10_asItIs, cX10_asItIs, 1, none)
abbrev M_X10_asksBall : Mt := (yX10_asksBall, cX10_asksBall, 1, some .boolean)
abbrev M_X10_asksLady : Mt := (yX10_asksLady, cX10_asksLady, 2, some .boolean)
abbrev M_X10_asksDance : Mt := (yX10_asksDance, cX10_asksDance, 2, some .boolean)
abbrev M_X10_doMeet : Mt := (yX10_doMeet, cX10_doMeet, 4, some .boolean)
abbrev M_X10_minister : Mt := (yX10_minister, cX10_minister, 3, some .int)
abbrev M_X10_way : Mt := (yX10_way, cX10_way, 5, some .int)
abbrev M_X10_reach : Mt := (yX10_reach, cX10_reach, 5, some .int)
abbrev M_X10_bidden : Mt := (yX10_bidden, cX10_bidden, 3, some .int)
abbrev M_X10_at : Mt := (yX10_at, cX10_at, 3, some .int)
abbrev M_X10_withinOf : Mt := (yX10_withinOf, cX10_withinOf, 5, some .int)
abbrev M_X10_within : Mt := (yX10_within, cX10_within, 3, some .int)
abbrev M_X10_stepsOf : Mt := (yX10_stepsOf, cX10_stepsOf, 4, some .int)
abbrev M_X10_steps : Mt := (yX10_steps, cX10_steps, 2, some .int)
abbrev M_X10_sees : Mt := (yX10_sees, cX10_sees, 4, some .int)
abbrev M_X10_firstMeet : Mt := (yX10_firstMeet, cX10_firstMeet, 4, some .int)
abbrev M_X10_meets : Mt := (yX10_meets, cX10_meets, 3, some .int)
abbrev M_X10_oftenMeet : Mt := (yX10_oftenMeet, cX10_oftenMeet, 5, some .int)
abbrev M_X10_often : Mt := (yX10_often, cX10_often, 3, some .int)
abbrev M_X10_friendsOf : Mt := (yX10_friendsOf, cX10_friendsOf, 4, some .int)
abbrev M_X10_friends : Mt := (yX10_friends, cX10_friends, 2, some .int)
abbrev M_X10_crushOf : Mt := (yX10_crushOf, cX10_crushOf, 5, some .int)
abbrev M_X10_crush : Mt := (yX10_crush, cX10_crush, 1, some .int)
abbrev M_X10_crushed : Mt := (yX10_crushed, cX10_crushed, 1, some .int)
abbrev M_X10_likes : Mt := (yX10_likes, cX10_likes, 7, some .int)
abbrev M_X10_apart : Mt := (yX10_apart, cX10_apart, 5, some .int)
abbrev M_X10_alone : Mt := (yX10_alone, cX10_alone, 4, some .int)
abbrev M_X10_empty : Mt := (yX10_empty, cX10_empty, 4, some .int)
abbrev M_X10_late : Mt := (yX10_late, cX10_late, 4, some .int)
abbrev M_X10_waits : Mt := (yX10_waits, cX10_waits, 4, some .int)
abbrev M_X10_mate : Mt := (yX10_mate, cX10_mate, 5, some .int)
abbrev M_X10_doesGive : Mt := (yX10_doesGive, cX10_doesGive, 4, some .boolean)
abbrev M_X10_giverTo : Mt := (yX10_giverTo, cX10_giverTo, 5, some .int)
abbrev M_X10_goNote : Mt := (yX10_goNote, cX10_goNote, 8, some .int)
abbrev M_X10_goNote_ : Mt := (yX10_goNote_, cX10_goNote_, 2, some .int)
abbrev M_X10_have : Mt := (yX10_have, cX10_have, 3, some .int)
abbrev M_X10_asksNote : Mt := (yX10_asksNote, cX10_asksNote, 3, some .boolean)
abbrev M_X10_gets : Mt := (yX10_gets, cX10_gets, 3, some .int)
abbrev M_X10_from : Mt := (yX10_from, cX10_from, 3, some .int)
abbrev M_X10_hands : Mt := (yX10_hands, cX10_hands, 5, some .int)
abbrev M_X10_all : Mt := (yX10_all, cX10_all, 3, some .int)
abbrev M_X10_best : Mt := (yX10_best, cX10_best, 5, some .int)
abbrev M_X10_lasts : Mt := (yX10_lasts, cX10_lasts, 4, some .int)
abbrev M_X10_needed : Mt := (yX10_needed, cX10_needed, 5, some .int)
abbrev M_X10_by : Mt := (yX10_by, cX10_by, 3, some .int)
abbrev M_X10_hears : Mt := (yX10_hears, cX10_hears, 4, some .int)
abbrev M_X10_carryState : Mt := (yX10_carryState, cX10_carryState, 3, some .int)
abbrev M_X10_takesIn : Mt := (yX10_takesIn, cX10_takesIn, 6, some .boolean)
abbrev M_X10_isBeside : Mt := (yX10_isBeside, cX10_isBeside, 4, some .boolean)
abbrev M_X10_layCarry : Mt := (yX10_layCarry, cX10_layCarry, 12, none)
abbrev M_X10_layWalk : Mt := (yX10_layWalk, cX10_layWalk, 9, some .int)
abbrev M_X10_asksCarry : Mt := (yX10_asksCarry, cX10_asksCarry, 4, some .boolean)
abbrev M_X10_carry : Mt := (yX10_carry, cX10_carry, 4, some .int)
abbrev M_X10_walk : Mt := (yX10_walk, cX10_walk, 5, some .int)
abbrev M_X10_haveWith : Mt := (yX10_haveWith, cX10_haveWith, 4, some .int)
abbrev M_X10_widen : Mt := (yX10_widen, cX10_widen, 7, some .int)
abbrev M_X10_shut : Mt := (yX10_shut, cX10_shut, 3, some .int)
abbrev M_X10_bars : Mt := (yX10_bars, cX10_bars, 4, some .int)
abbrev M_X10_numberAt : Mt := (yX10_numberAt, cX10_numberAt, 3, some .long)
abbrev M_X10_isThree : Mt := (yX10_isThree, cX10_isThree, 3, some .boolean)
abbrev M_X10_layFirsts : Mt := (yX10_layFirsts, cX10_layFirsts, 6, some .int)
abbrev M_X10_isSlot : Mt := (yX10_isSlot, cX10_isSlot, 1, some .boolean)
abbrev M_X10_firsts : Mt := (yX10_firsts, cX10_firsts, 2, some .int)
abbrev M_X10_askOf : Mt := (yX10_askOf, cX10_askOf, 8, some .int)
abbrev M_X10_ask : Mt := (yX10_ask, cX10_ask, 3, some .int)
abbrev M_X10_leaves : Mt := (yX10_leaves, cX10_leaves, 3, some .int)
abbrev M_X10_seatsIn : Mt := (yX10_seatsIn, cX10_seatsIn, 4, some .int)
abbrev M_X10_allLadies : Mt := (yX10_allLadies, cX10_allLadies, 1, some .int)
abbrev M_X10_doesHold : Mt := (yX10_doesHold, cX10_doesHold, 2, some .boolean)
abbrev M_X10_powerOf : Mt := (yX10_powerOf, cX10_powerOf, 4, some .int)
abbrev M_X10_seats : Mt := (yX10_seats, cX10_seats, 2, some .int)
abbrev M_X10_under : Mt := (yX10_under, cX10_under, 4, some .int)
abbrev M_X10_holds : Mt := (yX10_holds, cX10_holds, 2, some .int)
abbrev M_X10_blocks : Mt := (yX10_blocks, cX10_blocks, 2, some .int)
abbrev M_X10_power : Mt := (yX10_power, cX10_power, 2, some .int)
abbrev M_X10_divisor : Mt := (yX10_divisor, cX10_divisor, 10, some .long)
abbrev M_X10_lowest : Mt := (yX10_lowest, cX10_lowest, 5, some .long)
abbrev M_X10_part : Mt := (yX10_part, cX10_part, 4, some .int)
abbrev M_X10_dummies : Mt := (yX10_dummies, cX10_dummies, 3, some .int)
abbrev M_X10_strongest : Mt := (yX10_strongest, cX10_strongest, 4, some .int)
abbrev M_X10_cabinet : Mt := (yX10_cabinet, cX10_cabinet, 3, some .int)
abbrev M_X10_isLeast : Mt := (yX10_isLeast, cX10_isLeast, 3, some .boolean)
abbrev M_X10_cabinets : Mt := (yX10_cabinets, cX10_cabinets, 3, some .int)
abbrev M_X10_kingmaker : Mt := (yX10_kingmaker, cX10_kingmaker, 3, some .int)
abbrev M_X10_gainsBy : Mt := (yX10_gainsBy, cX10_gainsBy, 8, some .int)
abbrev M_X10_areTwo : Mt := (yX10_areTwo, cX10_areTwo, 3, some .boolean)
abbrev M_X10_rests : Mt := (yX10_rests, cX10_rests, 8, some .int)
abbrev M_X10_gains : Mt := (yX10_gains, cX10_gains, 5, some .int)
abbrev M_X10_layMusic : Mt := (yX10_layMusic, cX10_layMusic, 7, none)
abbrev M_X10_asksMusic : Mt := (yX10_asksMusic, cX10_asksMusic, 4, some .boolean)
abbrev M_X10_chance : Mt := (yX10_chance, cX10_chance, 5, some .long)
abbrev M_X10_mean : Mt := (yX10_mean, cX10_mean, 4, some .long)
abbrev M_X10_keepAct : Mt := (yX10_keepAct, cX10_keepAct, 2, some .int)
abbrev M_X10_bid : Mt := (yX10_bid, cX10_bid, 4, some .int)
abbrev M_X10_move : Mt := (yX10_move, cX10_move, 4, some .int)
abbrev M_X10_undo : Mt := (yX10_undo, cX10_undo, 1, some .int)
abbrev M_X10_anew : Mt := (yX10_anew, cX10_anew, 2, some .int)
abbrev M_X10_goDrawn : Mt := (yX10_goDrawn, cX10_goDrawn, 7, some .int)
abbrev M_X10_isSeed : Mt := (yX10_isSeed, cX10_isSeed, 1, some .boolean)
abbrev M_X10_drawn : Mt := (yX10_drawn, cX10_drawn, 5, some .int)
abbrev M_X10_luck : Mt := (yX10_luck, cX10_luck, 7, some .int)
abbrev M_X10_hang : Mt := (yX10_hang, cX10_hang, 4, some .int)
abbrev M_X10_count : Mt := (yX10_count, cX10_count, 4, some .int)
abbrev M_X10_cut : Mt := (yX10_cut, cX10_cut, 4, some .long)
abbrev M_X10_row : Mt := (yX10_row, cX10_row, 5, some .int)
abbrev M_X10_write : Mt := (yX10_write, cX10_write, 5, some .int)
abbrev M_X10_paste : Mt := (yX10_paste, cX10_paste, 7, some .int)
theorem k_64 : (Jvm.Cond.fieldLink "HoopCabinet$Ball" (32 : Nat) "HoopCabinet$Ball" "lines" "I") ∈ lw_tbl := List.mem_append_right _ (List.mem_of_getElem? (i := 64) (by decide +kernel))
theorem k_67 : (Jvm.Cond.fieldLink "HoopCabinet$Ball" (36 : Nat) "HoopCabinet$Ball" "rooms" "I") ∈ lw_tbl := List.mem_append_right _ (List.mem_of_getElem? (i := 67) (by decide +kernel))
theorem k_71 : (Jvm.Cond.fieldLink "HoopCabinet$Ball" (39 : Nat) "HoopCabinet$Ball" "dances" "I") ∈ lw_tbl := List.mem_append_right _ (List.mem_of_getElem? (i := 71) (by decide +kernel))
theorem k_76 : (Jvm.Cond.fieldLink "HoopCabinet$Ball" (42 : Nat) "HoopCabinet$Ball" "law" "I") ∈ lw_tbl := List.mem_append_right _ (List.mem_of_getElem? (i := 76) (by decide +kernel))
theorem k_79 : (Jvm.Cond.fieldLink "HoopCabinet$Ball" (45 : Nat) "HoopCabinet$Ball" "odds" "I") ∈ lw_tbl := List.mem_append_right _ (List.mem_of_getElem? (i := 79) (by decide +kernel))
theorem k_379 : (Jvm.Cond.code ({ cls := "HoopCabinet$Table", name := "clear", desc := "()V" } : Jvm.MethodName) prog_10_method_9_code (1 : Nat) (Option.none : Option Jvm.ClassFile.FieldType)) ∈ lw_tbl := List.mem_append_right _ (List.mem_of_getElem? (i := 379) (by decide +kernel))
theorem k_376 : (Jvm.Cond.methodLink "HoopCabinet$Ball" (48 : Nat) ({ cls := "HoopCabinet$Table", name := "clear", desc := "()V" } : Jvm.MethodName)) ∈ lw_tbl := List.mem_append_right _ (List.mem_of_getElem? (i := 376) (by decide +kernel))
theorem k_377 : (Jvm.Cond.instanceMethod ({ cls := "HoopCabinet$Table", name := "clear", desc := "()V" } : Jvm.MethodName)) ∈ lw_tbl := List.mem_append_right _ (List.mem_of_getElem? (i := 377) (by decide +kernel))
theorem k_378 : (Jvm.Cond.selects "HoopCabinet$Table" ({ cls := "HoopCabinet$Table", name := "clear", desc := "()V" } : Jvm.MethodName) ({ cls := "HoopCabinet$Table", name := "clear", desc := "()V" } : Jvm.MethodName)) ∈ lw_tbl := List.mem_append_right _ (List.mem_of_getElem? (i := 378) (by decide +kernel))
theorem k_534 : (Jvm.Cond.code ({ cls := "HoopCabinet$Table", name := "copyFrom", desc := "(LHoopCabinet$Table;)V" } : Jvm.MethodName) prog_10_method_10_code (2 : Nat) (Option.none : Option Jvm.ClassFile.FieldType)) ∈ lw_tbl := List.mem_append_right _ (List.mem_of_getElem? (i := 534) (by decide +kernel))
theorem k_531 : (Jvm.Cond.methodLink "HoopCabinet$Ball" (51 : Nat) ({ cls := "HoopCabinet$Table", name := "copyFrom", desc := "(LHoopCabinet$Table;)V" } : Jvm.MethodName)) ∈ lw_tbl := List.mem_append_right _ (List.mem_of_getElem? (i := 531) (by decide +kernel))
theorem k_532 : (Jvm.Cond.instanceMethod ({ cls := "HoopCabinet$Table", name := "copyFrom", desc := "(LHoopCabinet$Table;)V" } : Jvm.MethodName)) ∈ lw_tbl := List.mem_append_right _ (List.mem_of_getElem? (i := 532) (by decide +kernel))
theorem k_533 : (Jvm.Cond.selects "HoopCabinet$Table" ({ cls := "HoopCabinet$Table", name := "copyFrom", desc := "(LHoopCabinet$Table;)V" } : Jvm.MethodName) ({ cls := "HoopCabinet$Table", name := "copyFrom", desc := "(LHoopCabinet$Table;)V" } : Jvm.MethodName)) ∈ lw_tbl := List.mem_append_right _ (List.mem_of_getElem? (i := 533) (by decide +kernel))
theorem k_646 : (Jvm.Cond.code ({ cls := "HoopCabinet$Table", name := "has", desc := "(I)Z" } : Jvm.MethodName) prog_10_method_2_code (2 : Nat) (Option.some Jvm.ClassFile.FieldType.boolean)) ∈ lw_tbl := List.mem_append_right _ (List.mem_of_getElem? (i := 646) (by decide +kernel))
theorem k_643 : (Jvm.Cond.methodLink "HoopCabinet$Ball" (55 : Nat) ({ cls := "HoopCabinet$Table", name := "has", desc := "(I)Z" } : Jvm.MethodName)) ∈ lw_tbl := List.mem_append_right _ (List.mem_of_getElem? (i := 643) (by decide +kernel))
theorem k_644 : (Jvm.Cond.instanceMethod ({ cls := "HoopCabinet$Table", name := "has", desc := "(I)Z" } : Jvm.MethodName)) ∈ lw_tbl := List.mem_append_right _ (List.mem_of_getElem? (i := 644) (by decide +kernel))
theorem k_645 : (Jvm.Cond.selects "HoopCabinet$Table" ({ cls := "HoopCabinet$Table", name := "has", desc := "(I)Z" } : Jvm.MethodName) ({ cls := "HoopCabinet$Table", name := "has", desc := "(I)Z" } : Jvm.MethodName)) ∈ lw_tbl := List.mem_append_right _ (List.mem_of_getElem? (i := 645) (by decide +kernel))
theorem k_671 : (Jvm.Cond.code ({ cls := "HoopCabinet$Ball", name := "isTold", desc := "()Z" } : Jvm.MethodName) prog_2_method_4_code (1 : Nat) (Option.some Jvm.ClassFile.FieldType.boolean)) ∈ lw_tbl := List.mem_append_right _ (List.mem_of_getElem? (i := 671) (by decide +kernel))
theorem k_668 : (Jvm.Cond.methodLink "HoopCabinet$Ball" (59 : Nat) ({ cls := "HoopCabinet$Ball", name := "isTold", desc := "()Z" } : Jvm.MethodName)) ∈ lw_tbl := List.mem_append_right _ (List.mem_of_getElem? (i := 668) (by decide +kernel))
theorem k_669 : (Jvm.Cond.instanceMethod ({ cls := "HoopCabinet$Ball", name := "isTold", desc := "()Z" } : Jvm.MethodName)) ∈ lw_tbl := List.mem_append_right _ (List.mem_of_getElem? (i := 669) (by decide +kernel))
theorem k_670 : (Jvm.Cond.selects "HoopCabinet$Ball" ({ cls := "HoopCabinet$Ball", name := "isTold", desc := "()Z" } : Jvm.MethodName) ({ cls := "HoopCabinet$Ball", name := "isTold", desc := "()Z" } : Jvm.MethodName)) ∈ lw_tbl := List.mem_append_right _ (List.mem_of_getElem? (i := 670) (by decide +kernel))
theorem k_850 : (Jvm.Cond.code ({ cls := "HoopCabinet$Ball", name := "everybody", desc := "()I" } : Jvm.MethodName) prog_2_method_9_code (1 : Nat) (Option.some Jvm.ClassFile.FieldType.int)) ∈ lw_tbl := List.mem_append_right _ (List.mem_of_getElem? (i := 850) (by decide +kernel))
theorem k_989 : (Jvm.Cond.methodLink "HoopCabinet$Ball" (63 : Nat) ({ cls := "HoopCabinet$Ball", name := "everybody", desc := "()I" } : Jvm.MethodName)) ∈ lw_tbl := List.mem_append_right _ (List.mem_of_getElem? (i := 989) (by decide +kernel))
theorem k_848 : (Jvm.Cond.instanceMethod ({ cls := "HoopCabinet$Ball", name := "everybody", desc := "()I" } : Jvm.MethodName)) ∈ lw_tbl := List.mem_append_right _ (List.mem_of_getElem? (i := 848) (by decide +kernel))
theorem k_849 : (Jvm.Cond.selects "HoopCabinet$Ball" ({ cls := "HoopCabinet$Ball", name := "everybody", desc := "()I" } : Jvm.MethodName) ({ cls := "HoopCabinet$Ball", name := "everybody", desc := "()I" } : Jvm.MethodName)) ∈ lw_tbl := List.mem_append_right _ (List.mem_of_getElem? (i := 849) (by decide +kernel))
theorem k_51 : (Jvm.Cond.fieldLinkNest "HoopCabinet$Ball" (67 : Nat) "HoopCabinet$Table" "rows" "I" "HoopCabinet") ∈ lw_tbl := List.mem_append_right _ (List.mem_of_getElem? (i := 51) (by decide +kernel))
theorem k_554 : (Jvm.Cond.code ({ cls := "HoopCabinet$Table", name := "cell", desc := "(II)I" } : Jvm.MethodName) prog_10_method_5_code (3 : Nat) (Option.some Jvm.ClassFile.FieldType.int)) ∈ lw_tbl := List.mem_append_right _ (List.mem_of_getElem? (i := 554) (by decide +kernel))
theorem k_789 : (Jvm.Cond.methodLink "HoopCabinet$Ball" (70 : Nat) ({ cls := "HoopCabinet$Table", name := "cell", desc := "(II)I" } : Jvm.MethodName)) ∈ lw_tbl := List.mem_append_right _ (List.mem_of_getElem? (i := 789) (by decide +kernel))
theorem k_552 : (Jvm.Cond.instanceMethod ({ cls := "HoopCabinet$Table", name := "cell", desc := "(II)I" } : Jvm.MethodName)) ∈ lw_tbl := List.mem_append_right _ (List.mem_of_getElem? (i := 552) (by decide +kernel))
theorem k_553 : (Jvm.Cond.selects "HoopCabinet$Table" ({ cls := "HoopCabinet$Table", name := "cell", desc := "(II)I" } : Jvm.MethodName) ({ cls := "HoopCabinet$Table", name := "cell", desc := "(II)I" } : Jvm.MethodName)) ∈ lw_tbl := List.mem_append_right _ (List.mem_of_getElem? (i := 553) (by decide +kernel))
theorem k_498 : (Jvm.Cond.code ({ cls := "HoopCabinet$Table", name := "add", desc := "(IIII)V" } : Jvm.MethodName) prog_10_method_7_code (5 : Nat) (Option.none : Option Jvm.ClassFile.FieldType)) ∈ lw_tbl := List.mem_append_right _ (List.mem_of_getElem? (i := 498) (by decide +kernel))
theorem k_1157 : (Jvm.Cond.methodLink "HoopCabinet$Ball" (74 : Nat) ({ cls := "HoopCabinet$Table", name := "add", desc := "(IIII)V" } : Jvm.MethodName)) ∈ lw_tbl := List.mem_append_right _ (List.mem_of_getElem? (i := 1157) (by decide +kernel))
theorem k_496 : (Jvm.Cond.instanceMethod ({ cls := "HoopCabinet$Table", name := "add", desc := "(IIII)V" } : Jvm.MethodName)) ∈ lw_tbl := List.mem_append_right _ (List.mem_of_getElem? (i := 496) (by decide +kernel))
theorem k_497 : (Jvm.Cond.selects "HoopCabinet$Table" ({ cls := "HoopCabinet$Table", name := "add", desc := "(IIII)V" } : Jvm.MethodName) ({ cls := "HoopCabinet$Table", name := "add", desc := "(IIII)V" } : Jvm.MethodName)) ∈ lw_tbl := List.mem_append_right _ (List.mem_of_getElem? (i := 497) (by decide +kernel))
theorem k_503 : (Jvm.Cond.code ({ cls := "HoopCabinet$Table", name := "put", desc := "(III)V" } : Jvm.MethodName) prog_10_method_6_code (4 : Nat) (Option.none : Option Jvm.ClassFile.FieldType)) ∈ lw_tbl := List.mem_append_right _ (List.mem_of_getElem? (i := 503) (by decide +kernel))
theorem k_1166 : (Jvm.Cond.methodLink "HoopCabinet$Ball" (78 : Nat) ({ cls := "HoopCabinet$Table", name := "put", desc := "(III)V" } : Jvm.MethodName)) ∈ lw_tbl := List.mem_append_right _ (List.mem_of_getElem? (i := 1166) (by decide +kernel))
theorem k_501 : (Jvm.Cond.instanceMethod ({ cls := "HoopCabinet$Table", name := "put", desc := "(III)V" } : Jvm.MethodName)) ∈ lw_tbl := List.mem_append_right _ (List.mem_of_getElem? (i := 501) (by decide +kernel))
theorem k_502 : (Jvm.Cond.selects "HoopCabinet$Table" ({ cls := "HoopCabinet$Table", name := "put", desc := "(III)V" } : Jvm.MethodName) ({ cls := "HoopCabinet$Table", name := "put", desc := "(III)V" } : Jvm.MethodName)) ∈ lw_tbl := List.mem_append_right _ (List.mem_of_getElem? (i := 502) (by decide +kernel))
theorem k_1178 : (Jvm.Cond.code ({ cls := "HoopCabinet$Table", name := "dropLast", desc := "()V" } : Jvm.MethodName) prog_10_method_8_code (1 : Nat) (Option.none : Option Jvm.ClassFile.FieldType)) ∈ lw_tbl := List.mem_append_right _ (List.mem_of_getElem? (i := 1178) (by decide +kernel))
theorem k_1175 : (Jvm.Cond.methodLink "HoopCabinet$Ball" (82 : Nat) ({ cls := "HoopCabinet$Table", name := "dropLast", desc := "()V" } : Jvm.MethodName)) ∈ lw_tbl := List.mem_append_right _ (List.mem_of_getElem? (i := 1175) (by decide +kernel))
theorem k_1176 : (Jvm.Cond.instanceMethod ({ cls := "HoopCabinet$Table", name := "dropLast", desc := "()V" } : Jvm.MethodName)) ∈ lw_tbl := List.mem_append_right _ (List.mem_of_getElem? (i := 1176) (by decide +kernel))
theorem k_1177 : (Jvm.Cond.selects "HoopCabinet$Table" ({ cls := "HoopCabinet$Table", name := "dropLast", desc := "()V" } : Jvm.MethodName) ({ cls := "HoopCabinet$Table", name := "dropLast", desc := "()V" } : Jvm.MethodName)) ∈ lw_tbl := List.mem_append_right _ (List.mem_of_getElem? (i := 1177) (by decide +kernel))
theorem k_246 : (Jvm.Cond.fieldLink "HoopCabinet$Carrier" (21 : Nat) "HoopCabinet$Carrier" "lady" "I") ∈ lw_tbl := List.mem_append_right _ (List.mem_of_getElem? (i := 246) (by decide +kernel))
theorem k_247 : (Jvm.Cond.fieldLink "HoopCabinet$Carrier" (25 : Nat) "HoopCabinet$Carrier" "other" "I") ∈ lw_tbl := List.mem_append_right _ (List.mem_of_getElem? (i := 247) (by decide +kernel))
theorem k_220 : (Jvm.Cond.fieldLinkNest "HoopCabinet$Carrier" (28 : Nat) "HoopCabinet$Notes" "dances" "I" "HoopCabinet") ∈ lw_tbl := List.mem_append_right _ (List.mem_of_getElem? (i := 220) (by decide +kernel))
theorem k_248 : (Jvm.Cond.fieldLink "HoopCabinet$Carrier" (33 : Nat) "HoopCabinet$Carrier" "dances" "I") ∈ lw_tbl := List.mem_append_right _ (List.mem_of_getElem? (i := 248) (by decide +kernel))
theorem k_828 : (Jvm.Cond.code ({ cls := "HoopCabinet$Notes", name := "ahead", desc := "(I)I" } : Jvm.MethodName) prog_7_method_7_code (2 : Nat) (Option.some Jvm.ClassFile.FieldType.int)) ∈ lw_tbl := List.mem_append_right _ (List.mem_of_getElem? (i := 828) (by decide +kernel))
theorem k_875 : (Jvm.Cond.methodLink "HoopCabinet$Carrier" (34 : Nat) ({ cls := "HoopCabinet$Notes", name := "ahead", desc := "(I)I" } : Jvm.MethodName)) ∈ lw_tbl := List.mem_append_right _ (List.mem_of_getElem? (i := 875) (by decide +kernel))
theorem k_826 : (Jvm.Cond.instanceMethod ({ cls := "HoopCabinet$Notes", name := "ahead", desc := "(I)I" } : Jvm.MethodName)) ∈ lw_tbl := List.mem_append_right _ (List.mem_of_getElem? (i := 826) (by decide +kernel))
theorem k_827 : (Jvm.Cond.selects "HoopCabinet$Notes" ({ cls := "HoopCabinet$Notes", name := "ahead", desc := "(I)I" } : Jvm.MethodName) ({ cls := "HoopCabinet$Notes", name := "ahead", desc := "(I)I" } : Jvm.MethodName)) ∈ lw_tbl := List.mem_append_right _ (List.mem_of_getElem? (i := 827) (by decide +kernel))
theorem k_878 : (Jvm.Cond.code ({ cls := "HoopCabinet$Carrier", name := "roomsOf", desc := "(LHoopCabinet$Floor;II)I" } : Jvm.MethodName) prog_3_method_3_code (5 : Nat) (Option.some Jvm.ClassFile.FieldType.int)) ∈ lw_tbl := List.mem_append_right _ (List.mem_of_getElem? (i := 878) (by decide +kernel))
theorem k_876 : (Jvm.Cond.methodLink "HoopCabinet$Carrier" (38 : Nat) ({ cls := "HoopCabinet$Carrier", name := "roomsOf", desc := "(LHoopCabinet$Floor;II)I" } : Jvm.MethodName)) ∈ lw_tbl := List.mem_append_right _ (List.mem_of_getElem? (i := 876) (by decide +kernel))
theorem k_877 : (Jvm.Cond.static ({ cls := "HoopCabinet$Carrier", name := "roomsOf", desc := "(LHoopCabinet$Floor;II)I" } : Jvm.MethodName)) ∈ lw_tbl := List.mem_append_right _ (List.mem_of_getElem? (i := 877) (by decide +kernel))
theorem k_222 : (Jvm.Cond.fieldLinkNest "HoopCabinet$Carrier" (42 : Nat) "HoopCabinet$Notes" "first" "I" "HoopCabinet") ∈ lw_tbl := List.mem_append_right _ (List.mem_of_getElem? (i := 222) (by decide +kernel))
theorem k_612 : (Jvm.Cond.code ({ cls := "HoopCabinet$Floor", name := "placeOf", desc := "(II)I" } : Jvm.MethodName) prog_4_method_18_code (3 : Nat) (Option.some Jvm.ClassFile.FieldType.int)) ∈ lw_tbl := List.mem_append_right _ (List.mem_of_getElem? (i := 612) (by decide +kernel))
theorem k_880 : (Jvm.Cond.methodLink "HoopCabinet$Carrier" (45 : Nat) ({ cls := "HoopCabinet$Floor", name := "placeOf", desc := "(II)I" } : Jvm.MethodName)) ∈ lw_tbl := List.mem_append_right _ (List.mem_of_getElem? (i := 880) (by decide +kernel))
theorem k_610 : (Jvm.Cond.instanceMethod ({ cls := "HoopCabinet$Floor", name := "placeOf", desc := "(II)I" } : Jvm.MethodName)) ∈ lw_tbl := List.mem_append_right _ (List.mem_of_getElem? (i := 610) (by decide +kernel))
theorem k_611 : (Jvm.Cond.selects "HoopCabinet$Floor" ({ cls := "HoopCabinet$Floor", name := "placeOf", desc := "(II)I" } : Jvm.MethodName) ({ cls := "HoopCabinet$Floor", name := "placeOf", desc := "(II)I" } : Jvm.MethodName)) ∈ lw_tbl := List.mem_append_right _ (List.mem_of_getElem? (i := 611) (by decide +kernel))
theorem k_599 : (Jvm.Cond.code ({ cls := "HoopCabinet", name := "hasBit", desc := "(II)Z" } : Jvm.MethodName) prog_1_method_95_code (2 : Nat) (Option.some Jvm.ClassFile.FieldType.boolean)) ∈ lw_tbl := List.mem_append_right _ (List.mem_of_getElem? (i := 599) (by decide +kernel))
theorem k_1 : (Jvm.Cond.initialized "HoopCabinet") ∈ lw_tbl := List.mem_append_right _ (List.mem_of_getElem? (i := 1) (by decide +kernel))
theorem k_879 : (Jvm.Cond.methodLinkNest "HoopCabinet$Carrier" (51 : Nat) ({ cls := "HoopCabinet", name := "hasBit", desc := "(II)Z" } : Jvm.MethodName) "HoopCabinet") ∈ lw_tbl := List.mem_append_right _ (List.mem_of_getElem? (i := 879) (by decide +kernel))
theorem k_598 : (Jvm.Cond.static ({ cls := "HoopCabinet", name := "hasBit", desc := "(II)Z" } : Jvm.MethodName)) ∈ lw_tbl := List.mem_append_right _ (List.mem_of_getElem? (i := 598) (by decide +kernel))
theorem k_249 : (Jvm.Cond.fieldLink "HoopCabinet$Carrier" (55 : Nat) "HoopCabinet$Carrier" "startsWithIt" "Z") ∈ lw_tbl := List.mem_append_right _ (List.mem_of_getElem? (i := 249) (by decide +kernel))
theorem k_250 : (Jvm.Cond.fieldLink "HoopCabinet$Carrier" (59 : Nat) "HoopCabinet$Carrier" "givesAtOnce" "Z") ∈ lw_tbl := List.mem_append_right _ (List.mem_of_getElem? (i := 250) (by decide +kernel))
theorem k_888 : (Jvm.Cond.code ({ cls := "HoopCabinet$Carrier", name := "lookBack", desc := "(LHoopCabinet$Floor;I)V" } : Jvm.MethodName) prog_3_method_5_code (4 : Nat) (Option.none : Option Jvm.ClassFile.FieldType)) ∈ lw_tbl := List.mem_append_right _ (List.mem_of_getElem? (i := 888) (by decide +kernel))
theorem k_885 : (Jvm.Cond.methodLink "HoopCabinet$Carrier" (62 : Nat) ({ cls := "HoopCabinet$Carrier", name := "lookBack", desc := "(LHoopCabinet$Floor;I)V" } : Jvm.MethodName)) ∈ lw_tbl := List.mem_append_right _ (List.mem_of_getElem? (i := 885) (by decide +kernel))
theorem k_887 : (Jvm.Cond.instanceMethod ({ cls := "HoopCabinet$Carrier", name := "lookBack", desc := "(LHoopCabinet$Floor;I)V" } : Jvm.MethodName)) ∈ lw_tbl := List.mem_append_right _ (List.mem_of_getElem? (i := 887) (by decide +kernel))
theorem ks_27 : Cond.selects "HoopCabinet$Carrier" ({ cls := "HoopCabinet$Carrier", name := "lookBack", desc := "(LHoopCabinet$Floor;I)V" } : Jvm.MethodName) ({ cls := "HoopCabinet$Carrier", name := "lookBack", desc := "(LHoopCabinet$Floor;I)V" } : Jvm.MethodName) ∈ lw_tbl := List.mem_append_left _ (List.mem_of_getElem? (i := 27) (by decide +kernel))
theorem k_603 : (Jvm.Cond.code ({ cls := "HoopCabinet$Floor", name := "spread", desc := "(II)I" } : Jvm.MethodName) prog_4_method_13_code (5 : Nat) (Option.some Jvm.ClassFile.FieldType.int)) ∈ lw_tbl := List.mem_append_right _ (List.mem_of_getElem? (i := 603) (by decide +kernel))
theorem k_889 : (Jvm.Cond.methodLink "HoopCabinet$Carrier" (66 : Nat) ({ cls := "HoopCabinet$Floor", name := "spread", desc := "(II)I" } : Jvm.MethodName)) ∈ lw_tbl := List.mem_append_right _ (List.mem_of_getElem? (i := 889) (by decide +kernel))
theorem k_601 : (Jvm.Cond.instanceMethod ({ cls := "HoopCabinet$Floor", name := "spread", desc := "(II)I" } : Jvm.MethodName)) ∈ lw_tbl := List.mem_append_right _ (List.mem_of_getElem? (i := 601) (by decide +kernel))
theorem k_602 : (Jvm.Cond.selects "HoopCabinet$Floor" ({ cls := "HoopCabinet$Floor", name := "spread", desc := "(II)I" } : Jvm.MethodName) ({ cls := "HoopCabinet$Floor", name := "spread", desc := "(II)I" } : Jvm.MethodName)) ∈ lw_tbl := List.mem_append_right _ (List.mem_of_getElem? (i := 602) (by decide +kernel))
theorem k_893 : (Jvm.Cond.code ({ cls := "HoopCabinet$Carrier", name := "goodWithout", desc := "(II)I" } : Jvm.MethodName) prog_3_method_6_code (4 : Nat) (Option.some Jvm.ClassFile.FieldType.int)) ∈ lw_tbl := List.mem_append_right _ (List.mem_of_getElem? (i := 893) (by decide +kernel))
theorem k_890 : (Jvm.Cond.methodLink "HoopCabinet$Carrier" (69 : Nat) ({ cls := "HoopCabinet$Carrier", name := "goodWithout", desc := "(II)I" } : Jvm.MethodName)) ∈ lw_tbl := List.mem_append_right _ (List.mem_of_getElem? (i := 890) (by decide +kernel))
theorem k_892 : (Jvm.Cond.instanceMethod ({ cls := "HoopCabinet$Carrier", name := "goodWithout", desc := "(II)I" } : Jvm.MethodName)) ∈ lw_tbl := List.mem_append_right _ (List.mem_of_getElem? (i := 892) (by decide +kernel))
theorem ks_28 : Cond.selects "HoopCabinet$Carrier" ({ cls := "HoopCabinet$Carrier", name := "goodWithout", desc := "(II)I" } : Jvm.MethodName) ({ cls := "HoopCabinet$Carrier", name := "goodWithout", desc := "(II)I" } : Jvm.MethodName) ∈ lw_tbl := List.mem_append_left _ (List.mem_of_getElem? (i := 28) (by decide +kernel))
theorem k_593 : (Jvm.Cond.code ({ cls := "HoopCabinet$Floor", name := "stepsFrom", desc := "(II)I" } : Jvm.MethodName) prog_4_method_12_code (3 : Nat) (Option.some Jvm.ClassFile.FieldType.int)) ∈ lw_tbl := List.mem_append_right _ (List.mem_of_getElem? (i := 593) (by decide +kernel))
theorem k_903 : (Jvm.Cond.methodLink "HoopCabinet$Carrier" (72 : Nat) ({ cls := "HoopCabinet$Floor", name := "stepsFrom", desc := "(II)I" } : Jvm.MethodName)) ∈ lw_tbl := List.mem_append_right _ (List.mem_of_getElem? (i := 903) (by decide +kernel))
theorem k_591 : (Jvm.Cond.instanceMethod ({ cls := "HoopCabinet$Floor", name := "stepsFrom", desc := "(II)I" } : Jvm.MethodName)) ∈ lw_tbl := List.mem_append_right _ (List.mem_of_getElem? (i := 591) (by decide +kernel))
theorem k_592 : (Jvm.Cond.selects "HoopCabinet$Floor" ({ cls := "HoopCabinet$Floor", name := "stepsFrom", desc := "(II)I" } : Jvm.MethodName) ({ cls := "HoopCabinet$Floor", name := "stepsFrom", desc := "(II)I" } : Jvm.MethodName)) ∈ lw_tbl := List.mem_append_right _ (List.mem_of_getElem? (i := 592) (by decide +kernel))
theorem k_596 : (Jvm.Cond.code ({ cls := "HoopCabinet", name := "lowest", desc := "(I)I" } : Jvm.MethodName) prog_1_method_96_code (2 : Nat) (Option.some Jvm.ClassFile.FieldType.int)) ∈ lw_tbl := List.mem_append_right _ (List.mem_of_getElem? (i := 596) (by decide +kernel))
theorem k_904 : (Jvm.Cond.methodLinkNest "HoopCabinet$Carrier" (75 : Nat) ({ cls := "HoopCabinet", name := "lowest", desc := "(I)I" } : Jvm.MethodName) "HoopCabinet") ∈ lw_tbl := List.mem_append_right _ (List.mem_of_getElem? (i := 904) (by decide +kernel))
theorem k_595 : (Jvm.Cond.static ({ cls := "HoopCabinet", name := "lowest", desc := "(I)I" } : Jvm.MethodName)) ∈ lw_tbl := List.mem_append_right _ (List.mem_of_getElem? (i := 595) (by decide +kernel))
theorem k_550 : (Jvm.Cond.code ({ cls := "HoopCabinet$Floor", name := "openDoors", desc := "(LHoopCabinet$Ball;II)V" } : Jvm.MethodName) prog_4_method_3_code (6 : Nat) (Option.none : Option Jvm.ClassFile.FieldType)) ∈ lw_tbl := List.mem_append_right _ (List.mem_of_getElem? (i := 550) (by decide +kernel))
theorem k_547 : (Jvm.Cond.methodLink "HoopCabinet$Floor" (27 : Nat) ({ cls := "HoopCabinet$Floor", name := "openDoors", desc := "(LHoopCabinet$Ball;II)V" } : Jvm.MethodName)) ∈ lw_tbl := List.mem_append_right _ (List.mem_of_getElem? (i := 547) (by decide +kernel))
theorem k_548 : (Jvm.Cond.instanceMethod ({ cls := "HoopCabinet$Floor", name := "openDoors", desc := "(LHoopCabinet$Ball;II)V" } : Jvm.MethodName)) ∈ lw_tbl := List.mem_append_right _ (List.mem_of_getElem? (i := 548) (by decide +kernel))
theorem k_549 : (Jvm.Cond.selects "HoopCabinet$Floor" ({ cls := "HoopCabinet$Floor", name := "openDoors", desc := "(LHoopCabinet$Ball;II)V" } : Jvm.MethodName) ({ cls := "HoopCabinet$Floor", name := "openDoors", desc := "(LHoopCabinet$Ball;II)V" } : Jvm.MethodName)) ∈ lw_tbl := List.mem_append_right _ (List.mem_of_getElem? (i := 549) (by decide +kernel))
theorem k_566 : (Jvm.Cond.code ({ cls := "HoopCabinet$Floor", name := "hearBids", desc := "(LHoopCabinet$Ball;)V" } : Jvm.MethodName) prog_4_method_5_code (3 : Nat) (Option.none : Option Jvm.ClassFile.FieldType)) ∈ lw_tbl := List.mem_append_right _ (List.mem_of_getElem? (i := 566) (by decide +kernel))
theorem k_563 : (Jvm.Cond.methodLink "HoopCabinet$Floor" (31 : Nat) ({ cls := "HoopCabinet$Floor", name := "hearBids", desc := "(LHoopCabinet$Ball;)V" } : Jvm.MethodName)) ∈ lw_tbl := List.mem_append_right _ (List.mem_of_getElem? (i := 563) (by decide +kernel))
theorem k_565 : (Jvm.Cond.instanceMethod ({ cls := "HoopCabinet$Floor", name := "hearBids", desc := "(LHoopCabinet$Ball;)V" } : Jvm.MethodName)) ∈ lw_tbl := List.mem_append_right _ (List.mem_of_getElem? (i := 565) (by decide +kernel))
theorem ks_18 : Cond.selects "HoopCabinet$Floor" ({ cls := "HoopCabinet$Floor", name := "hearBids", desc := "(LHoopCabinet$Ball;)V" } : Jvm.MethodName) ({ cls := "HoopCabinet$Floor", name := "hearBids", desc := "(LHoopCabinet$Ball;)V" } : Jvm.MethodName) ∈ lw_tbl := List.mem_append_left _ (List.mem_of_getElem? (i := 18) (by decide +kernel))
theorem k_190 : (Jvm.Cond.fieldLink "HoopCabinet$Floor" (35 : Nat) "HoopCabinet$Floor" "ladies" "I") ∈ lw_tbl := List.mem_append_right _ (List.mem_of_getElem? (i := 190) (by decide +kernel))
theorem k_89 : (Jvm.Cond.fieldLinkNest "HoopCabinet$Floor" (39 : Nat) "HoopCabinet$Ball" "ladies" "LHoopCabinet$Table;" "HoopCabinet") ∈ lw_tbl := List.mem_append_right _ (List.mem_of_getElem? (i := 89) (by decide +kernel))
theorem k_551 : (Jvm.Cond.methodLink "HoopCabinet$Floor" (44 : Nat) ({ cls := "HoopCabinet$Table", name := "cell", desc := "(II)I" } : Jvm.MethodName)) ∈ lw_tbl := List.mem_append_right _ (List.mem_of_getElem? (i := 551) (by decide +kernel))
theorem k_577 : (Jvm.Cond.code ({ cls := "HoopCabinet$Floor", name := "goAsBidden", desc := "(II)V" } : Jvm.MethodName) prog_4_method_7_code (5 : Nat) (Option.none : Option Jvm.ClassFile.FieldType)) ∈ lw_tbl := List.mem_append_right _ (List.mem_of_getElem? (i := 577) (by decide +kernel))
theorem k_574 : (Jvm.Cond.methodLink "HoopCabinet$Floor" (50 : Nat) ({ cls := "HoopCabinet$Floor", name := "goAsBidden", desc := "(II)V" } : Jvm.MethodName)) ∈ lw_tbl := List.mem_append_right _ (List.mem_of_getElem? (i := 574) (by decide +kernel))
theorem k_576 : (Jvm.Cond.instanceMethod ({ cls := "HoopCabinet$Floor", name := "goAsBidden", desc := "(II)V" } : Jvm.MethodName)) ∈ lw_tbl := List.mem_append_right _ (List.mem_of_getElem? (i := 576) (by decide +kernel))
theorem ks_20 : Cond.selects "HoopCabinet$Floor" ({ cls := "HoopCabinet$Floor", name := "goAsBidden", desc := "(II)V" } : Jvm.MethodName) ({ cls := "HoopCabinet$Floor", name := "goAsBidden", desc := "(II)V" } : Jvm.MethodName) ∈ lw_tbl := List.mem_append_left _ (List.mem_of_getElem? (i := 20) (by decide +kernel))
theorem k_608 : (Jvm.Cond.code ({ cls := "HoopCabinet$Floor", name := "gather", desc := "()V" } : Jvm.MethodName) prog_4_method_9_code (3 : Nat) (Option.none : Option Jvm.ClassFile.FieldType)) ∈ lw_tbl := List.mem_append_right _ (List.mem_of_getElem? (i := 608) (by decide +kernel))
theorem k_605 : (Jvm.Cond.methodLink "HoopCabinet$Floor" (54 : Nat) ({ cls := "HoopCabinet$Floor", name := "gather", desc := "()V" } : Jvm.MethodName)) ∈ lw_tbl := List.mem_append_right _ (List.mem_of_getElem? (i := 605) (by decide +kernel))
theorem k_606 : (Jvm.Cond.instanceMethod ({ cls := "HoopCabinet$Floor", name := "gather", desc := "()V" } : Jvm.MethodName)) ∈ lw_tbl := List.mem_append_right _ (List.mem_of_getElem? (i := 606) (by decide +kernel))
theorem k_607 : (Jvm.Cond.selects "HoopCabinet$Floor" ({ cls := "HoopCabinet$Floor", name := "gather", desc := "()V" } : Jvm.MethodName) ({ cls := "HoopCabinet$Floor", name := "gather", desc := "()V" } : Jvm.MethodName)) ∈ lw_tbl := List.mem_append_right _ (List.mem_of_getElem? (i := 607) (by decide +kernel))
theorem k_49 : (Jvm.Cond.fieldLinkNest "HoopCabinet$Floor" (57 : Nat) "HoopCabinet$Table" "rows" "I" "HoopCabinet") ∈ lw_tbl := List.mem_append_right _ (List.mem_of_getElem? (i := 49) (by decide +kernel))
theorem k_68 : (Jvm.Cond.fieldLinkNest "HoopCabinet$Floor" (60 : Nat) "HoopCabinet$Ball" "rooms" "I" "HoopCabinet") ∈ lw_tbl := List.mem_append_right _ (List.mem_of_getElem? (i := 68) (by decide +kernel))
theorem k_191 : (Jvm.Cond.fieldLink "HoopCabinet$Floor" (63 : Nat) "HoopCabinet$Floor" "rooms" "I") ∈ lw_tbl := List.mem_append_right _ (List.mem_of_getElem? (i := 191) (by decide +kernel))
theorem k_73 : (Jvm.Cond.fieldLinkNest "HoopCabinet$Floor" (64 : Nat) "HoopCabinet$Ball" "dances" "I" "HoopCabinet") ∈ lw_tbl := List.mem_append_right _ (List.mem_of_getElem? (i := 73) (by decide +kernel))
theorem k_192 : (Jvm.Cond.fieldLink "HoopCabinet$Floor" (67 : Nat) "HoopCabinet$Floor" "dances" "I") ∈ lw_tbl := List.mem_append_right _ (List.mem_of_getElem? (i := 192) (by decide +kernel))
theorem k_83 : (Jvm.Cond.fieldLinkNest "HoopCabinet$Floor" (68 : Nat) "HoopCabinet$Ball" "doors" "LHoopCabinet$Table;" "HoopCabinet") ∈ lw_tbl := List.mem_append_right _ (List.mem_of_getElem? (i := 83) (by decide +kernel))
theorem k_558 : (Jvm.Cond.code ({ cls := "HoopCabinet$Floor", name := "openDoor", desc := "(LHoopCabinet$Ball;II)V" } : Jvm.MethodName) prog_4_method_4_code (7 : Nat) (Option.none : Option Jvm.ClassFile.FieldType)) ∈ lw_tbl := List.mem_append_right _ (List.mem_of_getElem? (i := 558) (by decide +kernel))
theorem k_555 : (Jvm.Cond.methodLink "HoopCabinet$Floor" (71 : Nat) ({ cls := "HoopCabinet$Floor", name := "openDoor", desc := "(LHoopCabinet$Ball;II)V" } : Jvm.MethodName)) ∈ lw_tbl := List.mem_append_right _ (List.mem_of_getElem? (i := 555) (by decide +kernel))
theorem k_557 : (Jvm.Cond.instanceMethod ({ cls := "HoopCabinet$Floor", name := "openDoor", desc := "(LHoopCabinet$Ball;II)V" } : Jvm.MethodName)) ∈ lw_tbl := List.mem_append_right _ (List.mem_of_getElem? (i := 557) (by decide +kernel))
theorem ks_17 : Cond.selects "HoopCabinet$Floor" ({ cls := "HoopCabinet$Floor", name := "openDoor", desc := "(LHoopCabinet$Ball;II)V" } : Jvm.MethodName) ({ cls := "HoopCabinet$Floor", name := "openDoor", desc := "(LHoopCabinet$Ball;II)V" } : Jvm.MethodName) ∈ lw_tbl := List.mem_append_left _ (List.mem_of_getElem? (i := 17) (by decide +kernel))
theorem k_562 : (Jvm.Cond.code ({ cls := "HoopCabinet$Ball", name := "hasRoom", desc := "(I)Z" } : Jvm.MethodName) prog_2_method_6_code (2 : Nat) (Option.some Jvm.ClassFile.FieldType.boolean)) ∈ lw_tbl := List.mem_append_right _ (List.mem_of_getElem? (i := 562) (by decide +kernel))
theorem k_559 : (Jvm.Cond.methodLink "HoopCabinet$Floor" (74 : Nat) ({ cls := "HoopCabinet$Ball", name := "hasRoom", desc := "(I)Z" } : Jvm.MethodName)) ∈ lw_tbl := List.mem_append_right _ (List.mem_of_getElem? (i := 559) (by decide +kernel))
theorem k_560 : (Jvm.Cond.instanceMethod ({ cls := "HoopCabinet$Ball", name := "hasRoom", desc := "(I)Z" } : Jvm.MethodName)) ∈ lw_tbl := List.mem_append_right _ (List.mem_of_getElem? (i := 560) (by decide +kernel))
theorem k_561 : (Jvm.Cond.selects "HoopCabinet$Ball" ({ cls := "HoopCabinet$Ball", name := "hasRoom", desc := "(I)Z" } : Jvm.MethodName) ({ cls := "HoopCabinet$Ball", name := "hasRoom", desc := "(I)Z" } : Jvm.MethodName)) ∈ lw_tbl := List.mem_append_right _ (List.mem_of_getElem? (i := 561) (by decide +kernel))
theorem k_569 : (Jvm.Cond.code ({ cls := "java/util/Arrays", name := "fill", desc := "([II)V" } : Jvm.MethodName) prog_19_method_103_code (4 : Nat) (Option.none : Option Jvm.ClassFile.FieldType)) ∈ lw_tbl := List.mem_append_right _ (List.mem_of_getElem? (i := 569) (by decide +kernel))
theorem k_18 : (Jvm.Cond.initialized "java/util/Arrays") ∈ lw_tbl := List.mem_append_right _ (List.mem_of_getElem? (i := 18) (by decide +kernel))
theorem k_567 : (Jvm.Cond.methodLink "HoopCabinet$Floor" (78 : Nat) ({ cls := "java/util/Arrays", name := "fill", desc := "([II)V" } : Jvm.MethodName)) ∈ lw_tbl := List.mem_append_right _ (List.mem_of_getElem? (i := 567) (by decide +kernel))
theorem k_568 : (Jvm.Cond.static ({ cls := "java/util/Arrays", name := "fill", desc := "([II)V" } : Jvm.MethodName)) ∈ lw_tbl := List.mem_append_right _ (List.mem_of_getElem? (i := 568) (by decide +kernel))
theorem k_96 : (Jvm.Cond.fieldLinkNest "HoopCabinet$Floor" (84 : Nat) "HoopCabinet$Ball" "bids" "LHoopCabinet$Table;" "HoopCabinet") ∈ lw_tbl := List.mem_append_right _ (List.mem_of_getElem? (i := 96) (by decide +kernel))
theorem k_573 : (Jvm.Cond.code ({ cls := "HoopCabinet$Floor", name := "hearBid", desc := "(III)V" } : Jvm.MethodName) prog_4_method_6_code (5 : Nat) (Option.none : Option Jvm.ClassFile.FieldType)) ∈ lw_tbl := List.mem_append_right _ (List.mem_of_getElem? (i := 573) (by decide +kernel))
theorem k_570 : (Jvm.Cond.methodLink "HoopCabinet$Floor" (87 : Nat) ({ cls := "HoopCabinet$Floor", name := "hearBid", desc := "(III)V" } : Jvm.MethodName)) ∈ lw_tbl := List.mem_append_right _ (List.mem_of_getElem? (i := 570) (by decide +kernel))
theorem k_572 : (Jvm.Cond.instanceMethod ({ cls := "HoopCabinet$Floor", name := "hearBid", desc := "(III)V" } : Jvm.MethodName)) ∈ lw_tbl := List.mem_append_right _ (List.mem_of_getElem? (i := 572) (by decide +kernel))
theorem ks_19 : Cond.selects "HoopCabinet$Floor" ({ cls := "HoopCabinet$Floor", name := "hearBid", desc := "(III)V" } : Jvm.MethodName) ({ cls := "HoopCabinet$Floor", name := "hearBid", desc := "(III)V" } : Jvm.MethodName) ∈ lw_tbl := List.mem_append_left _ (List.mem_of_getElem? (i := 19) (by decide +kernel))
theorem k_100 : (Jvm.Cond.fieldLinkNest "HoopCabinet$Floor" (91 : Nat) "HoopCabinet$Ball" "acts" "LHoopCabinet$Table;" "HoopCabinet") ∈ lw_tbl := List.mem_append_right _ (List.mem_of_getElem? (i := 100) (by decide +kernel))
theorem k_581 : (Jvm.Cond.code ({ cls := "HoopCabinet$Floor", name := "goalOf", desc := "(II)I" } : Jvm.MethodName) prog_4_method_17_code (3 : Nat) (Option.some Jvm.ClassFile.FieldType.int)) ∈ lw_tbl := List.mem_append_right _ (List.mem_of_getElem? (i := 581) (by decide +kernel))
theorem k_578 : (Jvm.Cond.methodLink "HoopCabinet$Floor" (94 : Nat) ({ cls := "HoopCabinet$Floor", name := "goalOf", desc := "(II)I" } : Jvm.MethodName)) ∈ lw_tbl := List.mem_append_right _ (List.mem_of_getElem? (i := 578) (by decide +kernel))
theorem k_579 : (Jvm.Cond.instanceMethod ({ cls := "HoopCabinet$Floor", name := "goalOf", desc := "(II)I" } : Jvm.MethodName)) ∈ lw_tbl := List.mem_append_right _ (List.mem_of_getElem? (i := 579) (by decide +kernel))
theorem k_580 : (Jvm.Cond.selects "HoopCabinet$Floor" ({ cls := "HoopCabinet$Floor", name := "goalOf", desc := "(II)I" } : Jvm.MethodName) ({ cls := "HoopCabinet$Floor", name := "goalOf", desc := "(II)I" } : Jvm.MethodName)) ∈ lw_tbl := List.mem_append_right _ (List.mem_of_getElem? (i := 580) (by decide +kernel))
theorem k_589 : (Jvm.Cond.code ({ cls := "HoopCabinet$Floor", name := "nextRoom", desc := "(III)I" } : Jvm.MethodName) prog_4_method_8_code (7 : Nat) (Option.some Jvm.ClassFile.FieldType.int)) ∈ lw_tbl := List.mem_append_right _ (List.mem_of_getElem? (i := 589) (by decide +kernel))
theorem k_586 : (Jvm.Cond.methodLink "HoopCabinet$Floor" (97 : Nat) ({ cls := "HoopCabinet$Floor", name := "nextRoom", desc := "(III)I" } : Jvm.MethodName)) ∈ lw_tbl := List.mem_append_right _ (List.mem_of_getElem? (i := 586) (by decide +kernel))
theorem k_588 : (Jvm.Cond.instanceMethod ({ cls := "HoopCabinet$Floor", name := "nextRoom", desc := "(III)I" } : Jvm.MethodName)) ∈ lw_tbl := List.mem_append_right _ (List.mem_of_getElem? (i := 588) (by decide +kernel))
theorem ks_22 : Cond.selects "HoopCabinet$Floor" ({ cls := "HoopCabinet$Floor", name := "nextRoom", desc := "(III)I" } : Jvm.MethodName) ({ cls := "HoopCabinet$Floor", name := "nextRoom", desc := "(III)I" } : Jvm.MethodName) ∈ lw_tbl := List.mem_append_left _ (List.mem_of_getElem? (i := 22) (by decide +kernel))
theorem k_590 : (Jvm.Cond.methodLink "HoopCabinet$Floor" (101 : Nat) ({ cls := "HoopCabinet$Floor", name := "stepsFrom", desc := "(II)I" } : Jvm.MethodName)) ∈ lw_tbl := List.mem_append_right _ (List.mem_of_getElem? (i := 590) (by decide +kernel))
theorem k_594 : (Jvm.Cond.methodLinkNest "HoopCabinet$Floor" (104 : Nat) ({ cls := "HoopCabinet", name := "lowest", desc := "(I)I" } : Jvm.MethodName) "HoopCabinet") ∈ lw_tbl := List.mem_append_right _ (List.mem_of_getElem? (i := 594) (by decide +kernel))
theorem k_600 : (Jvm.Cond.methodLink "HoopCabinet$Floor" (108 : Nat) ({ cls := "HoopCabinet$Floor", name := "spread", desc := "(II)I" } : Jvm.MethodName)) ∈ lw_tbl := List.mem_append_right _ (List.mem_of_getElem? (i := 600) (by decide +kernel))
theorem k_609 : (Jvm.Cond.methodLink "HoopCabinet$Floor" (111 : Nat) ({ cls := "HoopCabinet$Floor", name := "placeOf", desc := "(II)I" } : Jvm.MethodName)) ∈ lw_tbl := List.mem_append_right _ (List.mem_of_getElem? (i := 609) (by decide +kernel))
theorem k_616 : (Jvm.Cond.code ({ cls := "HoopCabinet$Floor", name := "ladiesIn", desc := "(II)I" } : Jvm.MethodName) prog_4_method_20_code (5 : Nat) (Option.some Jvm.ClassFile.FieldType.int)) ∈ lw_tbl := List.mem_append_right _ (List.mem_of_getElem? (i := 616) (by decide +kernel))
theorem k_613 : (Jvm.Cond.methodLink "HoopCabinet$Floor" (114 : Nat) ({ cls := "HoopCabinet$Floor", name := "ladiesIn", desc := "(II)I" } : Jvm.MethodName)) ∈ lw_tbl := List.mem_append_right _ (List.mem_of_getElem? (i := 613) (by decide +kernel))
theorem k_614 : (Jvm.Cond.instanceMethod ({ cls := "HoopCabinet$Floor", name := "ladiesIn", desc := "(II)I" } : Jvm.MethodName)) ∈ lw_tbl := List.mem_append_right _ (List.mem_of_getElem? (i := 614) (by decide +kernel))
theorem k_615 : (Jvm.Cond.selects "HoopCabinet$Floor" ({ cls := "HoopCabinet$Floor", name := "ladiesIn", desc := "(II)I" } : Jvm.MethodName) ({ cls := "HoopCabinet$Floor", name := "ladiesIn", desc := "(II)I" } : Jvm.MethodName)) ∈ lw_tbl := List.mem_append_right _ (List.mem_of_getElem? (i := 615) (by decide +kernel))
theorem k_1077 : (Jvm.Cond.methodLink "HoopCabinet$Floor" (117 : Nat) ({ cls := "java/lang/System", name := "arraycopy", desc := "(Ljava/lang/Object;ILjava/lang/Object;II)V" } : Jvm.MethodName)) ∈ lw_tbl := List.mem_append_right _ (List.mem_of_getElem? (i := 1077) (by decide +kernel))
theorem k_538 : (Jvm.Cond.native ({ cls := "java/lang/System", name := "arraycopy", desc := "(Ljava/lang/Object;ILjava/lang/Object;II)V" } : Jvm.MethodName)) ∈ lw_tbl := List.mem_append_right _ (List.mem_of_getElem? (i := 538) (by decide +kernel))
theorem k_537 : (Jvm.Cond.static ({ cls := "java/lang/System", name := "arraycopy", desc := "(Ljava/lang/Object;ILjava/lang/Object;II)V" } : Jvm.MethodName)) ∈ lw_tbl := List.mem_append_right _ (List.mem_of_getElem? (i := 537) (by decide +kernel))
theorem k_17 : (Jvm.Cond.initialized "java/lang/System") ∈ lw_tbl := List.mem_append_right _ (List.mem_of_getElem? (i := 17) (by decide +kernel))
theorem k_604 : (Jvm.Cond.methodLinkNest "HoopCabinet$Floor" (123 : Nat) ({ cls := "HoopCabinet", name := "hasBit", desc := "(II)Z" } : Jvm.MethodName) "HoopCabinet") ∈ lw_tbl := List.mem_append_right _ (List.mem_of_getElem? (i := 604) (by decide +kernel))
theorem k_585 : (Jvm.Cond.code ({ cls := "HoopCabinet$Floor", name := "isHere", desc := "(II)Z" } : Jvm.MethodName) prog_4_method_16_code (3 : Nat) (Option.some Jvm.ClassFile.FieldType.boolean)) ∈ lw_tbl := List.mem_append_right _ (List.mem_of_getElem? (i := 585) (by decide +kernel))
theorem k_582 : (Jvm.Cond.methodLink "HoopCabinet$Floor" (127 : Nat) ({ cls := "HoopCabinet$Floor", name := "isHere", desc := "(II)Z" } : Jvm.MethodName)) ∈ lw_tbl := List.mem_append_right _ (List.mem_of_getElem? (i := 582) (by decide +kernel))
theorem k_584 : (Jvm.Cond.instanceMethod ({ cls := "HoopCabinet$Floor", name := "isHere", desc := "(II)Z" } : Jvm.MethodName)) ∈ lw_tbl := List.mem_append_right _ (List.mem_of_getElem? (i := 584) (by decide +kernel))
theorem ks_21 : Cond.selects "HoopCabinet$Floor" ({ cls := "HoopCabinet$Floor", name := "isHere", desc := "(II)Z" } : Jvm.MethodName) ({ cls := "HoopCabinet$Floor", name := "isHere", desc := "(II)Z" } : Jvm.MethodName) ∈ lw_tbl := List.mem_append_left _ (List.mem_of_getElem? (i := 21) (by decide +kernel))
theorem k_702 : (Jvm.Cond.code ({ cls := "HoopCabinet$Floor", name := "companyOf", desc := "(II)I" } : Jvm.MethodName) prog_4_method_19_code (3 : Nat) (Option.some Jvm.ClassFile.FieldType.int)) ∈ lw_tbl := List.mem_append_right _ (List.mem_of_getElem? (i := 702) (by decide +kernel))
theorem k_711 : (Jvm.Cond.methodLink "HoopCabinet$Floor" (130 : Nat) ({ cls := "HoopCabinet$Floor", name := "companyOf", desc := "(II)I" } : Jvm.MethodName)) ∈ lw_tbl := List.mem_append_right _ (List.mem_of_getElem? (i := 711) (by decide +kernel))
theorem k_700 : (Jvm.Cond.instanceMethod ({ cls := "HoopCabinet$Floor", name := "companyOf", desc := "(II)I" } : Jvm.MethodName)) ∈ lw_tbl := List.mem_append_right _ (List.mem_of_getElem? (i := 700) (by decide +kernel))
theorem k_701 : (Jvm.Cond.selects "HoopCabinet$Floor" ({ cls := "HoopCabinet$Floor", name := "companyOf", desc := "(II)I" } : Jvm.MethodName) ({ cls := "HoopCabinet$Floor", name := "companyOf", desc := "(II)I" } : Jvm.MethodName)) ∈ lw_tbl := List.mem_append_right _ (List.mem_of_getElem? (i := 701) (by decide +kernel))
theorem k_88 : (Jvm.Cond.fieldLinkNest "HoopCabinet$House" (15 : Nat) "HoopCabinet$Ball" "ladies" "LHoopCabinet$Table;" "HoopCabinet") ∈ lw_tbl := List.mem_append_right _ (List.mem_of_getElem? (i := 88) (by decide +kernel))
theorem k_48 : (Jvm.Cond.fieldLinkNest "HoopCabinet$House" (21 : Nat) "HoopCabinet$Table" "rows" "I" "HoopCabinet") ∈ lw_tbl := List.mem_append_right _ (List.mem_of_getElem? (i := 48) (by decide +kernel))
theorem k_275 : (Jvm.Cond.fieldLink "HoopCabinet$House" (27 : Nat) "HoopCabinet$House" "ladies" "I") ∈ lw_tbl := List.mem_append_right _ (List.mem_of_getElem? (i := 275) (by decide +kernel))
theorem k_276 : (Jvm.Cond.fieldLink "HoopCabinet$House" (29 : Nat) "HoopCabinet$House" "total" "I") ∈ lw_tbl := List.mem_append_right _ (List.mem_of_getElem? (i := 276) (by decide +kernel))
theorem k_788 : (Jvm.Cond.code ({ cls := "HoopCabinet$Ball", name := "seatsUnder", desc := "(I)I" } : Jvm.MethodName) prog_2_method_11_code (4 : Nat) (Option.some Jvm.ClassFile.FieldType.int)) ∈ lw_tbl := List.mem_append_right _ (List.mem_of_getElem? (i := 788) (by decide +kernel))
theorem k_994 : (Jvm.Cond.methodLink "HoopCabinet$House" (32 : Nat) ({ cls := "HoopCabinet$Ball", name := "seatsUnder", desc := "(I)I" } : Jvm.MethodName)) ∈ lw_tbl := List.mem_append_right _ (List.mem_of_getElem? (i := 994) (by decide +kernel))
theorem k_786 : (Jvm.Cond.instanceMethod ({ cls := "HoopCabinet$Ball", name := "seatsUnder", desc := "(I)I" } : Jvm.MethodName)) ∈ lw_tbl := List.mem_append_right _ (List.mem_of_getElem? (i := 786) (by decide +kernel))
theorem k_787 : (Jvm.Cond.selects "HoopCabinet$Ball" ({ cls := "HoopCabinet$Ball", name := "seatsUnder", desc := "(I)I" } : Jvm.MethodName) ({ cls := "HoopCabinet$Ball", name := "seatsUnder", desc := "(I)I" } : Jvm.MethodName)) ∈ lw_tbl := List.mem_append_right _ (List.mem_of_getElem? (i := 787) (by decide +kernel))
theorem k_1003 : (Jvm.Cond.methodLinkNest "HoopCabinet$House" (35 : Nat) ({ cls := "HoopCabinet", name := "hasBit", desc := "(II)Z" } : Jvm.MethodName) "HoopCabinet") ∈ lw_tbl := List.mem_append_right _ (List.mem_of_getElem? (i := 1003) (by decide +kernel))
theorem k_1002 : (Jvm.Cond.code ({ cls := "HoopCabinet$House", name := "seatsOf", desc := "(I)I" } : Jvm.MethodName) prog_5_method_3_code (4 : Nat) (Option.some Jvm.ClassFile.FieldType.int)) ∈ lw_tbl := List.mem_append_right _ (List.mem_of_getElem? (i := 1002) (by decide +kernel))
theorem k_999 : (Jvm.Cond.methodLink "HoopCabinet$House" (39 : Nat) ({ cls := "HoopCabinet$House", name := "seatsOf", desc := "(I)I" } : Jvm.MethodName)) ∈ lw_tbl := List.mem_append_right _ (List.mem_of_getElem? (i := 999) (by decide +kernel))
theorem k_1000 : (Jvm.Cond.instanceMethod ({ cls := "HoopCabinet$House", name := "seatsOf", desc := "(I)I" } : Jvm.MethodName)) ∈ lw_tbl := List.mem_append_right _ (List.mem_of_getElem? (i := 1000) (by decide +kernel))
theorem k_1001 : (Jvm.Cond.selects "HoopCabinet$House" ({ cls := "HoopCabinet$House", name := "seatsOf", desc := "(I)I" } : Jvm.MethodName) ({ cls := "HoopCabinet$House", name := "seatsOf", desc := "(I)I" } : Jvm.MethodName)) ∈ lw_tbl := List.mem_append_right _ (List.mem_of_getElem? (i := 1001) (by decide +kernel))
theorem k_1007 : (Jvm.Cond.code ({ cls := "HoopCabinet$House", name := "isMoreThanHalf", desc := "(I)Z" } : Jvm.MethodName) prog_5_method_4_code (2 : Nat) (Option.some Jvm.ClassFile.FieldType.boolean)) ∈ lw_tbl := List.mem_append_right _ (List.mem_of_getElem? (i := 1007) (by decide +kernel))
theorem k_1004 : (Jvm.Cond.methodLink "HoopCabinet$House" (42 : Nat) ({ cls := "HoopCabinet$House", name := "isMoreThanHalf", desc := "(I)Z" } : Jvm.MethodName)) ∈ lw_tbl := List.mem_append_right _ (List.mem_of_getElem? (i := 1004) (by decide +kernel))
theorem k_1005 : (Jvm.Cond.instanceMethod ({ cls := "HoopCabinet$House", name := "isMoreThanHalf", desc := "(I)Z" } : Jvm.MethodName)) ∈ lw_tbl := List.mem_append_right _ (List.mem_of_getElem? (i := 1005) (by decide +kernel))
theorem k_1006 : (Jvm.Cond.selects "HoopCabinet$House" ({ cls := "HoopCabinet$House", name := "isMoreThanHalf", desc := "(I)Z" } : Jvm.MethodName) ({ cls := "HoopCabinet$House", name := "isMoreThanHalf", desc := "(I)Z" } : Jvm.MethodName)) ∈ lw_tbl := List.mem_append_right _ (List.mem_of_getElem? (i := 1006) (by decide +kernel))
theorem k_998 : (Jvm.Cond.code ({ cls := "HoopCabinet$House", name := "isMajority", desc := "(I)Z" } : Jvm.MethodName) prog_5_method_5_code (2 : Nat) (Option.some Jvm.ClassFile.FieldType.boolean)) ∈ lw_tbl := List.mem_append_right _ (List.mem_of_getElem? (i := 998) (by decide +kernel))
theorem k_1020 : (Jvm.Cond.methodLink "HoopCabinet$House" (46 : Nat) ({ cls := "HoopCabinet$House", name := "isMajority", desc := "(I)Z" } : Jvm.MethodName)) ∈ lw_tbl := List.mem_append_right _ (List.mem_of_getElem? (i := 1020) (by decide +kernel))
theorem k_996 : (Jvm.Cond.instanceMethod ({ cls := "HoopCabinet$House", name := "isMajority", desc := "(I)Z" } : Jvm.MethodName)) ∈ lw_tbl := List.mem_append_right _ (List.mem_of_getElem? (i := 996) (by decide +kernel))
theorem k_997 : (Jvm.Cond.selects "HoopCabinet$House" ({ cls := "HoopCabinet$House", name := "isMajority", desc := "(I)Z" } : Jvm.MethodName) ({ cls := "HoopCabinet$House", name := "isMajority", desc := "(I)Z" } : Jvm.MethodName)) ∈ lw_tbl := List.mem_append_right _ (List.mem_of_getElem? (i := 997) (by decide +kernel))
theorem k_1102 : (Jvm.Cond.code ({ cls := "java/util/Arrays", name := "fill", desc := "([JJ)V" } : Jvm.MethodName) prog_19_method_101_code (5 : Nat) (Option.none : Option Jvm.ClassFile.FieldType)) ∈ lw_tbl := List.mem_append_right _ (List.mem_of_getElem? (i := 1102) (by decide +kernel))
theorem k_1100 : (Jvm.Cond.methodLink "HoopCabinet$Music" (18 : Nat) ({ cls := "java/util/Arrays", name := "fill", desc := "([JJ)V" } : Jvm.MethodName)) ∈ lw_tbl := List.mem_append_right _ (List.mem_of_getElem? (i := 1100) (by decide +kernel))
theorem k_1101 : (Jvm.Cond.static ({ cls := "java/util/Arrays", name := "fill", desc := "([JJ)V" } : Jvm.MethodName)) ∈ lw_tbl := List.mem_append_right _ (List.mem_of_getElem? (i := 1101) (by decide +kernel))
theorem k_293 : (Jvm.Cond.fieldLink "HoopCabinet$Music" (24 : Nat) "HoopCabinet$Music" "total" "J") ∈ lw_tbl := List.mem_append_right _ (List.mem_of_getElem? (i := 293) (by decide +kernel))
theorem k_1106 : (Jvm.Cond.code ({ cls := "HoopCabinet$Music", name := "playOne", desc := "(LHoopCabinet$Floor;LHoopCabinet$Notes;II)V" } : Jvm.MethodName) prog_6_method_3_code (6 : Nat) (Option.none : Option Jvm.ClassFile.FieldType)) ∈ lw_tbl := List.mem_append_right _ (List.mem_of_getElem? (i := 1106) (by decide +kernel))
theorem k_1103 : (Jvm.Cond.methodLink "HoopCabinet$Music" (28 : Nat) ({ cls := "HoopCabinet$Music", name := "playOne", desc := "(LHoopCabinet$Floor;LHoopCabinet$Notes;II)V" } : Jvm.MethodName)) ∈ lw_tbl := List.mem_append_right _ (List.mem_of_getElem? (i := 1103) (by decide +kernel))
theorem k_1105 : (Jvm.Cond.instanceMethod ({ cls := "HoopCabinet$Music", name := "playOne", desc := "(LHoopCabinet$Floor;LHoopCabinet$Notes;II)V" } : Jvm.MethodName)) ∈ lw_tbl := List.mem_append_right _ (List.mem_of_getElem? (i := 1105) (by decide +kernel))
theorem ks_39 : Cond.selects "HoopCabinet$Music" ({ cls := "HoopCabinet$Music", name := "playOne", desc := "(LHoopCabinet$Floor;LHoopCabinet$Notes;II)V" } : Jvm.MethodName) ({ cls := "HoopCabinet$Music", name := "playOne", desc := "(LHoopCabinet$Floor;LHoopCabinet$Notes;II)V" } : Jvm.MethodName) ∈ lw_tbl := List.mem_append_left _ (List.mem_of_getElem? (i := 39) (by decide +kernel))
theorem k_1108 : (Jvm.Cond.constantLong "HoopCabinet$Music" (32 : Nat) (10 : Int64)) ∈ lw_tbl := List.mem_append_right _ (List.mem_of_getElem? (i := 1108) (by decide +kernel))
theorem k_807 : (Jvm.Cond.code ({ cls := "HoopCabinet$Notes", name := "passed", desc := "(LHoopCabinet$Floor;II)I" } : Jvm.MethodName) prog_7_method_4_code (6 : Nat) (Option.some Jvm.ClassFile.FieldType.int)) ∈ lw_tbl := List.mem_append_right _ (List.mem_of_getElem? (i := 807) (by decide +kernel))
theorem k_1107 : (Jvm.Cond.methodLink "HoopCabinet$Music" (34 : Nat) ({ cls := "HoopCabinet$Notes", name := "passed", desc := "(LHoopCabinet$Floor;II)I" } : Jvm.MethodName)) ∈ lw_tbl := List.mem_append_right _ (List.mem_of_getElem? (i := 1107) (by decide +kernel))
theorem k_805 : (Jvm.Cond.instanceMethod ({ cls := "HoopCabinet$Notes", name := "passed", desc := "(LHoopCabinet$Floor;II)I" } : Jvm.MethodName)) ∈ lw_tbl := List.mem_append_right _ (List.mem_of_getElem? (i := 805) (by decide +kernel))
theorem k_806 : (Jvm.Cond.selects "HoopCabinet$Notes" ({ cls := "HoopCabinet$Notes", name := "passed", desc := "(LHoopCabinet$Floor;II)I" } : Jvm.MethodName) ({ cls := "HoopCabinet$Notes", name := "passed", desc := "(LHoopCabinet$Floor;II)I" } : Jvm.MethodName)) ∈ lw_tbl := List.mem_append_right _ (List.mem_of_getElem? (i := 806) (by decide +kernel))
theorem k_1113 : (Jvm.Cond.methodLinkNest "HoopCabinet$Music" (40 : Nat) ({ cls := "HoopCabinet", name := "hasBit", desc := "(II)Z" } : Jvm.MethodName) "HoopCabinet") ∈ lw_tbl := List.mem_append_right _ (List.mem_of_getElem? (i := 1113) (by decide +kernel))
theorem k_731 : (Jvm.Cond.code ({ cls := "java/lang/Integer", name := "bitCount", desc := "(I)I" } : Jvm.MethodName) prog_13_method_49_code (1 : Nat) (Option.some Jvm.ClassFile.FieldType.int)) ∈ lw_tbl := List.mem_append_right _ (List.mem_of_getElem? (i := 731) (by decide +kernel))
theorem k_19 : (Jvm.Cond.initialized "java/lang/Integer") ∈ lw_tbl := List.mem_append_right _ (List.mem_of_getElem? (i := 19) (by decide +kernel))
theorem k_1122 : (Jvm.Cond.methodLink "HoopCabinet$Music" (44 : Nat) ({ cls := "java/lang/Integer", name := "bitCount", desc := "(I)I" } : Jvm.MethodName)) ∈ lw_tbl := List.mem_append_right _ (List.mem_of_getElem? (i := 1122) (by decide +kernel))
theorem k_730 : (Jvm.Cond.static ({ cls := "java/lang/Integer", name := "bitCount", desc := "(I)I" } : Jvm.MethodName)) ∈ lw_tbl := List.mem_append_right _ (List.mem_of_getElem? (i := 730) (by decide +kernel))
theorem k_87 : (Jvm.Cond.fieldLinkNest "HoopCabinet$Notes" (21 : Nat) "HoopCabinet$Ball" "ladies" "LHoopCabinet$Table;" "HoopCabinet") ∈ lw_tbl := List.mem_append_right _ (List.mem_of_getElem? (i := 87) (by decide +kernel))
theorem k_47 : (Jvm.Cond.fieldLinkNest "HoopCabinet$Notes" (27 : Nat) "HoopCabinet$Table" "rows" "I" "HoopCabinet") ∈ lw_tbl := List.mem_append_right _ (List.mem_of_getElem? (i := 47) (by decide +kernel))
theorem k_219 : (Jvm.Cond.fieldLink "HoopCabinet$Notes" (33 : Nat) "HoopCabinet$Notes" "ladies" "I") ∈ lw_tbl := List.mem_append_right _ (List.mem_of_getElem? (i := 219) (by decide +kernel))
theorem k_72 : (Jvm.Cond.fieldLinkNest "HoopCabinet$Notes" (35 : Nat) "HoopCabinet$Ball" "dances" "I" "HoopCabinet") ∈ lw_tbl := List.mem_append_right _ (List.mem_of_getElem? (i := 72) (by decide +kernel))
theorem k_221 : (Jvm.Cond.fieldLink "HoopCabinet$Notes" (38 : Nat) "HoopCabinet$Notes" "dances" "I") ∈ lw_tbl := List.mem_append_right _ (List.mem_of_getElem? (i := 221) (by decide +kernel))
theorem k_785 : (Jvm.Cond.methodLink "HoopCabinet$Notes" (39 : Nat) ({ cls := "HoopCabinet$Ball", name := "seatsUnder", desc := "(I)I" } : Jvm.MethodName)) ∈ lw_tbl := List.mem_append_right _ (List.mem_of_getElem? (i := 785) (by decide +kernel))
theorem k_793 : (Jvm.Cond.code ({ cls := "HoopCabinet$Notes", name := "mayGive", desc := "(LHoopCabinet$Ball;III)Z" } : Jvm.MethodName) prog_7_method_3_code (5 : Nat) (Option.some Jvm.ClassFile.FieldType.boolean)) ∈ lw_tbl := List.mem_append_right _ (List.mem_of_getElem? (i := 793) (by decide +kernel))
theorem k_790 : (Jvm.Cond.methodLink "HoopCabinet$Notes" (42 : Nat) ({ cls := "HoopCabinet$Notes", name := "mayGive", desc := "(LHoopCabinet$Ball;III)Z" } : Jvm.MethodName)) ∈ lw_tbl := List.mem_append_right _ (List.mem_of_getElem? (i := 790) (by decide +kernel))
theorem k_792 : (Jvm.Cond.instanceMethod ({ cls := "HoopCabinet$Notes", name := "mayGive", desc := "(LHoopCabinet$Ball;III)Z" } : Jvm.MethodName)) ∈ lw_tbl := List.mem_append_right _ (List.mem_of_getElem? (i := 792) (by decide +kernel))
theorem ks_25 : Cond.selects "HoopCabinet$Notes" ({ cls := "HoopCabinet$Notes", name := "mayGive", desc := "(LHoopCabinet$Ball;III)Z" } : Jvm.MethodName) ({ cls := "HoopCabinet$Notes", name := "mayGive", desc := "(LHoopCabinet$Ball;III)Z" } : Jvm.MethodName) ∈ lw_tbl := List.mem_append_left _ (List.mem_of_getElem? (i := 25) (by decide +kernel))
theorem k_794 : (Jvm.Cond.methodLink "HoopCabinet$Notes" (46 : Nat) ({ cls := "HoopCabinet$Table", name := "cell", desc := "(II)I" } : Jvm.MethodName)) ∈ lw_tbl := List.mem_append_right _ (List.mem_of_getElem? (i := 794) (by decide +kernel))
theorem k_803 : (Jvm.Cond.methodLinkNest "HoopCabinet$Notes" (50 : Nat) ({ cls := "HoopCabinet", name := "hasBit", desc := "(II)Z" } : Jvm.MethodName) "HoopCabinet") ∈ lw_tbl := List.mem_append_right _ (List.mem_of_getElem? (i := 803) (by decide +kernel))
theorem k_808 : (Jvm.Cond.methodLink "HoopCabinet$Notes" (54 : Nat) ({ cls := "HoopCabinet$Floor", name := "companyOf", desc := "(II)I" } : Jvm.MethodName)) ∈ lw_tbl := List.mem_append_right _ (List.mem_of_getElem? (i := 808) (by decide +kernel))
theorem k_223 : (Jvm.Cond.fieldLink "HoopCabinet$Notes" (59 : Nat) "HoopCabinet$Notes" "first" "I") ∈ lw_tbl := List.mem_append_right _ (List.mem_of_getElem? (i := 223) (by decide +kernel))
theorem k_804 : (Jvm.Cond.methodLink "HoopCabinet$Notes" (62 : Nat) ({ cls := "HoopCabinet$Notes", name := "passed", desc := "(LHoopCabinet$Floor;II)I" } : Jvm.MethodName)) ∈ lw_tbl := List.mem_append_right _ (List.mem_of_getElem? (i := 804) (by decide +kernel))
theorem k_812 : (Jvm.Cond.code ({ cls := "HoopCabinet$Notes", name := "behind", desc := "(I)I" } : Jvm.MethodName) prog_7_method_6_code (2 : Nat) (Option.some Jvm.ClassFile.FieldType.int)) ∈ lw_tbl := List.mem_append_right _ (List.mem_of_getElem? (i := 812) (by decide +kernel))
theorem k_829 : (Jvm.Cond.methodLink "HoopCabinet$Notes" (66 : Nat) ({ cls := "HoopCabinet$Notes", name := "behind", desc := "(I)I" } : Jvm.MethodName)) ∈ lw_tbl := List.mem_append_right _ (List.mem_of_getElem? (i := 829) (by decide +kernel))
theorem k_810 : (Jvm.Cond.instanceMethod ({ cls := "HoopCabinet$Notes", name := "behind", desc := "(I)I" } : Jvm.MethodName)) ∈ lw_tbl := List.mem_append_right _ (List.mem_of_getElem? (i := 810) (by decide +kernel))
theorem k_811 : (Jvm.Cond.selects "HoopCabinet$Notes" ({ cls := "HoopCabinet$Notes", name := "behind", desc := "(I)I" } : Jvm.MethodName) ({ cls := "HoopCabinet$Notes", name := "behind", desc := "(I)I" } : Jvm.MethodName)) ∈ lw_tbl := List.mem_append_right _ (List.mem_of_getElem? (i := 811) (by decide +kernel))
theorem k_824 : (Jvm.Cond.code ({ cls := "HoopCabinet$Notes", name := "gotAt", desc := "(I)I" } : Jvm.MethodName) prog_7_method_8_code (3 : Nat) (Option.some Jvm.ClassFile.FieldType.int)) ∈ lw_tbl := List.mem_append_right _ (List.mem_of_getElem? (i := 824) (by decide +kernel))
theorem k_821 : (Jvm.Cond.methodLink "HoopCabinet$Notes" (69 : Nat) ({ cls := "HoopCabinet$Notes", name := "gotAt", desc := "(I)I" } : Jvm.MethodName)) ∈ lw_tbl := List.mem_append_right _ (List.mem_of_getElem? (i := 821) (by decide +kernel))
theorem k_822 : (Jvm.Cond.instanceMethod ({ cls := "HoopCabinet$Notes", name := "gotAt", desc := "(I)I" } : Jvm.MethodName)) ∈ lw_tbl := List.mem_append_right _ (List.mem_of_getElem? (i := 822) (by decide +kernel))
theorem k_823 : (Jvm.Cond.selects "HoopCabinet$Notes" ({ cls := "HoopCabinet$Notes", name := "gotAt", desc := "(I)I" } : Jvm.MethodName) ({ cls := "HoopCabinet$Notes", name := "gotAt", desc := "(I)I" } : Jvm.MethodName)) ∈ lw_tbl := List.mem_append_right _ (List.mem_of_getElem? (i := 823) (by decide +kernel))
theorem k_825 : (Jvm.Cond.methodLink "HoopCabinet$Notes" (72 : Nat) ({ cls := "HoopCabinet$Notes", name := "ahead", desc := "(I)I" } : Jvm.MethodName)) ∈ lw_tbl := List.mem_append_right _ (List.mem_of_getElem? (i := 825) (by decide +kernel))
theorem k_368 : (Jvm.Cond.methodLink "HoopCabinet$Reader" (23 : Nat) ({ cls := "java/lang/Math", name := "min", desc := "(II)I" } : Jvm.MethodName)) ∈ lw_tbl := List.mem_append_right _ (List.mem_of_getElem? (i := 368) (by decide +kernel))
theorem k_369 : (Jvm.Cond.static ({ cls := "java/lang/Math", name := "min", desc := "(II)I" } : Jvm.MethodName)) ∈ lw_tbl := List.mem_append_right _ (List.mem_of_getElem? (i := 369) (by decide +kernel))
theorem k_370 : (Jvm.Cond.code ({ cls := "java/lang/Math", name := "min", desc := "(II)I" } : Jvm.MethodName) prog_14_method_69_code (2 : Nat) (Option.some Jvm.ClassFile.FieldType.int)) ∈ lw_tbl := List.mem_append_right _ (List.mem_of_getElem? (i := 370) (by decide +kernel))
theorem k_371 : (Jvm.Cond.methodLink "HoopCabinet$Reader" (29 : Nat) ({ cls := "java/lang/Math", name := "max", desc := "(II)I" } : Jvm.MethodName)) ∈ lw_tbl := List.mem_append_right _ (List.mem_of_getElem? (i := 371) (by decide +kernel))
theorem k_131 : (Jvm.Cond.fieldLink "HoopCabinet$Reader" (32 : Nat) "HoopCabinet$Reader" "length" "I") ∈ lw_tbl := List.mem_append_right _ (List.mem_of_getElem? (i := 131) (by decide +kernel))
theorem k_375 : (Jvm.Cond.code ({ cls := "HoopCabinet$Ball", name := "clear", desc := "()V" } : Jvm.MethodName) prog_2_method_2_code (1 : Nat) (Option.none : Option Jvm.ClassFile.FieldType)) ∈ lw_tbl := List.mem_append_right _ (List.mem_of_getElem? (i := 375) (by decide +kernel))
theorem k_372 : (Jvm.Cond.methodLink "HoopCabinet$Reader" (35 : Nat) ({ cls := "HoopCabinet$Ball", name := "clear", desc := "()V" } : Jvm.MethodName)) ∈ lw_tbl := List.mem_append_right _ (List.mem_of_getElem? (i := 372) (by decide +kernel))
theorem k_373 : (Jvm.Cond.instanceMethod ({ cls := "HoopCabinet$Ball", name := "clear", desc := "()V" } : Jvm.MethodName)) ∈ lw_tbl := List.mem_append_right _ (List.mem_of_getElem? (i := 373) (by decide +kernel))
theorem k_374 : (Jvm.Cond.selects "HoopCabinet$Ball" ({ cls := "HoopCabinet$Ball", name := "clear", desc := "()V" } : Jvm.MethodName) ({ cls := "HoopCabinet$Ball", name := "clear", desc := "()V" } : Jvm.MethodName)) ∈ lw_tbl := List.mem_append_right _ (List.mem_of_getElem? (i := 374) (by decide +kernel))
theorem k_135 : (Jvm.Cond.fieldLink "HoopCabinet$Reader" (40 : Nat) "HoopCabinet$Reader" "fault" "I") ∈ lw_tbl := List.mem_append_right _ (List.mem_of_getElem? (i := 135) (by decide +kernel))
theorem k_134 : (Jvm.Cond.fieldLink "HoopCabinet$Reader" (43 : Nat) "HoopCabinet$Reader" "stop" "I") ∈ lw_tbl := List.mem_append_right _ (List.mem_of_getElem? (i := 134) (by decide +kernel))
theorem k_383 : (Jvm.Cond.code ({ cls := "HoopCabinet$Reader", name := "nextToken", desc := "()V" } : Jvm.MethodName) prog_8_method_15_code (2 : Nat) (Option.none : Option Jvm.ClassFile.FieldType)) ∈ lw_tbl := List.mem_append_right _ (List.mem_of_getElem? (i := 383) (by decide +kernel))
theorem k_380 : (Jvm.Cond.methodLink "HoopCabinet$Reader" (46 : Nat) ({ cls := "HoopCabinet$Reader", name := "nextToken", desc := "()V" } : Jvm.MethodName)) ∈ lw_tbl := List.mem_append_right _ (List.mem_of_getElem? (i := 380) (by decide +kernel))
theorem k_382 : (Jvm.Cond.instanceMethod ({ cls := "HoopCabinet$Reader", name := "nextToken", desc := "()V" } : Jvm.MethodName)) ∈ lw_tbl := List.mem_append_right _ (List.mem_of_getElem? (i := 382) (by decide +kernel))
theorem ks_1 : Cond.selects "HoopCabinet$Reader" ({ cls := "HoopCabinet$Reader", name := "nextToken", desc := "()V" } : Jvm.MethodName) ({ cls := "HoopCabinet$Reader", name := "nextToken", desc := "()V" } : Jvm.MethodName) ∈ lw_tbl := List.mem_append_left _ (List.mem_of_getElem? (i := 1) (by decide +kernel))
theorem k_132 : (Jvm.Cond.fieldLink "HoopCabinet$Reader" (49 : Nat) "HoopCabinet$Reader" "kind" "I") ∈ lw_tbl := List.mem_append_right _ (List.mem_of_getElem? (i := 132) (by decide +kernel))
theorem k_397 : (Jvm.Cond.code ({ cls := "HoopCabinet$Reader", name := "readLine", desc := "()V" } : Jvm.MethodName) prog_8_method_3_code (1 : Nat) (Option.none : Option Jvm.ClassFile.FieldType)) ∈ lw_tbl := List.mem_append_right _ (List.mem_of_getElem? (i := 397) (by decide +kernel))
theorem k_394 : (Jvm.Cond.methodLink "HoopCabinet$Reader" (52 : Nat) ({ cls := "HoopCabinet$Reader", name := "readLine", desc := "()V" } : Jvm.MethodName)) ∈ lw_tbl := List.mem_append_right _ (List.mem_of_getElem? (i := 394) (by decide +kernel))
theorem k_396 : (Jvm.Cond.instanceMethod ({ cls := "HoopCabinet$Reader", name := "readLine", desc := "()V" } : Jvm.MethodName)) ∈ lw_tbl := List.mem_append_right _ (List.mem_of_getElem? (i := 396) (by decide +kernel))
theorem ks_3 : Cond.selects "HoopCabinet$Reader" ({ cls := "HoopCabinet$Reader", name := "readLine", desc := "()V" } : Jvm.MethodName) ({ cls := "HoopCabinet$Reader", name := "readLine", desc := "()V" } : Jvm.MethodName) ∈ lw_tbl := List.mem_append_left _ (List.mem_of_getElem? (i := 3) (by decide +kernel))
theorem k_65 : (Jvm.Cond.fieldLinkNest "HoopCabinet$Reader" (55 : Nat) "HoopCabinet$Ball" "lines" "I" "HoopCabinet") ∈ lw_tbl := List.mem_append_right _ (List.mem_of_getElem? (i := 65) (by decide +kernel))
theorem k_401 : (Jvm.Cond.code ({ cls := "HoopCabinet$Reader", name := "readBall", desc := "()V" } : Jvm.MethodName) prog_8_method_4_code (1 : Nat) (Option.none : Option Jvm.ClassFile.FieldType)) ∈ lw_tbl := List.mem_append_right _ (List.mem_of_getElem? (i := 401) (by decide +kernel))
theorem k_398 : (Jvm.Cond.methodLink "HoopCabinet$Reader" (58 : Nat) ({ cls := "HoopCabinet$Reader", name := "readBall", desc := "()V" } : Jvm.MethodName)) ∈ lw_tbl := List.mem_append_right _ (List.mem_of_getElem? (i := 398) (by decide +kernel))
theorem k_400 : (Jvm.Cond.instanceMethod ({ cls := "HoopCabinet$Reader", name := "readBall", desc := "()V" } : Jvm.MethodName)) ∈ lw_tbl := List.mem_append_right _ (List.mem_of_getElem? (i := 400) (by decide +kernel))
theorem ks_4 : Cond.selects "HoopCabinet$Reader" ({ cls := "HoopCabinet$Reader", name := "readBall", desc := "()V" } : Jvm.MethodName) ({ cls := "HoopCabinet$Reader", name := "readBall", desc := "()V" } : Jvm.MethodName) ∈ lw_tbl := List.mem_append_left _ (List.mem_of_getElem? (i := 4) (by decide +kernel))
theorem k_410 : (Jvm.Cond.code ({ cls := "HoopCabinet$Reader", name := "isWord", desc := "(Ljava/lang/String;)Z" } : Jvm.MethodName) prog_8_method_14_code (3 : Nat) (Option.some Jvm.ClassFile.FieldType.boolean)) ∈ lw_tbl := List.mem_append_right _ (List.mem_of_getElem? (i := 410) (by decide +kernel))
theorem k_407 : (Jvm.Cond.methodLink "HoopCabinet$Reader" (63 : Nat) ({ cls := "HoopCabinet$Reader", name := "isWord", desc := "(Ljava/lang/String;)Z" } : Jvm.MethodName)) ∈ lw_tbl := List.mem_append_right _ (List.mem_of_getElem? (i := 407) (by decide +kernel))
theorem k_409 : (Jvm.Cond.instanceMethod ({ cls := "HoopCabinet$Reader", name := "isWord", desc := "(Ljava/lang/String;)Z" } : Jvm.MethodName)) ∈ lw_tbl := List.mem_append_right _ (List.mem_of_getElem? (i := 409) (by decide +kernel))
theorem ks_6 : Cond.selects "HoopCabinet$Reader" ({ cls := "HoopCabinet$Reader", name := "isWord", desc := "(Ljava/lang/String;)Z" } : Jvm.MethodName) ({ cls := "HoopCabinet$Reader", name := "isWord", desc := "(Ljava/lang/String;)Z" } : Jvm.MethodName) ∈ lw_tbl := List.mem_append_left _ (List.mem_of_getElem? (i := 6) (by decide +kernel))
theorem k_484 : (Jvm.Cond.code ({ cls := "HoopCabinet$Reader", name := "readDoor", desc := "()V" } : Jvm.MethodName) prog_8_method_5_code (4 : Nat) (Option.none : Option Jvm.ClassFile.FieldType)) ∈ lw_tbl := List.mem_append_right _ (List.mem_of_getElem? (i := 484) (by decide +kernel))
theorem k_481 : (Jvm.Cond.methodLink "HoopCabinet$Reader" (67 : Nat) ({ cls := "HoopCabinet$Reader", name := "readDoor", desc := "()V" } : Jvm.MethodName)) ∈ lw_tbl := List.mem_append_right _ (List.mem_of_getElem? (i := 481) (by decide +kernel))
theorem k_483 : (Jvm.Cond.instanceMethod ({ cls := "HoopCabinet$Reader", name := "readDoor", desc := "()V" } : Jvm.MethodName)) ∈ lw_tbl := List.mem_append_right _ (List.mem_of_getElem? (i := 483) (by decide +kernel))
theorem ks_11 : Cond.selects "HoopCabinet$Reader" ({ cls := "HoopCabinet$Reader", name := "readDoor", desc := "()V" } : Jvm.MethodName) ({ cls := "HoopCabinet$Reader", name := "readDoor", desc := "()V" } : Jvm.MethodName) ∈ lw_tbl := List.mem_append_left _ (List.mem_of_getElem? (i := 11) (by decide +kernel))
theorem k_512 : (Jvm.Cond.code ({ cls := "HoopCabinet$Reader", name := "readLady", desc := "()V" } : Jvm.MethodName) prog_8_method_6_code (3 : Nat) (Option.none : Option Jvm.ClassFile.FieldType)) ∈ lw_tbl := List.mem_append_right _ (List.mem_of_getElem? (i := 512) (by decide +kernel))
theorem k_509 : (Jvm.Cond.methodLink "HoopCabinet$Reader" (72 : Nat) ({ cls := "HoopCabinet$Reader", name := "readLady", desc := "()V" } : Jvm.MethodName)) ∈ lw_tbl := List.mem_append_right _ (List.mem_of_getElem? (i := 509) (by decide +kernel))
theorem k_511 : (Jvm.Cond.instanceMethod ({ cls := "HoopCabinet$Reader", name := "readLady", desc := "()V" } : Jvm.MethodName)) ∈ lw_tbl := List.mem_append_right _ (List.mem_of_getElem? (i := 511) (by decide +kernel))
theorem ks_13 : Cond.selects "HoopCabinet$Reader" ({ cls := "HoopCabinet$Reader", name := "readLady", desc := "()V" } : Jvm.MethodName) ({ cls := "HoopCabinet$Reader", name := "readLady", desc := "()V" } : Jvm.MethodName) ∈ lw_tbl := List.mem_append_left _ (List.mem_of_getElem? (i := 13) (by decide +kernel))
theorem k_518 : (Jvm.Cond.code ({ cls := "HoopCabinet$Reader", name := "readMinister", desc := "()V" } : Jvm.MethodName) prog_8_method_7_code (3 : Nat) (Option.none : Option Jvm.ClassFile.FieldType)) ∈ lw_tbl := List.mem_append_right _ (List.mem_of_getElem? (i := 518) (by decide +kernel))
theorem k_515 : (Jvm.Cond.methodLink "HoopCabinet$Reader" (77 : Nat) ({ cls := "HoopCabinet$Reader", name := "readMinister", desc := "()V" } : Jvm.MethodName)) ∈ lw_tbl := List.mem_append_right _ (List.mem_of_getElem? (i := 515) (by decide +kernel))
theorem k_517 : (Jvm.Cond.instanceMethod ({ cls := "HoopCabinet$Reader", name := "readMinister", desc := "()V" } : Jvm.MethodName)) ∈ lw_tbl := List.mem_append_right _ (List.mem_of_getElem? (i := 517) (by decide +kernel))
theorem ks_14 : Cond.selects "HoopCabinet$Reader" ({ cls := "HoopCabinet$Reader", name := "readMinister", desc := "()V" } : Jvm.MethodName) ({ cls := "HoopCabinet$Reader", name := "readMinister", desc := "()V" } : Jvm.MethodName) ∈ lw_tbl := List.mem_append_left _ (List.mem_of_getElem? (i := 14) (by decide +kernel))
theorem k_525 : (Jvm.Cond.code ({ cls := "HoopCabinet$Reader", name := "readBid", desc := "()V" } : Jvm.MethodName) prog_8_method_8_code (4 : Nat) (Option.none : Option Jvm.ClassFile.FieldType)) ∈ lw_tbl := List.mem_append_right _ (List.mem_of_getElem? (i := 525) (by decide +kernel))
theorem k_522 : (Jvm.Cond.methodLink "HoopCabinet$Reader" (82 : Nat) ({ cls := "HoopCabinet$Reader", name := "readBid", desc := "()V" } : Jvm.MethodName)) ∈ lw_tbl := List.mem_append_right _ (List.mem_of_getElem? (i := 522) (by decide +kernel))
theorem k_524 : (Jvm.Cond.instanceMethod ({ cls := "HoopCabinet$Reader", name := "readBid", desc := "()V" } : Jvm.MethodName)) ∈ lw_tbl := List.mem_append_right _ (List.mem_of_getElem? (i := 524) (by decide +kernel))
theorem ks_15 : Cond.selects "HoopCabinet$Reader" ({ cls := "HoopCabinet$Reader", name := "readBid", desc := "()V" } : Jvm.MethodName) ({ cls := "HoopCabinet$Reader", name := "readBid", desc := "()V" } : Jvm.MethodName) ∈ lw_tbl := List.mem_append_left _ (List.mem_of_getElem? (i := 15) (by decide +kernel))
theorem k_462 : (Jvm.Cond.code ({ cls := "HoopCabinet$Reader", name := "fail", desc := "(I)V" } : Jvm.MethodName) prog_8_method_10_code (2 : Nat) (Option.none : Option Jvm.ClassFile.FieldType)) ∈ lw_tbl := List.mem_append_right _ (List.mem_of_getElem? (i := 462) (by decide +kernel))
theorem k_459 : (Jvm.Cond.methodLink "HoopCabinet$Reader" (85 : Nat) ({ cls := "HoopCabinet$Reader", name := "fail", desc := "(I)V" } : Jvm.MethodName)) ∈ lw_tbl := List.mem_append_right _ (List.mem_of_getElem? (i := 459) (by decide +kernel))
theorem k_461 : (Jvm.Cond.instanceMethod ({ cls := "HoopCabinet$Reader", name := "fail", desc := "(I)V" } : Jvm.MethodName)) ∈ lw_tbl := List.mem_append_right _ (List.mem_of_getElem? (i := 461) (by decide +kernel))
theorem ks_7 : Cond.selects "HoopCabinet$Reader" ({ cls := "HoopCabinet$Reader", name := "fail", desc := "(I)V" } : Jvm.MethodName) ({ cls := "HoopCabinet$Reader", name := "fail", desc := "(I)V" } : Jvm.MethodName) ∈ lw_tbl := List.mem_append_left _ (List.mem_of_getElem? (i := 7) (by decide +kernel))
theorem k_406 : (Jvm.Cond.code ({ cls := "HoopCabinet$Reader", name := "takeWord", desc := "(Ljava/lang/String;)V" } : Jvm.MethodName) prog_8_method_11_code (2 : Nat) (Option.none : Option Jvm.ClassFile.FieldType)) ∈ lw_tbl := List.mem_append_right _ (List.mem_of_getElem? (i := 406) (by decide +kernel))
theorem k_403 : (Jvm.Cond.methodLink "HoopCabinet$Reader" (90 : Nat) ({ cls := "HoopCabinet$Reader", name := "takeWord", desc := "(Ljava/lang/String;)V" } : Jvm.MethodName)) ∈ lw_tbl := List.mem_append_right _ (List.mem_of_getElem? (i := 403) (by decide +kernel))
theorem k_405 : (Jvm.Cond.instanceMethod ({ cls := "HoopCabinet$Reader", name := "takeWord", desc := "(Ljava/lang/String;)V" } : Jvm.MethodName)) ∈ lw_tbl := List.mem_append_right _ (List.mem_of_getElem? (i := 405) (by decide +kernel))
theorem ks_5 : Cond.selects "HoopCabinet$Reader" ({ cls := "HoopCabinet$Reader", name := "takeWord", desc := "(Ljava/lang/String;)V" } : Jvm.MethodName) ({ cls := "HoopCabinet$Reader", name := "takeWord", desc := "(Ljava/lang/String;)V" } : Jvm.MethodName) ∈ lw_tbl := List.mem_append_left _ (List.mem_of_getElem? (i := 5) (by decide +kernel))
theorem k_467 : (Jvm.Cond.code ({ cls := "HoopCabinet$Reader", name := "takeNumber", desc := "(II)I" } : Jvm.MethodName) prog_8_method_13_code (4 : Nat) (Option.some Jvm.ClassFile.FieldType.int)) ∈ lw_tbl := List.mem_append_right _ (List.mem_of_getElem? (i := 467) (by decide +kernel))
theorem k_464 : (Jvm.Cond.methodLink "HoopCabinet$Reader" (96 : Nat) ({ cls := "HoopCabinet$Reader", name := "takeNumber", desc := "(II)I" } : Jvm.MethodName)) ∈ lw_tbl := List.mem_append_right _ (List.mem_of_getElem? (i := 464) (by decide +kernel))
theorem k_466 : (Jvm.Cond.instanceMethod ({ cls := "HoopCabinet$Reader", name := "takeNumber", desc := "(II)I" } : Jvm.MethodName)) ∈ lw_tbl := List.mem_append_right _ (List.mem_of_getElem? (i := 466) (by decide +kernel))
theorem ks_8 : Cond.selects "HoopCabinet$Reader" ({ cls := "HoopCabinet$Reader", name := "takeNumber", desc := "(II)I" } : Jvm.MethodName) ({ cls := "HoopCabinet$Reader", name := "takeNumber", desc := "(II)I" } : Jvm.MethodName) ∈ lw_tbl := List.mem_append_left _ (List.mem_of_getElem? (i := 8) (by decide +kernel))
theorem k_69 : (Jvm.Cond.fieldLinkNest "HoopCabinet$Reader" (99 : Nat) "HoopCabinet$Ball" "rooms" "I" "HoopCabinet") ∈ lw_tbl := List.mem_append_right _ (List.mem_of_getElem? (i := 69) (by decide +kernel))
theorem k_74 : (Jvm.Cond.fieldLinkNest "HoopCabinet$Reader" (103 : Nat) "HoopCabinet$Ball" "dances" "I" "HoopCabinet") ∈ lw_tbl := List.mem_append_right _ (List.mem_of_getElem? (i := 74) (by decide +kernel))
theorem k_77 : (Jvm.Cond.fieldLinkNest "HoopCabinet$Reader" (107 : Nat) "HoopCabinet$Ball" "law" "I" "HoopCabinet") ∈ lw_tbl := List.mem_append_right _ (List.mem_of_getElem? (i := 77) (by decide +kernel))
theorem k_80 : (Jvm.Cond.fieldLinkNest "HoopCabinet$Reader" (111 : Nat) "HoopCabinet$Ball" "odds" "I" "HoopCabinet") ∈ lw_tbl := List.mem_append_right _ (List.mem_of_getElem? (i := 80) (by decide +kernel))
theorem k_479 : (Jvm.Cond.code ({ cls := "HoopCabinet$Reader", name := "takeSign", desc := "()V" } : Jvm.MethodName) prog_8_method_12_code (1 : Nat) (Option.none : Option Jvm.ClassFile.FieldType)) ∈ lw_tbl := List.mem_append_right _ (List.mem_of_getElem? (i := 479) (by decide +kernel))
theorem k_476 : (Jvm.Cond.methodLink "HoopCabinet$Reader" (113 : Nat) ({ cls := "HoopCabinet$Reader", name := "takeSign", desc := "()V" } : Jvm.MethodName)) ∈ lw_tbl := List.mem_append_right _ (List.mem_of_getElem? (i := 476) (by decide +kernel))
theorem k_478 : (Jvm.Cond.instanceMethod ({ cls := "HoopCabinet$Reader", name := "takeSign", desc := "()V" } : Jvm.MethodName)) ∈ lw_tbl := List.mem_append_right _ (List.mem_of_getElem? (i := 478) (by decide +kernel))
theorem ks_10 : Cond.selects "HoopCabinet$Reader" ({ cls := "HoopCabinet$Reader", name := "takeSign", desc := "()V" } : Jvm.MethodName) ({ cls := "HoopCabinet$Reader", name := "takeSign", desc := "()V" } : Jvm.MethodName) ∈ lw_tbl := List.mem_append_left _ (List.mem_of_getElem? (i := 10) (by decide +kernel))
theorem k_84 : (Jvm.Cond.fieldLinkNest "HoopCabinet$Reader" (116 : Nat) "HoopCabinet$Ball" "doors" "LHoopCabinet$Table;" "HoopCabinet") ∈ lw_tbl := List.mem_append_right _ (List.mem_of_getElem? (i := 84) (by decide +kernel))
theorem k_488 : (Jvm.Cond.code ({ cls := "HoopCabinet$Reader", name := "startRow", desc := "(LHoopCabinet$Table;)V" } : Jvm.MethodName) prog_8_method_9_code (2 : Nat) (Option.none : Option Jvm.ClassFile.FieldType)) ∈ lw_tbl := List.mem_append_right _ (List.mem_of_getElem? (i := 488) (by decide +kernel))
theorem k_485 : (Jvm.Cond.methodLink "HoopCabinet$Reader" (120 : Nat) ({ cls := "HoopCabinet$Reader", name := "startRow", desc := "(LHoopCabinet$Table;)V" } : Jvm.MethodName)) ∈ lw_tbl := List.mem_append_right _ (List.mem_of_getElem? (i := 485) (by decide +kernel))
theorem k_487 : (Jvm.Cond.instanceMethod ({ cls := "HoopCabinet$Reader", name := "startRow", desc := "(LHoopCabinet$Table;)V" } : Jvm.MethodName)) ∈ lw_tbl := List.mem_append_right _ (List.mem_of_getElem? (i := 487) (by decide +kernel))
theorem ks_12 : Cond.selects "HoopCabinet$Reader" ({ cls := "HoopCabinet$Reader", name := "startRow", desc := "(LHoopCabinet$Table;)V" } : Jvm.MethodName) ({ cls := "HoopCabinet$Reader", name := "startRow", desc := "(LHoopCabinet$Table;)V" } : Jvm.MethodName) ∈ lw_tbl := List.mem_append_left _ (List.mem_of_getElem? (i := 12) (by decide +kernel))
theorem k_471 : (Jvm.Cond.code ({ cls := "HoopCabinet$Reader", name := "digits", desc := "()I" } : Jvm.MethodName) prog_8_method_16_code (3 : Nat) (Option.some Jvm.ClassFile.FieldType.int)) ∈ lw_tbl := List.mem_append_right _ (List.mem_of_getElem? (i := 471) (by decide +kernel))
theorem k_468 : (Jvm.Cond.methodLink "HoopCabinet$Reader" (126 : Nat) ({ cls := "HoopCabinet$Reader", name := "digits", desc := "()I" } : Jvm.MethodName)) ∈ lw_tbl := List.mem_append_right _ (List.mem_of_getElem? (i := 468) (by decide +kernel))
theorem k_470 : (Jvm.Cond.instanceMethod ({ cls := "HoopCabinet$Reader", name := "digits", desc := "()I" } : Jvm.MethodName)) ∈ lw_tbl := List.mem_append_right _ (List.mem_of_getElem? (i := 470) (by decide +kernel))
theorem ks_9 : Cond.selects "HoopCabinet$Reader" ({ cls := "HoopCabinet$Reader", name := "digits", desc := "()I" } : Jvm.MethodName) ({ cls := "HoopCabinet$Reader", name := "digits", desc := "()I" } : Jvm.MethodName) ∈ lw_tbl := List.mem_append_left _ (List.mem_of_getElem? (i := 9) (by decide +kernel))
theorem k_495 : (Jvm.Cond.methodLink "HoopCabinet$Reader" (132 : Nat) ({ cls := "HoopCabinet$Table", name := "add", desc := "(IIII)V" } : Jvm.MethodName)) ∈ lw_tbl := List.mem_append_right _ (List.mem_of_getElem? (i := 495) (by decide +kernel))
theorem k_90 : (Jvm.Cond.fieldLinkNest "HoopCabinet$Reader" (138 : Nat) "HoopCabinet$Ball" "ladies" "LHoopCabinet$Table;" "HoopCabinet") ∈ lw_tbl := List.mem_append_right _ (List.mem_of_getElem? (i := 90) (by decide +kernel))
theorem k_93 : (Jvm.Cond.fieldLinkNest "HoopCabinet$Reader" (143 : Nat) "HoopCabinet$Ball" "ministers" "LHoopCabinet$Table;" "HoopCabinet") ∈ lw_tbl := List.mem_append_right _ (List.mem_of_getElem? (i := 93) (by decide +kernel))
theorem k_50 : (Jvm.Cond.fieldLinkNest "HoopCabinet$Reader" (148 : Nat) "HoopCabinet$Table" "rows" "I" "HoopCabinet") ∈ lw_tbl := List.mem_append_right _ (List.mem_of_getElem? (i := 50) (by decide +kernel))
theorem k_97 : (Jvm.Cond.fieldLinkNest "HoopCabinet$Reader" (153 : Nat) "HoopCabinet$Ball" "bids" "LHoopCabinet$Table;" "HoopCabinet") ∈ lw_tbl := List.mem_append_right _ (List.mem_of_getElem? (i := 97) (by decide +kernel))
theorem k_492 : (Jvm.Cond.code ({ cls := "HoopCabinet$Table", name := "isFull", desc := "()Z" } : Jvm.MethodName) prog_10_method_4_code (1 : Nat) (Option.some Jvm.ClassFile.FieldType.boolean)) ∈ lw_tbl := List.mem_append_right _ (List.mem_of_getElem? (i := 492) (by decide +kernel))
theorem k_489 : (Jvm.Cond.methodLink "HoopCabinet$Reader" (158 : Nat) ({ cls := "HoopCabinet$Table", name := "isFull", desc := "()Z" } : Jvm.MethodName)) ∈ lw_tbl := List.mem_append_right _ (List.mem_of_getElem? (i := 489) (by decide +kernel))
theorem k_490 : (Jvm.Cond.instanceMethod ({ cls := "HoopCabinet$Table", name := "isFull", desc := "()Z" } : Jvm.MethodName)) ∈ lw_tbl := List.mem_append_right _ (List.mem_of_getElem? (i := 490) (by decide +kernel))
theorem k_491 : (Jvm.Cond.selects "HoopCabinet$Table" ({ cls := "HoopCabinet$Table", name := "isFull", desc := "()Z" } : Jvm.MethodName) ({ cls := "HoopCabinet$Table", name := "isFull", desc := "()Z" } : Jvm.MethodName)) ∈ lw_tbl := List.mem_append_right _ (List.mem_of_getElem? (i := 491) (by decide +kernel))
theorem k_133 : (Jvm.Cond.fieldLink "HoopCabinet$Reader" (162 : Nat) "HoopCabinet$Reader" "place" "I") ∈ lw_tbl := List.mem_append_right _ (List.mem_of_getElem? (i := 133) (by decide +kernel))
theorem k_414 : (Jvm.Cond.code ({ cls := "java/lang/String", name := "length", desc := "()I" } : Jvm.MethodName) prog_15_method_54_code (1 : Nat) (Option.some Jvm.ClassFile.FieldType.int)) ∈ lw_tbl := List.mem_append_right _ (List.mem_of_getElem? (i := 414) (by decide +kernel))
theorem k_411 : (Jvm.Cond.methodLink "HoopCabinet$Reader" (165 : Nat) ({ cls := "java/lang/String", name := "length", desc := "()I" } : Jvm.MethodName)) ∈ lw_tbl := List.mem_append_right _ (List.mem_of_getElem? (i := 411) (by decide +kernel))
theorem k_412 : (Jvm.Cond.instanceMethod ({ cls := "java/lang/String", name := "length", desc := "()I" } : Jvm.MethodName)) ∈ lw_tbl := List.mem_append_right _ (List.mem_of_getElem? (i := 412) (by decide +kernel))
theorem k_413 : (Jvm.Cond.selects "java/lang/String" ({ cls := "java/lang/String", name := "length", desc := "()I" } : Jvm.MethodName) ({ cls := "java/lang/String", name := "length", desc := "()I" } : Jvm.MethodName)) ∈ lw_tbl := List.mem_append_right _ (List.mem_of_getElem? (i := 413) (by decide +kernel))
theorem k_387 : (Jvm.Cond.code ({ cls := "HoopCabinet$Reader", name := "byteAt", desc := "(I)I" } : Jvm.MethodName) prog_8_method_17_code (2 : Nat) (Option.some Jvm.ClassFile.FieldType.int)) ∈ lw_tbl := List.mem_append_right _ (List.mem_of_getElem? (i := 387) (by decide +kernel))
theorem k_384 : (Jvm.Cond.methodLink "HoopCabinet$Reader" (169 : Nat) ({ cls := "HoopCabinet$Reader", name := "byteAt", desc := "(I)I" } : Jvm.MethodName)) ∈ lw_tbl := List.mem_append_right _ (List.mem_of_getElem? (i := 384) (by decide +kernel))
theorem k_386 : (Jvm.Cond.instanceMethod ({ cls := "HoopCabinet$Reader", name := "byteAt", desc := "(I)I" } : Jvm.MethodName)) ∈ lw_tbl := List.mem_append_right _ (List.mem_of_getElem? (i := 386) (by decide +kernel))
theorem ks_2 : Cond.selects "HoopCabinet$Reader" ({ cls := "HoopCabinet$Reader", name := "byteAt", desc := "(I)I" } : Jvm.MethodName) ({ cls := "HoopCabinet$Reader", name := "byteAt", desc := "(I)I" } : Jvm.MethodName) ∈ lw_tbl := List.mem_append_left _ (List.mem_of_getElem? (i := 2) (by decide +kernel))
theorem k_424 : (Jvm.Cond.code ({ cls := "java/lang/String", name := "charAt", desc := "(I)C" } : Jvm.MethodName) prog_15_method_56_code (2 : Nat) (Option.some Jvm.ClassFile.FieldType.char)) ∈ lw_tbl := List.mem_append_right _ (List.mem_of_getElem? (i := 424) (by decide +kernel))
theorem k_421 : (Jvm.Cond.methodLink "HoopCabinet$Reader" (173 : Nat) ({ cls := "java/lang/String", name := "charAt", desc := "(I)C" } : Jvm.MethodName)) ∈ lw_tbl := List.mem_append_right _ (List.mem_of_getElem? (i := 421) (by decide +kernel))
theorem k_422 : (Jvm.Cond.instanceMethod ({ cls := "java/lang/String", name := "charAt", desc := "(I)C" } : Jvm.MethodName)) ∈ lw_tbl := List.mem_append_right _ (List.mem_of_getElem? (i := 422) (by decide +kernel))
theorem k_423 : (Jvm.Cond.selects "java/lang/String" ({ cls := "java/lang/String", name := "charAt", desc := "(I)C" } : Jvm.MethodName) ({ cls := "java/lang/String", name := "charAt", desc := "(I)C" } : Jvm.MethodName)) ∈ lw_tbl := List.mem_append_right _ (List.mem_of_getElem? (i := 423) (by decide +kernel))
theorem k_390 : (Jvm.Cond.code ({ cls := "HoopCabinet$Reader", name := "isBlank", desc := "(I)Z" } : Jvm.MethodName) prog_8_method_18_code (1 : Nat) (Option.some Jvm.ClassFile.FieldType.boolean)) ∈ lw_tbl := List.mem_append_right _ (List.mem_of_getElem? (i := 390) (by decide +kernel))
theorem k_388 : (Jvm.Cond.methodLink "HoopCabinet$Reader" (177 : Nat) ({ cls := "HoopCabinet$Reader", name := "isBlank", desc := "(I)Z" } : Jvm.MethodName)) ∈ lw_tbl := List.mem_append_right _ (List.mem_of_getElem? (i := 388) (by decide +kernel))
theorem k_389 : (Jvm.Cond.static ({ cls := "HoopCabinet$Reader", name := "isBlank", desc := "(I)Z" } : Jvm.MethodName)) ∈ lw_tbl := List.mem_append_right _ (List.mem_of_getElem? (i := 389) (by decide +kernel))
theorem k_393 : (Jvm.Cond.code ({ cls := "HoopCabinet$Reader", name := "kindOf", desc := "(I)I" } : Jvm.MethodName) prog_8_method_19_code (1 : Nat) (Option.some Jvm.ClassFile.FieldType.int)) ∈ lw_tbl := List.mem_append_right _ (List.mem_of_getElem? (i := 393) (by decide +kernel))
theorem k_391 : (Jvm.Cond.methodLink "HoopCabinet$Reader" (181 : Nat) ({ cls := "HoopCabinet$Reader", name := "kindOf", desc := "(I)I" } : Jvm.MethodName)) ∈ lw_tbl := List.mem_append_right _ (List.mem_of_getElem? (i := 391) (by decide +kernel))
theorem k_392 : (Jvm.Cond.static ({ cls := "HoopCabinet$Reader", name := "kindOf", desc := "(I)I" } : Jvm.MethodName)) ∈ lw_tbl := List.mem_append_right _ (List.mem_of_getElem? (i := 392) (by decide +kernel))
theorem k_472 : (Jvm.Cond.constant "HoopCabinet$Reader" (184 : Nat) (1000000 : Int32)) ∈ lw_tbl := List.mem_append_right _ (List.mem_of_getElem? (i := 472) (by decide +kernel))
theorem k_166 : (Jvm.Cond.fieldLink "HoopCabinet$Slot" (19 : Nat) "HoopCabinet$Slot" "width" "I") ∈ lw_tbl := List.mem_append_right _ (List.mem_of_getElem? (i := 166) (by decide +kernel))
theorem k_1212 : (Jvm.Cond.methodLink "HoopCabinet$Slot" (22 : Nat) ({ cls := "java/lang/Math", name := "min", desc := "(II)I" } : Jvm.MethodName)) ∈ lw_tbl := List.mem_append_right _ (List.mem_of_getElem? (i := 1212) (by decide +kernel))
theorem k_1213 : (Jvm.Cond.methodLink "HoopCabinet$Slot" (28 : Nat) ({ cls := "java/util/Arrays", name := "fill", desc := "([JJ)V" } : Jvm.MethodName)) ∈ lw_tbl := List.mem_append_right _ (List.mem_of_getElem? (i := 1213) (by decide +kernel))
theorem k_938 : (Jvm.Cond.constantLong "HoopCabinet$Slot" (34 : Nat) (-1 : Int64)) ∈ lw_tbl := List.mem_append_right _ (List.mem_of_getElem? (i := 938) (by decide +kernel))
theorem k_1225 : (Jvm.Cond.code ({ cls := "HoopCabinet$Slot", name := "cut", desc := "(J)J" } : Jvm.MethodName) prog_9_method_6_code (3 : Nat) (Option.some Jvm.ClassFile.FieldType.long)) ∈ lw_tbl := List.mem_append_right _ (List.mem_of_getElem? (i := 1225) (by decide +kernel))
theorem k_1222 : (Jvm.Cond.methodLink "HoopCabinet$Slot" (36 : Nat) ({ cls := "HoopCabinet$Slot", name := "cut", desc := "(J)J" } : Jvm.MethodName)) ∈ lw_tbl := List.mem_append_right _ (List.mem_of_getElem? (i := 1222) (by decide +kernel))
theorem k_1224 : (Jvm.Cond.instanceMethod ({ cls := "HoopCabinet$Slot", name := "cut", desc := "(J)J" } : Jvm.MethodName)) ∈ lw_tbl := List.mem_append_right _ (List.mem_of_getElem? (i := 1224) (by decide +kernel))
theorem ks_43 : Cond.selects "HoopCabinet$Slot" ({ cls := "HoopCabinet$Slot", name := "cut", desc := "(J)J" } : Jvm.MethodName) ({ cls := "HoopCabinet$Slot", name := "cut", desc := "(J)J" } : Jvm.MethodName) ∈ lw_tbl := List.mem_append_left _ (List.mem_of_getElem? (i := 43) (by decide +kernel))
theorem k_507 : (Jvm.Cond.code ({ cls := "HoopCabinet$Table", name := "hasCell", desc := "(II)Z" } : Jvm.MethodName) prog_10_method_3_code (3 : Nat) (Option.some Jvm.ClassFile.FieldType.boolean)) ∈ lw_tbl := List.mem_append_right _ (List.mem_of_getElem? (i := 507) (by decide +kernel))
theorem k_504 : (Jvm.Cond.methodLink "HoopCabinet$Table" (31 : Nat) ({ cls := "HoopCabinet$Table", name := "hasCell", desc := "(II)Z" } : Jvm.MethodName)) ∈ lw_tbl := List.mem_append_right _ (List.mem_of_getElem? (i := 504) (by decide +kernel))
theorem k_505 : (Jvm.Cond.instanceMethod ({ cls := "HoopCabinet$Table", name := "hasCell", desc := "(II)Z" } : Jvm.MethodName)) ∈ lw_tbl := List.mem_append_right _ (List.mem_of_getElem? (i := 505) (by decide +kernel))
theorem k_506 : (Jvm.Cond.selects "HoopCabinet$Table" ({ cls := "HoopCabinet$Table", name := "hasCell", desc := "(II)Z" } : Jvm.MethodName) ({ cls := "HoopCabinet$Table", name := "hasCell", desc := "(II)Z" } : Jvm.MethodName)) ∈ lw_tbl := List.mem_append_right _ (List.mem_of_getElem? (i := 506) (by decide +kernel))
theorem k_499 : (Jvm.Cond.methodLink "HoopCabinet$Table" (35 : Nat) ({ cls := "HoopCabinet$Table", name := "isFull", desc := "()Z" } : Jvm.MethodName)) ∈ lw_tbl := List.mem_append_right _ (List.mem_of_getElem? (i := 499) (by decide +kernel))
theorem k_500 : (Jvm.Cond.methodLink "HoopCabinet$Table" (39 : Nat) ({ cls := "HoopCabinet$Table", name := "put", desc := "(III)V" } : Jvm.MethodName)) ∈ lw_tbl := List.mem_append_right _ (List.mem_of_getElem? (i := 500) (by decide +kernel))
theorem k_535 : (Jvm.Cond.methodLink "HoopCabinet$Table" (43 : Nat) ({ cls := "java/lang/Math", name := "min", desc := "(II)I" } : Jvm.MethodName)) ∈ lw_tbl := List.mem_append_right _ (List.mem_of_getElem? (i := 535) (by decide +kernel))
theorem k_536 : (Jvm.Cond.methodLink "HoopCabinet$Table" (46 : Nat) ({ cls := "java/lang/System", name := "arraycopy", desc := "(Ljava/lang/Object;ILjava/lang/Object;II)V" } : Jvm.MethodName)) ∈ lw_tbl := List.mem_append_right _ (List.mem_of_getElem? (i := 536) (by decide +kernel))
theorem k_355 : (Jvm.Cond.code ({ cls := "HoopCabinet", name := "appendFour", desc := "(I)V" } : Jvm.MethodName) prog_1_method_3_code (3 : Nat) (Option.none : Option Jvm.ClassFile.FieldType)) ∈ lw_tbl := List.mem_append_right _ (List.mem_of_getElem? (i := 355) (by decide +kernel))
theorem k_352 : (Jvm.Cond.methodLink "HoopCabinet" (93 : Nat) ({ cls := "HoopCabinet", name := "appendFour", desc := "(I)V" } : Jvm.MethodName)) ∈ lw_tbl := List.mem_append_right _ (List.mem_of_getElem? (i := 352) (by decide +kernel))
theorem k_354 : (Jvm.Cond.instanceMethod ({ cls := "HoopCabinet", name := "appendFour", desc := "(I)V" } : Jvm.MethodName)) ∈ lw_tbl := List.mem_append_right _ (List.mem_of_getElem? (i := 354) (by decide +kernel))
theorem ks_0 : Cond.selects "HoopCabinet" ({ cls := "HoopCabinet", name := "appendFour", desc := "(I)V" } : Jvm.MethodName) ({ cls := "HoopCabinet", name := "appendFour", desc := "(I)V" } : Jvm.MethodName) ∈ lw_tbl := List.mem_append_left _ (List.mem_of_getElem? (i := 0) (by decide +kernel))
theorem k_367 : (Jvm.Cond.code ({ cls := "HoopCabinet$Reader", name := "read", desc := "(I)V" } : Jvm.MethodName) prog_8_method_2_code (3 : Nat) (Option.none : Option Jvm.ClassFile.FieldType)) ∈ lw_tbl := List.mem_append_right _ (List.mem_of_getElem? (i := 367) (by decide +kernel))
theorem k_364 : (Jvm.Cond.methodLink "HoopCabinet" (97 : Nat) ({ cls := "HoopCabinet$Reader", name := "read", desc := "(I)V" } : Jvm.MethodName)) ∈ lw_tbl := List.mem_append_right _ (List.mem_of_getElem? (i := 364) (by decide +kernel))
theorem k_365 : (Jvm.Cond.instanceMethod ({ cls := "HoopCabinet$Reader", name := "read", desc := "(I)V" } : Jvm.MethodName)) ∈ lw_tbl := List.mem_append_right _ (List.mem_of_getElem? (i := 365) (by decide +kernel))
theorem k_366 : (Jvm.Cond.selects "HoopCabinet$Reader" ({ cls := "HoopCabinet$Reader", name := "read", desc := "(I)V" } : Jvm.MethodName) ({ cls := "HoopCabinet$Reader", name := "read", desc := "(I)V" } : Jvm.MethodName)) ∈ lw_tbl := List.mem_append_right _ (List.mem_of_getElem? (i := 366) (by decide +kernel))
theorem k_136 : (Jvm.Cond.fieldLinkNest "HoopCabinet" (100 : Nat) "HoopCabinet$Reader" "fault" "I" "HoopCabinet") ∈ lw_tbl := List.mem_append_right _ (List.mem_of_getElem? (i := 136) (by decide +kernel))
theorem k_530 : (Jvm.Cond.code ({ cls := "HoopCabinet$Ball", name := "copyFrom", desc := "(LHoopCabinet$Ball;)V" } : Jvm.MethodName) prog_2_method_3_code (2 : Nat) (Option.none : Option Jvm.ClassFile.FieldType)) ∈ lw_tbl := List.mem_append_right _ (List.mem_of_getElem? (i := 530) (by decide +kernel))
theorem k_527 : (Jvm.Cond.methodLink "HoopCabinet" (103 : Nat) ({ cls := "HoopCabinet$Ball", name := "copyFrom", desc := "(LHoopCabinet$Ball;)V" } : Jvm.MethodName)) ∈ lw_tbl := List.mem_append_right _ (List.mem_of_getElem? (i := 527) (by decide +kernel))
theorem k_528 : (Jvm.Cond.instanceMethod ({ cls := "HoopCabinet$Ball", name := "copyFrom", desc := "(LHoopCabinet$Ball;)V" } : Jvm.MethodName)) ∈ lw_tbl := List.mem_append_right _ (List.mem_of_getElem? (i := 528) (by decide +kernel))
theorem k_529 : (Jvm.Cond.selects "HoopCabinet$Ball" ({ cls := "HoopCabinet$Ball", name := "copyFrom", desc := "(LHoopCabinet$Ball;)V" } : Jvm.MethodName) ({ cls := "HoopCabinet$Ball", name := "copyFrom", desc := "(LHoopCabinet$Ball;)V" } : Jvm.MethodName)) ∈ lw_tbl := List.mem_append_right _ (List.mem_of_getElem? (i := 529) (by decide +kernel))
theorem k_542 : (Jvm.Cond.code ({ cls := "HoopCabinet", name := "settle", desc := "()V" } : Jvm.MethodName) prog_1_method_7_code (1 : Nat) (Option.none : Option Jvm.ClassFile.FieldType)) ∈ lw_tbl := List.mem_append_right _ (List.mem_of_getElem? (i := 542) (by decide +kernel))
theorem k_539 : (Jvm.Cond.methodLink "HoopCabinet" (107 : Nat) ({ cls := "HoopCabinet", name := "settle", desc := "()V" } : Jvm.MethodName)) ∈ lw_tbl := List.mem_append_right _ (List.mem_of_getElem? (i := 539) (by decide +kernel))
theorem k_541 : (Jvm.Cond.instanceMethod ({ cls := "HoopCabinet", name := "settle", desc := "()V" } : Jvm.MethodName)) ∈ lw_tbl := List.mem_append_right _ (List.mem_of_getElem? (i := 541) (by decide +kernel))
theorem ks_16 : Cond.selects "HoopCabinet" ({ cls := "HoopCabinet", name := "settle", desc := "()V" } : Jvm.MethodName) ({ cls := "HoopCabinet", name := "settle", desc := "()V" } : Jvm.MethodName) ∈ lw_tbl := List.mem_append_left _ (List.mem_of_getElem? (i := 16) (by decide +kernel))
theorem k_66 : (Jvm.Cond.fieldLinkNest "HoopCabinet" (110 : Nat) "HoopCabinet$Ball" "lines" "I" "HoopCabinet") ∈ lw_tbl := List.mem_append_right _ (List.mem_of_getElem? (i := 66) (by decide +kernel))
theorem k_138 : (Jvm.Cond.fieldLinkNest "HoopCabinet" (113 : Nat) "HoopCabinet$Reader" "faultPlace" "I" "HoopCabinet") ∈ lw_tbl := List.mem_append_right _ (List.mem_of_getElem? (i := 138) (by decide +kernel))
theorem k_546 : (Jvm.Cond.code ({ cls := "HoopCabinet$Floor", name := "settle", desc := "(LHoopCabinet$Ball;II)V" } : Jvm.MethodName) prog_4_method_2_code (5 : Nat) (Option.none : Option Jvm.ClassFile.FieldType)) ∈ lw_tbl := List.mem_append_right _ (List.mem_of_getElem? (i := 546) (by decide +kernel))
theorem k_543 : (Jvm.Cond.methodLink "HoopCabinet" (116 : Nat) ({ cls := "HoopCabinet$Floor", name := "settle", desc := "(LHoopCabinet$Ball;II)V" } : Jvm.MethodName)) ∈ lw_tbl := List.mem_append_right _ (List.mem_of_getElem? (i := 543) (by decide +kernel))
theorem k_544 : (Jvm.Cond.instanceMethod ({ cls := "HoopCabinet$Floor", name := "settle", desc := "(LHoopCabinet$Ball;II)V" } : Jvm.MethodName)) ∈ lw_tbl := List.mem_append_right _ (List.mem_of_getElem? (i := 544) (by decide +kernel))
theorem k_545 : (Jvm.Cond.selects "HoopCabinet$Floor" ({ cls := "HoopCabinet$Floor", name := "settle", desc := "(LHoopCabinet$Ball;II)V" } : Jvm.MethodName) ({ cls := "HoopCabinet$Floor", name := "settle", desc := "(LHoopCabinet$Ball;II)V" } : Jvm.MethodName)) ∈ lw_tbl := List.mem_append_right _ (List.mem_of_getElem? (i := 545) (by decide +kernel))
theorem k_85 : (Jvm.Cond.fieldLinkNest "HoopCabinet" (119 : Nat) "HoopCabinet$Ball" "doors" "LHoopCabinet$Table;" "HoopCabinet") ∈ lw_tbl := List.mem_append_right _ (List.mem_of_getElem? (i := 85) (by decide +kernel))
theorem k_625 : (Jvm.Cond.methodLink "HoopCabinet" (123 : Nat) ({ cls := "HoopCabinet$Table", name := "hasCell", desc := "(II)Z" } : Jvm.MethodName)) ∈ lw_tbl := List.mem_append_right _ (List.mem_of_getElem? (i := 625) (by decide +kernel))
theorem k_626 : (Jvm.Cond.methodLink "HoopCabinet" (129 : Nat) ({ cls := "HoopCabinet$Table", name := "cell", desc := "(II)I" } : Jvm.MethodName)) ∈ lw_tbl := List.mem_append_right _ (List.mem_of_getElem? (i := 626) (by decide +kernel))
theorem k_91 : (Jvm.Cond.fieldLinkNest "HoopCabinet" (133 : Nat) "HoopCabinet$Ball" "ladies" "LHoopCabinet$Table;" "HoopCabinet") ∈ lw_tbl := List.mem_append_right _ (List.mem_of_getElem? (i := 91) (by decide +kernel))
theorem k_94 : (Jvm.Cond.fieldLinkNest "HoopCabinet" (136 : Nat) "HoopCabinet$Ball" "ministers" "LHoopCabinet$Table;" "HoopCabinet") ∈ lw_tbl := List.mem_append_right _ (List.mem_of_getElem? (i := 94) (by decide +kernel))
theorem k_642 : (Jvm.Cond.code ({ cls := "HoopCabinet$Ball", name := "hasLady", desc := "(I)Z" } : Jvm.MethodName) prog_2_method_5_code (2 : Nat) (Option.some Jvm.ClassFile.FieldType.boolean)) ∈ lw_tbl := List.mem_append_right _ (List.mem_of_getElem? (i := 642) (by decide +kernel))
theorem k_639 : (Jvm.Cond.methodLink "HoopCabinet" (139 : Nat) ({ cls := "HoopCabinet$Ball", name := "hasLady", desc := "(I)Z" } : Jvm.MethodName)) ∈ lw_tbl := List.mem_append_right _ (List.mem_of_getElem? (i := 639) (by decide +kernel))
theorem k_640 : (Jvm.Cond.instanceMethod ({ cls := "HoopCabinet$Ball", name := "hasLady", desc := "(I)Z" } : Jvm.MethodName)) ∈ lw_tbl := List.mem_append_right _ (List.mem_of_getElem? (i := 640) (by decide +kernel))
theorem k_641 : (Jvm.Cond.selects "HoopCabinet$Ball" ({ cls := "HoopCabinet$Ball", name := "hasLady", desc := "(I)Z" } : Jvm.MethodName) ({ cls := "HoopCabinet$Ball", name := "hasLady", desc := "(I)Z" } : Jvm.MethodName)) ∈ lw_tbl := List.mem_append_right _ (List.mem_of_getElem? (i := 641) (by decide +kernel))
theorem k_647 : (Jvm.Cond.methodLink "HoopCabinet" (143 : Nat) ({ cls := "HoopCabinet$Ball", name := "hasRoom", desc := "(I)Z" } : Jvm.MethodName)) ∈ lw_tbl := List.mem_append_right _ (List.mem_of_getElem? (i := 647) (by decide +kernel))
theorem k_651 : (Jvm.Cond.code ({ cls := "HoopCabinet$Floor", name := "distance", desc := "(III)I" } : Jvm.MethodName) prog_4_method_14_code (6 : Nat) (Option.some Jvm.ClassFile.FieldType.int)) ∈ lw_tbl := List.mem_append_right _ (List.mem_of_getElem? (i := 651) (by decide +kernel))
theorem k_648 : (Jvm.Cond.methodLink "HoopCabinet" (146 : Nat) ({ cls := "HoopCabinet$Floor", name := "distance", desc := "(III)I" } : Jvm.MethodName)) ∈ lw_tbl := List.mem_append_right _ (List.mem_of_getElem? (i := 648) (by decide +kernel))
theorem k_649 : (Jvm.Cond.instanceMethod ({ cls := "HoopCabinet$Floor", name := "distance", desc := "(III)I" } : Jvm.MethodName)) ∈ lw_tbl := List.mem_append_right _ (List.mem_of_getElem? (i := 649) (by decide +kernel))
theorem k_650 : (Jvm.Cond.selects "HoopCabinet$Floor" ({ cls := "HoopCabinet$Floor", name := "distance", desc := "(III)I" } : Jvm.MethodName) ({ cls := "HoopCabinet$Floor", name := "distance", desc := "(III)I" } : Jvm.MethodName)) ∈ lw_tbl := List.mem_append_right _ (List.mem_of_getElem? (i := 650) (by decide +kernel))
theorem k_659 : (Jvm.Cond.code ({ cls := "HoopCabinet$Floor", name := "reachable", desc := "(II)I" } : Jvm.MethodName) prog_4_method_15_code (5 : Nat) (Option.some Jvm.ClassFile.FieldType.int)) ∈ lw_tbl := List.mem_append_right _ (List.mem_of_getElem? (i := 659) (by decide +kernel))
theorem k_656 : (Jvm.Cond.methodLink "HoopCabinet" (150 : Nat) ({ cls := "HoopCabinet$Floor", name := "reachable", desc := "(II)I" } : Jvm.MethodName)) ∈ lw_tbl := List.mem_append_right _ (List.mem_of_getElem? (i := 656) (by decide +kernel))
theorem k_657 : (Jvm.Cond.instanceMethod ({ cls := "HoopCabinet$Floor", name := "reachable", desc := "(II)I" } : Jvm.MethodName)) ∈ lw_tbl := List.mem_append_right _ (List.mem_of_getElem? (i := 657) (by decide +kernel))
theorem k_658 : (Jvm.Cond.selects "HoopCabinet$Floor" ({ cls := "HoopCabinet$Floor", name := "reachable", desc := "(II)I" } : Jvm.MethodName) ({ cls := "HoopCabinet$Floor", name := "reachable", desc := "(II)I" } : Jvm.MethodName)) ∈ lw_tbl := List.mem_append_right _ (List.mem_of_getElem? (i := 658) (by decide +kernel))
theorem k_667 : (Jvm.Cond.code ({ cls := "HoopCabinet$Ball", name := "hasDance", desc := "(I)Z" } : Jvm.MethodName) prog_2_method_7_code (2 : Nat) (Option.some Jvm.ClassFile.FieldType.boolean)) ∈ lw_tbl := List.mem_append_right _ (List.mem_of_getElem? (i := 667) (by decide +kernel))
theorem k_664 : (Jvm.Cond.methodLink "HoopCabinet" (153 : Nat) ({ cls := "HoopCabinet$Ball", name := "hasDance", desc := "(I)Z" } : Jvm.MethodName)) ∈ lw_tbl := List.mem_append_right _ (List.mem_of_getElem? (i := 664) (by decide +kernel))
theorem k_665 : (Jvm.Cond.instanceMethod ({ cls := "HoopCabinet$Ball", name := "hasDance", desc := "(I)Z" } : Jvm.MethodName)) ∈ lw_tbl := List.mem_append_right _ (List.mem_of_getElem? (i := 665) (by decide +kernel))
theorem k_666 : (Jvm.Cond.selects "HoopCabinet$Ball" ({ cls := "HoopCabinet$Ball", name := "hasDance", desc := "(I)Z" } : Jvm.MethodName) ({ cls := "HoopCabinet$Ball", name := "hasDance", desc := "(I)Z" } : Jvm.MethodName)) ∈ lw_tbl := List.mem_append_right _ (List.mem_of_getElem? (i := 666) (by decide +kernel))
theorem k_672 : (Jvm.Cond.methodLink "HoopCabinet" (156 : Nat) ({ cls := "HoopCabinet$Floor", name := "goalOf", desc := "(II)I" } : Jvm.MethodName)) ∈ lw_tbl := List.mem_append_right _ (List.mem_of_getElem? (i := 672) (by decide +kernel))
theorem k_677 : (Jvm.Cond.methodLink "HoopCabinet" (159 : Nat) ({ cls := "HoopCabinet$Floor", name := "placeOf", desc := "(II)I" } : Jvm.MethodName)) ∈ lw_tbl := List.mem_append_right _ (List.mem_of_getElem? (i := 677) (by decide +kernel))
theorem k_682 : (Jvm.Cond.methodLink "HoopCabinet" (162 : Nat) ({ cls := "HoopCabinet$Floor", name := "ladiesIn", desc := "(II)I" } : Jvm.MethodName)) ∈ lw_tbl := List.mem_append_right _ (List.mem_of_getElem? (i := 682) (by decide +kernel))
theorem k_690 : (Jvm.Cond.code ({ cls := "HoopCabinet$Floor", name := "stepsOf", desc := "(I)I" } : Jvm.MethodName) prog_4_method_22_code (4 : Nat) (Option.some Jvm.ClassFile.FieldType.int)) ∈ lw_tbl := List.mem_append_right _ (List.mem_of_getElem? (i := 690) (by decide +kernel))
theorem k_687 : (Jvm.Cond.methodLink "HoopCabinet" (165 : Nat) ({ cls := "HoopCabinet$Floor", name := "stepsOf", desc := "(I)I" } : Jvm.MethodName)) ∈ lw_tbl := List.mem_append_right _ (List.mem_of_getElem? (i := 687) (by decide +kernel))
theorem k_688 : (Jvm.Cond.instanceMethod ({ cls := "HoopCabinet$Floor", name := "stepsOf", desc := "(I)I" } : Jvm.MethodName)) ∈ lw_tbl := List.mem_append_right _ (List.mem_of_getElem? (i := 688) (by decide +kernel))
theorem k_689 : (Jvm.Cond.selects "HoopCabinet$Floor" ({ cls := "HoopCabinet$Floor", name := "stepsOf", desc := "(I)I" } : Jvm.MethodName) ({ cls := "HoopCabinet$Floor", name := "stepsOf", desc := "(I)I" } : Jvm.MethodName)) ∈ lw_tbl := List.mem_append_right _ (List.mem_of_getElem? (i := 689) (by decide +kernel))
theorem k_75 : (Jvm.Cond.fieldLinkNest "HoopCabinet" (169 : Nat) "HoopCabinet$Ball" "dances" "I" "HoopCabinet") ∈ lw_tbl := List.mem_append_right _ (List.mem_of_getElem? (i := 75) (by decide +kernel))
theorem k_699 : (Jvm.Cond.methodLink "HoopCabinet" (172 : Nat) ({ cls := "HoopCabinet$Floor", name := "companyOf", desc := "(II)I" } : Jvm.MethodName)) ∈ lw_tbl := List.mem_append_right _ (List.mem_of_getElem? (i := 699) (by decide +kernel))
theorem k_597 : (Jvm.Cond.methodLink "HoopCabinet" (175 : Nat) ({ cls := "HoopCabinet", name := "hasBit", desc := "(II)Z" } : Jvm.MethodName)) ∈ lw_tbl := List.mem_append_right _ (List.mem_of_getElem? (i := 597) (by decide +kernel))
theorem k_710 : (Jvm.Cond.code ({ cls := "HoopCabinet$Floor", name := "meetingsOf", desc := "(II)I" } : Jvm.MethodName) prog_4_method_23_code (5 : Nat) (Option.some Jvm.ClassFile.FieldType.int)) ∈ lw_tbl := List.mem_append_right _ (List.mem_of_getElem? (i := 710) (by decide +kernel))
theorem k_707 : (Jvm.Cond.methodLink "HoopCabinet" (178 : Nat) ({ cls := "HoopCabinet$Floor", name := "meetingsOf", desc := "(II)I" } : Jvm.MethodName)) ∈ lw_tbl := List.mem_append_right _ (List.mem_of_getElem? (i := 707) (by decide +kernel))
theorem k_708 : (Jvm.Cond.instanceMethod ({ cls := "HoopCabinet$Floor", name := "meetingsOf", desc := "(II)I" } : Jvm.MethodName)) ∈ lw_tbl := List.mem_append_right _ (List.mem_of_getElem? (i := 708) (by decide +kernel))
theorem k_709 : (Jvm.Cond.selects "HoopCabinet$Floor" ({ cls := "HoopCabinet$Floor", name := "meetingsOf", desc := "(II)I" } : Jvm.MethodName) ({ cls := "HoopCabinet$Floor", name := "meetingsOf", desc := "(II)I" } : Jvm.MethodName)) ∈ lw_tbl := List.mem_append_right _ (List.mem_of_getElem? (i := 709) (by decide +kernel))
theorem k_719 : (Jvm.Cond.code ({ cls := "HoopCabinet$Floor", name := "friendsOf", desc := "(I)I" } : Jvm.MethodName) prog_4_method_24_code (4 : Nat) (Option.some Jvm.ClassFile.FieldType.int)) ∈ lw_tbl := List.mem_append_right _ (List.mem_of_getElem? (i := 719) (by decide +kernel))
theorem k_716 : (Jvm.Cond.methodLink "HoopCabinet" (181 : Nat) ({ cls := "HoopCabinet$Floor", name := "friendsOf", desc := "(I)I" } : Jvm.MethodName)) ∈ lw_tbl := List.mem_append_right _ (List.mem_of_getElem? (i := 716) (by decide +kernel))
theorem k_717 : (Jvm.Cond.instanceMethod ({ cls := "HoopCabinet$Floor", name := "friendsOf", desc := "(I)I" } : Jvm.MethodName)) ∈ lw_tbl := List.mem_append_right _ (List.mem_of_getElem? (i := 717) (by decide +kernel))
theorem k_718 : (Jvm.Cond.selects "HoopCabinet$Floor" ({ cls := "HoopCabinet$Floor", name := "friendsOf", desc := "(I)I" } : Jvm.MethodName) ({ cls := "HoopCabinet$Floor", name := "friendsOf", desc := "(I)I" } : Jvm.MethodName)) ∈ lw_tbl := List.mem_append_right _ (List.mem_of_getElem? (i := 718) (by decide +kernel))
theorem k_724 : (Jvm.Cond.methodLink "HoopCabinet" (184 : Nat) ({ cls := "HoopCabinet$Ball", name := "isTold", desc := "()Z" } : Jvm.MethodName)) ∈ lw_tbl := List.mem_append_right _ (List.mem_of_getElem? (i := 724) (by decide +kernel))
theorem k_728 : (Jvm.Cond.code ({ cls := "HoopCabinet", name := "fullest", desc := "(I)I" } : Jvm.MethodName) prog_1_method_23_code (4 : Nat) (Option.some Jvm.ClassFile.FieldType.int)) ∈ lw_tbl := List.mem_append_right _ (List.mem_of_getElem? (i := 728) (by decide +kernel))
theorem k_725 : (Jvm.Cond.methodLink "HoopCabinet" (188 : Nat) ({ cls := "HoopCabinet", name := "fullest", desc := "(I)I" } : Jvm.MethodName)) ∈ lw_tbl := List.mem_append_right _ (List.mem_of_getElem? (i := 725) (by decide +kernel))
theorem k_727 : (Jvm.Cond.instanceMethod ({ cls := "HoopCabinet", name := "fullest", desc := "(I)I" } : Jvm.MethodName)) ∈ lw_tbl := List.mem_append_right _ (List.mem_of_getElem? (i := 727) (by decide +kernel))
theorem ks_23 : Cond.selects "HoopCabinet" ({ cls := "HoopCabinet", name := "fullest", desc := "(I)I" } : Jvm.MethodName) ({ cls := "HoopCabinet", name := "fullest", desc := "(I)I" } : Jvm.MethodName) ∈ lw_tbl := List.mem_append_left _ (List.mem_of_getElem? (i := 23) (by decide +kernel))
theorem k_735 : (Jvm.Cond.methodLink "HoopCabinet" (191 : Nat) ({ cls := "java/lang/Math", name := "max", desc := "(II)I" } : Jvm.MethodName)) ∈ lw_tbl := List.mem_append_right _ (List.mem_of_getElem? (i := 735) (by decide +kernel))
theorem k_723 : (Jvm.Cond.code ({ cls := "HoopCabinet", name := "crush", desc := "()I" } : Jvm.MethodName) prog_1_method_21_code (3 : Nat) (Option.some Jvm.ClassFile.FieldType.int)) ∈ lw_tbl := List.mem_append_right _ (List.mem_of_getElem? (i := 723) (by decide +kernel))
theorem k_740 : (Jvm.Cond.methodLink "HoopCabinet" (196 : Nat) ({ cls := "HoopCabinet", name := "crush", desc := "()I" } : Jvm.MethodName)) ∈ lw_tbl := List.mem_append_right _ (List.mem_of_getElem? (i := 740) (by decide +kernel))
theorem k_721 : (Jvm.Cond.instanceMethod ({ cls := "HoopCabinet", name := "crush", desc := "()I" } : Jvm.MethodName)) ∈ lw_tbl := List.mem_append_right _ (List.mem_of_getElem? (i := 721) (by decide +kernel))
theorem k_722 : (Jvm.Cond.selects "HoopCabinet" ({ cls := "HoopCabinet", name := "crush", desc := "()I" } : Jvm.MethodName) ({ cls := "HoopCabinet", name := "crush", desc := "()I" } : Jvm.MethodName)) ∈ lw_tbl := List.mem_append_right _ (List.mem_of_getElem? (i := 722) (by decide +kernel))
theorem k_52 : (Jvm.Cond.fieldLinkNest "HoopCabinet" (200 : Nat) "HoopCabinet$Table" "rows" "I" "HoopCabinet") ∈ lw_tbl := List.mem_append_right _ (List.mem_of_getElem? (i := 52) (by decide +kernel))
theorem k_729 : (Jvm.Cond.methodLink "HoopCabinet" (203 : Nat) ({ cls := "java/lang/Integer", name := "bitCount", desc := "(I)I" } : Jvm.MethodName)) ∈ lw_tbl := List.mem_append_right _ (List.mem_of_getElem? (i := 729) (by decide +kernel))
theorem k_70 : (Jvm.Cond.fieldLinkNest "HoopCabinet" (208 : Nat) "HoopCabinet$Ball" "rooms" "I" "HoopCabinet") ∈ lw_tbl := List.mem_append_right _ (List.mem_of_getElem? (i := 70) (by decide +kernel))
theorem k_748 : (Jvm.Cond.code ({ cls := "HoopCabinet$Floor", name := "dancesIn", desc := "(II)I" } : Jvm.MethodName) prog_4_method_21_code (5 : Nat) (Option.some Jvm.ClassFile.FieldType.int)) ∈ lw_tbl := List.mem_append_right _ (List.mem_of_getElem? (i := 748) (by decide +kernel))
theorem k_745 : (Jvm.Cond.methodLink "HoopCabinet" (211 : Nat) ({ cls := "HoopCabinet$Floor", name := "dancesIn", desc := "(II)I" } : Jvm.MethodName)) ∈ lw_tbl := List.mem_append_right _ (List.mem_of_getElem? (i := 745) (by decide +kernel))
theorem k_746 : (Jvm.Cond.instanceMethod ({ cls := "HoopCabinet$Floor", name := "dancesIn", desc := "(II)I" } : Jvm.MethodName)) ∈ lw_tbl := List.mem_append_right _ (List.mem_of_getElem? (i := 746) (by decide +kernel))
theorem k_747 : (Jvm.Cond.selects "HoopCabinet$Floor" ({ cls := "HoopCabinet$Floor", name := "dancesIn", desc := "(II)I" } : Jvm.MethodName) ({ cls := "HoopCabinet$Floor", name := "dancesIn", desc := "(II)I" } : Jvm.MethodName)) ∈ lw_tbl := List.mem_append_right _ (List.mem_of_getElem? (i := 747) (by decide +kernel))
theorem k_78 : (Jvm.Cond.fieldLinkNest "HoopCabinet" (214 : Nat) "HoopCabinet$Ball" "law" "I" "HoopCabinet") ∈ lw_tbl := List.mem_append_right _ (List.mem_of_getElem? (i := 78) (by decide +kernel))
theorem k_784 : (Jvm.Cond.code ({ cls := "HoopCabinet$Notes", name := "prepare", desc := "(LHoopCabinet$Ball;II)V" } : Jvm.MethodName) prog_7_method_2_code (6 : Nat) (Option.none : Option Jvm.ClassFile.FieldType)) ∈ lw_tbl := List.mem_append_right _ (List.mem_of_getElem? (i := 784) (by decide +kernel))
theorem k_781 : (Jvm.Cond.methodLink "HoopCabinet" (217 : Nat) ({ cls := "HoopCabinet$Notes", name := "prepare", desc := "(LHoopCabinet$Ball;II)V" } : Jvm.MethodName)) ∈ lw_tbl := List.mem_append_right _ (List.mem_of_getElem? (i := 781) (by decide +kernel))
theorem k_782 : (Jvm.Cond.instanceMethod ({ cls := "HoopCabinet$Notes", name := "prepare", desc := "(LHoopCabinet$Ball;II)V" } : Jvm.MethodName)) ∈ lw_tbl := List.mem_append_right _ (List.mem_of_getElem? (i := 782) (by decide +kernel))
theorem k_783 : (Jvm.Cond.selects "HoopCabinet$Notes" ({ cls := "HoopCabinet$Notes", name := "prepare", desc := "(LHoopCabinet$Ball;II)V" } : Jvm.MethodName) ({ cls := "HoopCabinet$Notes", name := "prepare", desc := "(LHoopCabinet$Ball;II)V" } : Jvm.MethodName)) ∈ lw_tbl := List.mem_append_right _ (List.mem_of_getElem? (i := 783) (by decide +kernel))
theorem k_802 : (Jvm.Cond.code ({ cls := "HoopCabinet$Notes", name := "follow", desc := "(LHoopCabinet$Floor;II)V" } : Jvm.MethodName) prog_7_method_5_code (6 : Nat) (Option.none : Option Jvm.ClassFile.FieldType)) ∈ lw_tbl := List.mem_append_right _ (List.mem_of_getElem? (i := 802) (by decide +kernel))
theorem k_799 : (Jvm.Cond.methodLink "HoopCabinet" (220 : Nat) ({ cls := "HoopCabinet$Notes", name := "follow", desc := "(LHoopCabinet$Floor;II)V" } : Jvm.MethodName)) ∈ lw_tbl := List.mem_append_right _ (List.mem_of_getElem? (i := 799) (by decide +kernel))
theorem k_800 : (Jvm.Cond.instanceMethod ({ cls := "HoopCabinet$Notes", name := "follow", desc := "(LHoopCabinet$Floor;II)V" } : Jvm.MethodName)) ∈ lw_tbl := List.mem_append_right _ (List.mem_of_getElem? (i := 800) (by decide +kernel))
theorem k_801 : (Jvm.Cond.selects "HoopCabinet$Notes" ({ cls := "HoopCabinet$Notes", name := "follow", desc := "(LHoopCabinet$Floor;II)V" } : Jvm.MethodName) ({ cls := "HoopCabinet$Notes", name := "follow", desc := "(LHoopCabinet$Floor;II)V" } : Jvm.MethodName)) ∈ lw_tbl := List.mem_append_right _ (List.mem_of_getElem? (i := 801) (by decide +kernel))
theorem k_809 : (Jvm.Cond.methodLink "HoopCabinet" (224 : Nat) ({ cls := "HoopCabinet$Notes", name := "behind", desc := "(I)I" } : Jvm.MethodName)) ∈ lw_tbl := List.mem_append_right _ (List.mem_of_getElem? (i := 809) (by decide +kernel))
theorem k_780 : (Jvm.Cond.code ({ cls := "HoopCabinet", name := "passAsTold", desc := "()V" } : Jvm.MethodName) prog_1_method_31_code (1 : Nat) (Option.none : Option Jvm.ClassFile.FieldType)) ∈ lw_tbl := List.mem_append_right _ (List.mem_of_getElem? (i := 780) (by decide +kernel))
theorem k_777 : (Jvm.Cond.methodLink "HoopCabinet" (227 : Nat) ({ cls := "HoopCabinet", name := "passAsTold", desc := "()V" } : Jvm.MethodName)) ∈ lw_tbl := List.mem_append_right _ (List.mem_of_getElem? (i := 777) (by decide +kernel))
theorem k_779 : (Jvm.Cond.instanceMethod ({ cls := "HoopCabinet", name := "passAsTold", desc := "()V" } : Jvm.MethodName)) ∈ lw_tbl := List.mem_append_right _ (List.mem_of_getElem? (i := 779) (by decide +kernel))
theorem ks_24 : Cond.selects "HoopCabinet" ({ cls := "HoopCabinet", name := "passAsTold", desc := "()V" } : Jvm.MethodName) ({ cls := "HoopCabinet", name := "passAsTold", desc := "()V" } : Jvm.MethodName) ∈ lw_tbl := List.mem_append_left _ (List.mem_of_getElem? (i := 24) (by decide +kernel))
theorem k_798 : (Jvm.Cond.code ({ cls := "HoopCabinet", name := "inTheEnd", desc := "(LHoopCabinet$Floor;I)I" } : Jvm.MethodName) prog_1_method_32_code (3 : Nat) (Option.some Jvm.ClassFile.FieldType.int)) ∈ lw_tbl := List.mem_append_right _ (List.mem_of_getElem? (i := 798) (by decide +kernel))
theorem k_795 : (Jvm.Cond.methodLink "HoopCabinet" (230 : Nat) ({ cls := "HoopCabinet", name := "inTheEnd", desc := "(LHoopCabinet$Floor;I)I" } : Jvm.MethodName)) ∈ lw_tbl := List.mem_append_right _ (List.mem_of_getElem? (i := 795) (by decide +kernel))
theorem k_797 : (Jvm.Cond.instanceMethod ({ cls := "HoopCabinet", name := "inTheEnd", desc := "(LHoopCabinet$Floor;I)I" } : Jvm.MethodName)) ∈ lw_tbl := List.mem_append_right _ (List.mem_of_getElem? (i := 797) (by decide +kernel))
theorem ks_26 : Cond.selects "HoopCabinet" ({ cls := "HoopCabinet", name := "inTheEnd", desc := "(LHoopCabinet$Floor;I)I" } : Jvm.MethodName) ({ cls := "HoopCabinet", name := "inTheEnd", desc := "(LHoopCabinet$Floor;I)I" } : Jvm.MethodName) ∈ lw_tbl := List.mem_append_left _ (List.mem_of_getElem? (i := 26) (by decide +kernel))
theorem k_820 : (Jvm.Cond.code ({ cls := "HoopCabinet$Notes", name := "giverOf", desc := "(LHoopCabinet$Floor;I)I" } : Jvm.MethodName) prog_7_method_9_code (5 : Nat) (Option.some Jvm.ClassFile.FieldType.int)) ∈ lw_tbl := List.mem_append_right _ (List.mem_of_getElem? (i := 820) (by decide +kernel))
theorem k_817 : (Jvm.Cond.methodLink "HoopCabinet" (234 : Nat) ({ cls := "HoopCabinet$Notes", name := "giverOf", desc := "(LHoopCabinet$Floor;I)I" } : Jvm.MethodName)) ∈ lw_tbl := List.mem_append_right _ (List.mem_of_getElem? (i := 817) (by decide +kernel))
theorem k_818 : (Jvm.Cond.instanceMethod ({ cls := "HoopCabinet$Notes", name := "giverOf", desc := "(LHoopCabinet$Floor;I)I" } : Jvm.MethodName)) ∈ lw_tbl := List.mem_append_right _ (List.mem_of_getElem? (i := 818) (by decide +kernel))
theorem k_819 : (Jvm.Cond.selects "HoopCabinet$Notes" ({ cls := "HoopCabinet$Notes", name := "giverOf", desc := "(LHoopCabinet$Floor;I)I" } : Jvm.MethodName) ({ cls := "HoopCabinet$Notes", name := "giverOf", desc := "(LHoopCabinet$Floor;I)I" } : Jvm.MethodName)) ∈ lw_tbl := List.mem_append_right _ (List.mem_of_getElem? (i := 819) (by decide +kernel))
theorem k_838 : (Jvm.Cond.methodLink "HoopCabinet" (237 : Nat) ({ cls := "HoopCabinet$Notes", name := "gotAt", desc := "(I)I" } : Jvm.MethodName)) ∈ lw_tbl := List.mem_append_right _ (List.mem_of_getElem? (i := 838) (by decide +kernel))
theorem k_847 : (Jvm.Cond.methodLink "HoopCabinet" (240 : Nat) ({ cls := "HoopCabinet$Ball", name := "everybody", desc := "()I" } : Jvm.MethodName)) ∈ lw_tbl := List.mem_append_right _ (List.mem_of_getElem? (i := 847) (by decide +kernel))
theorem k_874 : (Jvm.Cond.code ({ cls := "HoopCabinet$Carrier", name := "prepare", desc := "(LHoopCabinet$Floor;LHoopCabinet$Notes;II)V" } : Jvm.MethodName) prog_3_method_2_code (6 : Nat) (Option.none : Option Jvm.ClassFile.FieldType)) ∈ lw_tbl := List.mem_append_right _ (List.mem_of_getElem? (i := 874) (by decide +kernel))
theorem k_871 : (Jvm.Cond.methodLink "HoopCabinet" (243 : Nat) ({ cls := "HoopCabinet$Carrier", name := "prepare", desc := "(LHoopCabinet$Floor;LHoopCabinet$Notes;II)V" } : Jvm.MethodName)) ∈ lw_tbl := List.mem_append_right _ (List.mem_of_getElem? (i := 871) (by decide +kernel))
theorem k_872 : (Jvm.Cond.instanceMethod ({ cls := "HoopCabinet$Carrier", name := "prepare", desc := "(LHoopCabinet$Floor;LHoopCabinet$Notes;II)V" } : Jvm.MethodName)) ∈ lw_tbl := List.mem_append_right _ (List.mem_of_getElem? (i := 872) (by decide +kernel))
theorem k_873 : (Jvm.Cond.selects "HoopCabinet$Carrier" ({ cls := "HoopCabinet$Carrier", name := "prepare", desc := "(LHoopCabinet$Floor;LHoopCabinet$Notes;II)V" } : Jvm.MethodName) ({ cls := "HoopCabinet$Carrier", name := "prepare", desc := "(LHoopCabinet$Floor;LHoopCabinet$Notes;II)V" } : Jvm.MethodName)) ∈ lw_tbl := List.mem_append_right _ (List.mem_of_getElem? (i := 873) (by decide +kernel))
theorem k_884 : (Jvm.Cond.code ({ cls := "HoopCabinet$Carrier", name := "soonest", desc := "(LHoopCabinet$Floor;)I" } : Jvm.MethodName) prog_3_method_4_code (4 : Nat) (Option.some Jvm.ClassFile.FieldType.int)) ∈ lw_tbl := List.mem_append_right _ (List.mem_of_getElem? (i := 884) (by decide +kernel))
theorem k_881 : (Jvm.Cond.methodLink "HoopCabinet" (246 : Nat) ({ cls := "HoopCabinet$Carrier", name := "soonest", desc := "(LHoopCabinet$Floor;)I" } : Jvm.MethodName)) ∈ lw_tbl := List.mem_append_right _ (List.mem_of_getElem? (i := 881) (by decide +kernel))
theorem k_882 : (Jvm.Cond.instanceMethod ({ cls := "HoopCabinet$Carrier", name := "soonest", desc := "(LHoopCabinet$Floor;)I" } : Jvm.MethodName)) ∈ lw_tbl := List.mem_append_right _ (List.mem_of_getElem? (i := 882) (by decide +kernel))
theorem k_883 : (Jvm.Cond.selects "HoopCabinet$Carrier" ({ cls := "HoopCabinet$Carrier", name := "soonest", desc := "(LHoopCabinet$Floor;)I" } : Jvm.MethodName) ({ cls := "HoopCabinet$Carrier", name := "soonest", desc := "(LHoopCabinet$Floor;)I" } : Jvm.MethodName)) ∈ lw_tbl := List.mem_append_right _ (List.mem_of_getElem? (i := 883) (by decide +kernel))
theorem k_870 : (Jvm.Cond.code ({ cls := "HoopCabinet", name := "carry", desc := "(III)I" } : Jvm.MethodName) prog_1_method_43_code (4 : Nat) (Option.some Jvm.ClassFile.FieldType.int)) ∈ lw_tbl := List.mem_append_right _ (List.mem_of_getElem? (i := 870) (by decide +kernel))
theorem k_898 : (Jvm.Cond.methodLink "HoopCabinet" (250 : Nat) ({ cls := "HoopCabinet", name := "carry", desc := "(III)I" } : Jvm.MethodName)) ∈ lw_tbl := List.mem_append_right _ (List.mem_of_getElem? (i := 898) (by decide +kernel))
theorem k_868 : (Jvm.Cond.instanceMethod ({ cls := "HoopCabinet", name := "carry", desc := "(III)I" } : Jvm.MethodName)) ∈ lw_tbl := List.mem_append_right _ (List.mem_of_getElem? (i := 868) (by decide +kernel))
theorem k_869 : (Jvm.Cond.selects "HoopCabinet" ({ cls := "HoopCabinet", name := "carry", desc := "(III)I" } : Jvm.MethodName) ({ cls := "HoopCabinet", name := "carry", desc := "(III)I" } : Jvm.MethodName)) ∈ lw_tbl := List.mem_append_right _ (List.mem_of_getElem? (i := 869) (by decide +kernel))
theorem k_902 : (Jvm.Cond.code ({ cls := "HoopCabinet$Carrier", name := "roomAt", desc := "(LHoopCabinet$Floor;II)I" } : Jvm.MethodName) prog_3_method_7_code (9 : Nat) (Option.some Jvm.ClassFile.FieldType.int)) ∈ lw_tbl := List.mem_append_right _ (List.mem_of_getElem? (i := 902) (by decide +kernel))
theorem k_899 : (Jvm.Cond.methodLink "HoopCabinet" (253 : Nat) ({ cls := "HoopCabinet$Carrier", name := "roomAt", desc := "(LHoopCabinet$Floor;II)I" } : Jvm.MethodName)) ∈ lw_tbl := List.mem_append_right _ (List.mem_of_getElem? (i := 899) (by decide +kernel))
theorem k_900 : (Jvm.Cond.instanceMethod ({ cls := "HoopCabinet$Carrier", name := "roomAt", desc := "(LHoopCabinet$Floor;II)I" } : Jvm.MethodName)) ∈ lw_tbl := List.mem_append_right _ (List.mem_of_getElem? (i := 900) (by decide +kernel))
theorem k_901 : (Jvm.Cond.selects "HoopCabinet$Carrier" ({ cls := "HoopCabinet$Carrier", name := "roomAt", desc := "(LHoopCabinet$Floor;II)I" } : Jvm.MethodName) ({ cls := "HoopCabinet$Carrier", name := "roomAt", desc := "(LHoopCabinet$Floor;II)I" } : Jvm.MethodName)) ∈ lw_tbl := List.mem_append_right _ (List.mem_of_getElem? (i := 901) (by decide +kernel))
theorem k_909 : (Jvm.Cond.methodLink "HoopCabinet" (257 : Nat) ({ cls := "HoopCabinet$Table", name := "has", desc := "(I)Z" } : Jvm.MethodName)) ∈ lw_tbl := List.mem_append_right _ (List.mem_of_getElem? (i := 909) (by decide +kernel))
theorem k_918 : (Jvm.Cond.methodLink "HoopCabinet" (260 : Nat) ({ cls := "HoopCabinet$Floor", name := "openDoors", desc := "(LHoopCabinet$Ball;II)V" } : Jvm.MethodName)) ∈ lw_tbl := List.mem_append_right _ (List.mem_of_getElem? (i := 918) (by decide +kernel))
theorem k_926 : (Jvm.Cond.code ({ cls := "HoopCabinet", name := "seenFault", desc := "(I)I" } : Jvm.MethodName) prog_1_method_51_code (4 : Nat) (Option.some Jvm.ClassFile.FieldType.int)) ∈ lw_tbl := List.mem_append_right _ (List.mem_of_getElem? (i := 926) (by decide +kernel))
theorem k_923 : (Jvm.Cond.methodLink "HoopCabinet" (263 : Nat) ({ cls := "HoopCabinet", name := "seenFault", desc := "(I)I" } : Jvm.MethodName)) ∈ lw_tbl := List.mem_append_right _ (List.mem_of_getElem? (i := 923) (by decide +kernel))
theorem k_925 : (Jvm.Cond.instanceMethod ({ cls := "HoopCabinet", name := "seenFault", desc := "(I)I" } : Jvm.MethodName)) ∈ lw_tbl := List.mem_append_right _ (List.mem_of_getElem? (i := 925) (by decide +kernel))
theorem ks_29 : Cond.selects "HoopCabinet" ({ cls := "HoopCabinet", name := "seenFault", desc := "(I)I" } : Jvm.MethodName) ({ cls := "HoopCabinet", name := "seenFault", desc := "(I)I" } : Jvm.MethodName) ∈ lw_tbl := List.mem_append_left _ (List.mem_of_getElem? (i := 29) (by decide +kernel))
theorem k_946 : (Jvm.Cond.code ({ cls := "HoopCabinet", name := "possibleFirsts", desc := "(LHoopCabinet$Slot;)I" } : Jvm.MethodName) prog_1_method_53_code (4 : Nat) (Option.some Jvm.ClassFile.FieldType.int)) ∈ lw_tbl := List.mem_append_right _ (List.mem_of_getElem? (i := 946) (by decide +kernel))
theorem k_943 : (Jvm.Cond.methodLink "HoopCabinet" (266 : Nat) ({ cls := "HoopCabinet", name := "possibleFirsts", desc := "(LHoopCabinet$Slot;)I" } : Jvm.MethodName)) ∈ lw_tbl := List.mem_append_right _ (List.mem_of_getElem? (i := 943) (by decide +kernel))
theorem k_945 : (Jvm.Cond.instanceMethod ({ cls := "HoopCabinet", name := "possibleFirsts", desc := "(LHoopCabinet$Slot;)I" } : Jvm.MethodName)) ∈ lw_tbl := List.mem_append_right _ (List.mem_of_getElem? (i := 945) (by decide +kernel))
theorem ks_31 : Cond.selects "HoopCabinet" ({ cls := "HoopCabinet", name := "possibleFirsts", desc := "(LHoopCabinet$Slot;)I" } : Jvm.MethodName) ({ cls := "HoopCabinet", name := "possibleFirsts", desc := "(LHoopCabinet$Slot;)I" } : Jvm.MethodName) ∈ lw_tbl := List.mem_append_left _ (List.mem_of_getElem? (i := 31) (by decide +kernel))
theorem k_958 : (Jvm.Cond.code ({ cls := "HoopCabinet", name := "bestAsked", desc := "(I)I" } : Jvm.MethodName) prog_1_method_55_code (6 : Nat) (Option.some Jvm.ClassFile.FieldType.int)) ∈ lw_tbl := List.mem_append_right _ (List.mem_of_getElem? (i := 958) (by decide +kernel))
theorem k_955 : (Jvm.Cond.methodLink "HoopCabinet" (270 : Nat) ({ cls := "HoopCabinet", name := "bestAsked", desc := "(I)I" } : Jvm.MethodName)) ∈ lw_tbl := List.mem_append_right _ (List.mem_of_getElem? (i := 955) (by decide +kernel))
theorem k_957 : (Jvm.Cond.instanceMethod ({ cls := "HoopCabinet", name := "bestAsked", desc := "(I)I" } : Jvm.MethodName)) ∈ lw_tbl := List.mem_append_right _ (List.mem_of_getElem? (i := 957) (by decide +kernel))
theorem ks_33 : Cond.selects "HoopCabinet" ({ cls := "HoopCabinet", name := "bestAsked", desc := "(I)I" } : Jvm.MethodName) ({ cls := "HoopCabinet", name := "bestAsked", desc := "(I)I" } : Jvm.MethodName) ∈ lw_tbl := List.mem_append_left _ (List.mem_of_getElem? (i := 33) (by decide +kernel))
theorem k_962 : (Jvm.Cond.code ({ cls := "HoopCabinet", name := "leftAtWorst", desc := "(II)I" } : Jvm.MethodName) prog_1_method_56_code (6 : Nat) (Option.some Jvm.ClassFile.FieldType.int)) ∈ lw_tbl := List.mem_append_right _ (List.mem_of_getElem? (i := 962) (by decide +kernel))
theorem k_959 : (Jvm.Cond.methodLink "HoopCabinet" (273 : Nat) ({ cls := "HoopCabinet", name := "leftAtWorst", desc := "(II)I" } : Jvm.MethodName)) ∈ lw_tbl := List.mem_append_right _ (List.mem_of_getElem? (i := 959) (by decide +kernel))
theorem k_961 : (Jvm.Cond.instanceMethod ({ cls := "HoopCabinet", name := "leftAtWorst", desc := "(II)I" } : Jvm.MethodName)) ∈ lw_tbl := List.mem_append_right _ (List.mem_of_getElem? (i := 961) (by decide +kernel))
theorem ks_34 : Cond.selects "HoopCabinet" ({ cls := "HoopCabinet", name := "leftAtWorst", desc := "(II)I" } : Jvm.MethodName) ({ cls := "HoopCabinet", name := "leftAtWorst", desc := "(II)I" } : Jvm.MethodName) ∈ lw_tbl := List.mem_append_left _ (List.mem_of_getElem? (i := 34) (by decide +kernel))
theorem k_929 : (Jvm.Cond.code ({ cls := "HoopCabinet", name := "isSlot", desc := "(I)Z" } : Jvm.MethodName) prog_1_method_92_code (1 : Nat) (Option.some Jvm.ClassFile.FieldType.boolean)) ∈ lw_tbl := List.mem_append_right _ (List.mem_of_getElem? (i := 929) (by decide +kernel))
theorem k_927 : (Jvm.Cond.methodLink "HoopCabinet" (276 : Nat) ({ cls := "HoopCabinet", name := "isSlot", desc := "(I)Z" } : Jvm.MethodName)) ∈ lw_tbl := List.mem_append_right _ (List.mem_of_getElem? (i := 927) (by decide +kernel))
theorem k_928 : (Jvm.Cond.static ({ cls := "HoopCabinet", name := "isSlot", desc := "(I)Z" } : Jvm.MethodName)) ∈ lw_tbl := List.mem_append_right _ (List.mem_of_getElem? (i := 928) (by decide +kernel))
theorem k_933 : (Jvm.Cond.code ({ cls := "HoopCabinet$Slot", name := "isBare", desc := "()Z" } : Jvm.MethodName) prog_9_method_2_code (1 : Nat) (Option.some Jvm.ClassFile.FieldType.boolean)) ∈ lw_tbl := List.mem_append_right _ (List.mem_of_getElem? (i := 933) (by decide +kernel))
theorem k_930 : (Jvm.Cond.methodLink "HoopCabinet" (279 : Nat) ({ cls := "HoopCabinet$Slot", name := "isBare", desc := "()Z" } : Jvm.MethodName)) ∈ lw_tbl := List.mem_append_right _ (List.mem_of_getElem? (i := 930) (by decide +kernel))
theorem k_931 : (Jvm.Cond.instanceMethod ({ cls := "HoopCabinet$Slot", name := "isBare", desc := "()Z" } : Jvm.MethodName)) ∈ lw_tbl := List.mem_append_right _ (List.mem_of_getElem? (i := 931) (by decide +kernel))
theorem k_932 : (Jvm.Cond.selects "HoopCabinet$Slot" ({ cls := "HoopCabinet$Slot", name := "isBare", desc := "()Z" } : Jvm.MethodName) ({ cls := "HoopCabinet$Slot", name := "isBare", desc := "()Z" } : Jvm.MethodName)) ∈ lw_tbl := List.mem_append_right _ (List.mem_of_getElem? (i := 932) (by decide +kernel))
theorem k_169 : (Jvm.Cond.fieldLinkNest "HoopCabinet" (282 : Nat) "HoopCabinet$Slot" "size" "I" "HoopCabinet") ∈ lw_tbl := List.mem_append_right _ (List.mem_of_getElem? (i := 169) (by decide +kernel))
theorem k_937 : (Jvm.Cond.code ({ cls := "HoopCabinet$Slot", name := "cell", desc := "(I)J" } : Jvm.MethodName) prog_9_method_4_code (2 : Nat) (Option.some Jvm.ClassFile.FieldType.long)) ∈ lw_tbl := List.mem_append_right _ (List.mem_of_getElem? (i := 937) (by decide +kernel))
theorem k_934 : (Jvm.Cond.methodLink "HoopCabinet" (285 : Nat) ({ cls := "HoopCabinet$Slot", name := "cell", desc := "(I)J" } : Jvm.MethodName)) ∈ lw_tbl := List.mem_append_right _ (List.mem_of_getElem? (i := 934) (by decide +kernel))
theorem k_935 : (Jvm.Cond.instanceMethod ({ cls := "HoopCabinet$Slot", name := "cell", desc := "(I)J" } : Jvm.MethodName)) ∈ lw_tbl := List.mem_append_right _ (List.mem_of_getElem? (i := 935) (by decide +kernel))
theorem k_936 : (Jvm.Cond.selects "HoopCabinet$Slot" ({ cls := "HoopCabinet$Slot", name := "cell", desc := "(I)J" } : Jvm.MethodName) ({ cls := "HoopCabinet$Slot", name := "cell", desc := "(I)J" } : Jvm.MethodName)) ∈ lw_tbl := List.mem_append_right _ (List.mem_of_getElem? (i := 936) (by decide +kernel))
theorem k_942 : (Jvm.Cond.code ({ cls := "HoopCabinet", name := "isSighting", desc := "(JJJ)Z" } : Jvm.MethodName) prog_1_method_52_code (7 : Nat) (Option.some Jvm.ClassFile.FieldType.boolean)) ∈ lw_tbl := List.mem_append_right _ (List.mem_of_getElem? (i := 942) (by decide +kernel))
theorem k_939 : (Jvm.Cond.methodLink "HoopCabinet" (288 : Nat) ({ cls := "HoopCabinet", name := "isSighting", desc := "(JJJ)Z" } : Jvm.MethodName)) ∈ lw_tbl := List.mem_append_right _ (List.mem_of_getElem? (i := 939) (by decide +kernel))
theorem k_941 : (Jvm.Cond.instanceMethod ({ cls := "HoopCabinet", name := "isSighting", desc := "(JJJ)Z" } : Jvm.MethodName)) ∈ lw_tbl := List.mem_append_right _ (List.mem_of_getElem? (i := 941) (by decide +kernel))
theorem ks_30 : Cond.selects "HoopCabinet" ({ cls := "HoopCabinet", name := "isSighting", desc := "(JJJ)Z" } : Jvm.MethodName) ({ cls := "HoopCabinet", name := "isSighting", desc := "(JJJ)Z" } : Jvm.MethodName) ∈ lw_tbl := List.mem_append_left _ (List.mem_of_getElem? (i := 30) (by decide +kernel))
theorem k_950 : (Jvm.Cond.code ({ cls := "HoopCabinet", name := "agrees", desc := "(LHoopCabinet$Slot;)Z" } : Jvm.MethodName) prog_1_method_54_code (4 : Nat) (Option.some Jvm.ClassFile.FieldType.boolean)) ∈ lw_tbl := List.mem_append_right _ (List.mem_of_getElem? (i := 950) (by decide +kernel))
theorem k_947 : (Jvm.Cond.methodLink "HoopCabinet" (292 : Nat) ({ cls := "HoopCabinet", name := "agrees", desc := "(LHoopCabinet$Slot;)Z" } : Jvm.MethodName)) ∈ lw_tbl := List.mem_append_right _ (List.mem_of_getElem? (i := 947) (by decide +kernel))
theorem k_949 : (Jvm.Cond.instanceMethod ({ cls := "HoopCabinet", name := "agrees", desc := "(LHoopCabinet$Slot;)Z" } : Jvm.MethodName)) ∈ lw_tbl := List.mem_append_right _ (List.mem_of_getElem? (i := 949) (by decide +kernel))
theorem ks_32 : Cond.selects "HoopCabinet" ({ cls := "HoopCabinet", name := "agrees", desc := "(LHoopCabinet$Slot;)Z" } : Jvm.MethodName) ({ cls := "HoopCabinet", name := "agrees", desc := "(LHoopCabinet$Slot;)Z" } : Jvm.MethodName) ∈ lw_tbl := List.mem_append_left _ (List.mem_of_getElem? (i := 32) (by decide +kernel))
theorem k_963 : (Jvm.Cond.methodLink "HoopCabinet" (296 : Nat) ({ cls := "java/util/Arrays", name := "fill", desc := "([II)V" } : Jvm.MethodName)) ∈ lw_tbl := List.mem_append_right _ (List.mem_of_getElem? (i := 963) (by decide +kernel))
theorem k_972 : (Jvm.Cond.methodLink "HoopCabinet" (302 : Nat) ({ cls := "HoopCabinet$Ball", name := "seatsUnder", desc := "(I)I" } : Jvm.MethodName)) ∈ lw_tbl := List.mem_append_right _ (List.mem_of_getElem? (i := 972) (by decide +kernel))
theorem k_980 : (Jvm.Cond.code ({ cls := "HoopCabinet$Ball", name := "ministersUnder", desc := "(I)I" } : Jvm.MethodName) prog_2_method_10_code (4 : Nat) (Option.some Jvm.ClassFile.FieldType.int)) ∈ lw_tbl := List.mem_append_right _ (List.mem_of_getElem? (i := 980) (by decide +kernel))
theorem k_977 : (Jvm.Cond.methodLink "HoopCabinet" (305 : Nat) ({ cls := "HoopCabinet$Ball", name := "ministersUnder", desc := "(I)I" } : Jvm.MethodName)) ∈ lw_tbl := List.mem_append_right _ (List.mem_of_getElem? (i := 977) (by decide +kernel))
theorem k_978 : (Jvm.Cond.instanceMethod ({ cls := "HoopCabinet$Ball", name := "ministersUnder", desc := "(I)I" } : Jvm.MethodName)) ∈ lw_tbl := List.mem_append_right _ (List.mem_of_getElem? (i := 978) (by decide +kernel))
theorem k_979 : (Jvm.Cond.selects "HoopCabinet$Ball" ({ cls := "HoopCabinet$Ball", name := "ministersUnder", desc := "(I)I" } : Jvm.MethodName) ({ cls := "HoopCabinet$Ball", name := "ministersUnder", desc := "(I)I" } : Jvm.MethodName)) ∈ lw_tbl := List.mem_append_right _ (List.mem_of_getElem? (i := 979) (by decide +kernel))
theorem k_988 : (Jvm.Cond.code ({ cls := "HoopCabinet$Ball", name := "hasSet", desc := "(I)Z" } : Jvm.MethodName) prog_2_method_8_code (2 : Nat) (Option.some Jvm.ClassFile.FieldType.boolean)) ∈ lw_tbl := List.mem_append_right _ (List.mem_of_getElem? (i := 988) (by decide +kernel))
theorem k_985 : (Jvm.Cond.methodLink "HoopCabinet" (308 : Nat) ({ cls := "HoopCabinet$Ball", name := "hasSet", desc := "(I)Z" } : Jvm.MethodName)) ∈ lw_tbl := List.mem_append_right _ (List.mem_of_getElem? (i := 985) (by decide +kernel))
theorem k_986 : (Jvm.Cond.instanceMethod ({ cls := "HoopCabinet$Ball", name := "hasSet", desc := "(I)Z" } : Jvm.MethodName)) ∈ lw_tbl := List.mem_append_right _ (List.mem_of_getElem? (i := 986) (by decide +kernel))
theorem k_987 : (Jvm.Cond.selects "HoopCabinet$Ball" ({ cls := "HoopCabinet$Ball", name := "hasSet", desc := "(I)Z" } : Jvm.MethodName) ({ cls := "HoopCabinet$Ball", name := "hasSet", desc := "(I)Z" } : Jvm.MethodName)) ∈ lw_tbl := List.mem_append_right _ (List.mem_of_getElem? (i := 987) (by decide +kernel))
theorem k_993 : (Jvm.Cond.code ({ cls := "HoopCabinet$House", name := "tally", desc := "(LHoopCabinet$Ball;)V" } : Jvm.MethodName) prog_5_method_2_code (3 : Nat) (Option.none : Option Jvm.ClassFile.FieldType)) ∈ lw_tbl := List.mem_append_right _ (List.mem_of_getElem? (i := 993) (by decide +kernel))
theorem k_990 : (Jvm.Cond.methodLink "HoopCabinet" (311 : Nat) ({ cls := "HoopCabinet$House", name := "tally", desc := "(LHoopCabinet$Ball;)V" } : Jvm.MethodName)) ∈ lw_tbl := List.mem_append_right _ (List.mem_of_getElem? (i := 990) (by decide +kernel))
theorem k_991 : (Jvm.Cond.instanceMethod ({ cls := "HoopCabinet$House", name := "tally", desc := "(LHoopCabinet$Ball;)V" } : Jvm.MethodName)) ∈ lw_tbl := List.mem_append_right _ (List.mem_of_getElem? (i := 991) (by decide +kernel))
theorem k_992 : (Jvm.Cond.selects "HoopCabinet$House" ({ cls := "HoopCabinet$House", name := "tally", desc := "(LHoopCabinet$Ball;)V" } : Jvm.MethodName) ({ cls := "HoopCabinet$House", name := "tally", desc := "(LHoopCabinet$Ball;)V" } : Jvm.MethodName)) ∈ lw_tbl := List.mem_append_right _ (List.mem_of_getElem? (i := 992) (by decide +kernel))
theorem k_995 : (Jvm.Cond.methodLink "HoopCabinet" (314 : Nat) ({ cls := "HoopCabinet$House", name := "isMajority", desc := "(I)Z" } : Jvm.MethodName)) ∈ lw_tbl := List.mem_append_right _ (List.mem_of_getElem? (i := 995) (by decide +kernel))
theorem k_1019 : (Jvm.Cond.code ({ cls := "HoopCabinet$House", name := "powerOf", desc := "(I)I" } : Jvm.MethodName) prog_5_method_7_code (4 : Nat) (Option.some Jvm.ClassFile.FieldType.int)) ∈ lw_tbl := List.mem_append_right _ (List.mem_of_getElem? (i := 1019) (by decide +kernel))
theorem k_1016 : (Jvm.Cond.methodLink "HoopCabinet" (317 : Nat) ({ cls := "HoopCabinet$House", name := "powerOf", desc := "(I)I" } : Jvm.MethodName)) ∈ lw_tbl := List.mem_append_right _ (List.mem_of_getElem? (i := 1016) (by decide +kernel))
theorem k_1017 : (Jvm.Cond.instanceMethod ({ cls := "HoopCabinet$House", name := "powerOf", desc := "(I)I" } : Jvm.MethodName)) ∈ lw_tbl := List.mem_append_right _ (List.mem_of_getElem? (i := 1017) (by decide +kernel))
theorem k_1018 : (Jvm.Cond.selects "HoopCabinet$House" ({ cls := "HoopCabinet$House", name := "powerOf", desc := "(I)I" } : Jvm.MethodName) ({ cls := "HoopCabinet$House", name := "powerOf", desc := "(I)I" } : Jvm.MethodName)) ∈ lw_tbl := List.mem_append_right _ (List.mem_of_getElem? (i := 1018) (by decide +kernel))
theorem k_1035 : (Jvm.Cond.code ({ cls := "HoopCabinet", name := "isPart", desc := "(I)Z" } : Jvm.MethodName) prog_1_method_94_code (1 : Nat) (Option.some Jvm.ClassFile.FieldType.boolean)) ∈ lw_tbl := List.mem_append_right _ (List.mem_of_getElem? (i := 1035) (by decide +kernel))
theorem k_1033 : (Jvm.Cond.methodLink "HoopCabinet" (320 : Nat) ({ cls := "HoopCabinet", name := "isPart", desc := "(I)Z" } : Jvm.MethodName)) ∈ lw_tbl := List.mem_append_right _ (List.mem_of_getElem? (i := 1033) (by decide +kernel))
theorem k_1034 : (Jvm.Cond.static ({ cls := "HoopCabinet", name := "isPart", desc := "(I)Z" } : Jvm.MethodName)) ∈ lw_tbl := List.mem_append_right _ (List.mem_of_getElem? (i := 1034) (by decide +kernel))
theorem k_1036 : (Jvm.Cond.methodLink "HoopCabinet" (323 : Nat) ({ cls := "HoopCabinet$House", name := "seatsOf", desc := "(I)I" } : Jvm.MethodName)) ∈ lw_tbl := List.mem_append_right _ (List.mem_of_getElem? (i := 1036) (by decide +kernel))
theorem k_277 : (Jvm.Cond.fieldLinkNest "HoopCabinet" (326 : Nat) "HoopCabinet$House" "total" "I" "HoopCabinet") ∈ lw_tbl := List.mem_append_right _ (List.mem_of_getElem? (i := 277) (by decide +kernel))
theorem k_1039 : (Jvm.Cond.code ({ cls := "HoopCabinet", name := "lowestTerms", desc := "(JJI)J" } : Jvm.MethodName) prog_1_method_97_code (12 : Nat) (Option.some Jvm.ClassFile.FieldType.long)) ∈ lw_tbl := List.mem_append_right _ (List.mem_of_getElem? (i := 1039) (by decide +kernel))
theorem k_1037 : (Jvm.Cond.methodLink "HoopCabinet" (329 : Nat) ({ cls := "HoopCabinet", name := "lowestTerms", desc := "(JJI)J" } : Jvm.MethodName)) ∈ lw_tbl := List.mem_append_right _ (List.mem_of_getElem? (i := 1037) (by decide +kernel))
theorem k_1038 : (Jvm.Cond.static ({ cls := "HoopCabinet", name := "lowestTerms", desc := "(JJI)J" } : Jvm.MethodName)) ∈ lw_tbl := List.mem_append_right _ (List.mem_of_getElem? (i := 1038) (by decide +kernel))
theorem k_1051 : (Jvm.Cond.code ({ cls := "HoopCabinet$House", name := "isLeastMajority", desc := "(I)Z" } : Jvm.MethodName) prog_5_method_6_code (3 : Nat) (Option.some Jvm.ClassFile.FieldType.boolean)) ∈ lw_tbl := List.mem_append_right _ (List.mem_of_getElem? (i := 1051) (by decide +kernel))
theorem k_1048 : (Jvm.Cond.methodLink "HoopCabinet" (333 : Nat) ({ cls := "HoopCabinet$House", name := "isLeastMajority", desc := "(I)Z" } : Jvm.MethodName)) ∈ lw_tbl := List.mem_append_right _ (List.mem_of_getElem? (i := 1048) (by decide +kernel))
theorem k_1049 : (Jvm.Cond.instanceMethod ({ cls := "HoopCabinet$House", name := "isLeastMajority", desc := "(I)Z" } : Jvm.MethodName)) ∈ lw_tbl := List.mem_append_right _ (List.mem_of_getElem? (i := 1049) (by decide +kernel))
theorem k_1050 : (Jvm.Cond.selects "HoopCabinet$House" ({ cls := "HoopCabinet$House", name := "isLeastMajority", desc := "(I)Z" } : Jvm.MethodName) ({ cls := "HoopCabinet$House", name := "isLeastMajority", desc := "(I)Z" } : Jvm.MethodName)) ∈ lw_tbl := List.mem_append_right _ (List.mem_of_getElem? (i := 1050) (by decide +kernel))
theorem k_1059 : (Jvm.Cond.code ({ cls := "HoopCabinet", name := "makesOneHold", desc := "(I)Z" } : Jvm.MethodName) prog_1_method_68_code (4 : Nat) (Option.some Jvm.ClassFile.FieldType.boolean)) ∈ lw_tbl := List.mem_append_right _ (List.mem_of_getElem? (i := 1059) (by decide +kernel))
theorem k_1056 : (Jvm.Cond.methodLink "HoopCabinet" (336 : Nat) ({ cls := "HoopCabinet", name := "makesOneHold", desc := "(I)Z" } : Jvm.MethodName)) ∈ lw_tbl := List.mem_append_right _ (List.mem_of_getElem? (i := 1056) (by decide +kernel))
theorem k_1058 : (Jvm.Cond.instanceMethod ({ cls := "HoopCabinet", name := "makesOneHold", desc := "(I)Z" } : Jvm.MethodName)) ∈ lw_tbl := List.mem_append_right _ (List.mem_of_getElem? (i := 1058) (by decide +kernel))
theorem ks_35 : Cond.selects "HoopCabinet" ({ cls := "HoopCabinet", name := "makesOneHold", desc := "(I)Z" } : Jvm.MethodName) ({ cls := "HoopCabinet", name := "makesOneHold", desc := "(I)Z" } : Jvm.MethodName) ∈ lw_tbl := List.mem_append_left _ (List.mem_of_getElem? (i := 35) (by decide +kernel))
theorem k_1060 : (Jvm.Cond.methodLink "HoopCabinet" (339 : Nat) ({ cls := "HoopCabinet$House", name := "isMoreThanHalf", desc := "(I)Z" } : Jvm.MethodName)) ∈ lw_tbl := List.mem_append_right _ (List.mem_of_getElem? (i := 1060) (by decide +kernel))
theorem k_1068 : (Jvm.Cond.code ({ cls := "HoopCabinet", name := "isContent", desc := "(IIII)Z" } : Jvm.MethodName) prog_1_method_71_code (5 : Nat) (Option.some Jvm.ClassFile.FieldType.boolean)) ∈ lw_tbl := List.mem_append_right _ (List.mem_of_getElem? (i := 1068) (by decide +kernel))
theorem k_1065 : (Jvm.Cond.methodLink "HoopCabinet" (342 : Nat) ({ cls := "HoopCabinet", name := "isContent", desc := "(IIII)Z" } : Jvm.MethodName)) ∈ lw_tbl := List.mem_append_right _ (List.mem_of_getElem? (i := 1065) (by decide +kernel))
theorem k_1067 : (Jvm.Cond.instanceMethod ({ cls := "HoopCabinet", name := "isContent", desc := "(IIII)Z" } : Jvm.MethodName)) ∈ lw_tbl := List.mem_append_right _ (List.mem_of_getElem? (i := 1067) (by decide +kernel))
theorem ks_36 : Cond.selects "HoopCabinet" ({ cls := "HoopCabinet", name := "isContent", desc := "(IIII)Z" } : Jvm.MethodName) ({ cls := "HoopCabinet", name := "isContent", desc := "(IIII)Z" } : Jvm.MethodName) ∈ lw_tbl := List.mem_append_left _ (List.mem_of_getElem? (i := 36) (by decide +kernel))
theorem k_1072 : (Jvm.Cond.code ({ cls := "HoopCabinet", name := "gainOf", desc := "(IIII)I" } : Jvm.MethodName) prog_1_method_72_code (5 : Nat) (Option.some Jvm.ClassFile.FieldType.int)) ∈ lw_tbl := List.mem_append_right _ (List.mem_of_getElem? (i := 1072) (by decide +kernel))
theorem k_1069 : (Jvm.Cond.methodLink "HoopCabinet" (346 : Nat) ({ cls := "HoopCabinet", name := "gainOf", desc := "(IIII)I" } : Jvm.MethodName)) ∈ lw_tbl := List.mem_append_right _ (List.mem_of_getElem? (i := 1069) (by decide +kernel))
theorem k_1071 : (Jvm.Cond.instanceMethod ({ cls := "HoopCabinet", name := "gainOf", desc := "(IIII)I" } : Jvm.MethodName)) ∈ lw_tbl := List.mem_append_right _ (List.mem_of_getElem? (i := 1071) (by decide +kernel))
theorem ks_37 : Cond.selects "HoopCabinet" ({ cls := "HoopCabinet", name := "gainOf", desc := "(IIII)I" } : Jvm.MethodName) ({ cls := "HoopCabinet", name := "gainOf", desc := "(IIII)I" } : Jvm.MethodName) ∈ lw_tbl := List.mem_append_left _ (List.mem_of_getElem? (i := 37) (by decide +kernel))
theorem k_1076 : (Jvm.Cond.code ({ cls := "HoopCabinet$Floor", name := "copyFrom", desc := "(LHoopCabinet$Floor;)V" } : Jvm.MethodName) prog_4_method_11_code (2 : Nat) (Option.none : Option Jvm.ClassFile.FieldType)) ∈ lw_tbl := List.mem_append_right _ (List.mem_of_getElem? (i := 1076) (by decide +kernel))
theorem k_1073 : (Jvm.Cond.methodLink "HoopCabinet" (350 : Nat) ({ cls := "HoopCabinet$Floor", name := "copyFrom", desc := "(LHoopCabinet$Floor;)V" } : Jvm.MethodName)) ∈ lw_tbl := List.mem_append_right _ (List.mem_of_getElem? (i := 1073) (by decide +kernel))
theorem k_1074 : (Jvm.Cond.instanceMethod ({ cls := "HoopCabinet$Floor", name := "copyFrom", desc := "(LHoopCabinet$Floor;)V" } : Jvm.MethodName)) ∈ lw_tbl := List.mem_append_right _ (List.mem_of_getElem? (i := 1074) (by decide +kernel))
theorem k_1075 : (Jvm.Cond.selects "HoopCabinet$Floor" ({ cls := "HoopCabinet$Floor", name := "copyFrom", desc := "(LHoopCabinet$Floor;)V" } : Jvm.MethodName) ({ cls := "HoopCabinet$Floor", name := "copyFrom", desc := "(LHoopCabinet$Floor;)V" } : Jvm.MethodName)) ∈ lw_tbl := List.mem_append_right _ (List.mem_of_getElem? (i := 1075) (by decide +kernel))
theorem k_1081 : (Jvm.Cond.code ({ cls := "HoopCabinet$Floor", name := "keepStill", desc := "(I)V" } : Jvm.MethodName) prog_4_method_10_code (4 : Nat) (Option.none : Option Jvm.ClassFile.FieldType)) ∈ lw_tbl := List.mem_append_right _ (List.mem_of_getElem? (i := 1081) (by decide +kernel))
theorem k_1078 : (Jvm.Cond.methodLink "HoopCabinet" (353 : Nat) ({ cls := "HoopCabinet$Floor", name := "keepStill", desc := "(I)V" } : Jvm.MethodName)) ∈ lw_tbl := List.mem_append_right _ (List.mem_of_getElem? (i := 1078) (by decide +kernel))
theorem k_1079 : (Jvm.Cond.instanceMethod ({ cls := "HoopCabinet$Floor", name := "keepStill", desc := "(I)V" } : Jvm.MethodName)) ∈ lw_tbl := List.mem_append_right _ (List.mem_of_getElem? (i := 1079) (by decide +kernel))
theorem k_1080 : (Jvm.Cond.selects "HoopCabinet$Floor" ({ cls := "HoopCabinet$Floor", name := "keepStill", desc := "(I)V" } : Jvm.MethodName) ({ cls := "HoopCabinet$Floor", name := "keepStill", desc := "(I)V" } : Jvm.MethodName)) ∈ lw_tbl := List.mem_append_right _ (List.mem_of_getElem? (i := 1080) (by decide +kernel))
theorem k_1082 : (Jvm.Cond.methodLink "HoopCabinet" (356 : Nat) ({ cls := "HoopCabinet$Floor", name := "gather", desc := "()V" } : Jvm.MethodName)) ∈ lw_tbl := List.mem_append_right _ (List.mem_of_getElem? (i := 1082) (by decide +kernel))
theorem k_1094 : (Jvm.Cond.code ({ cls := "HoopCabinet", name := "isChanceDance", desc := "(I)Z" } : Jvm.MethodName) prog_1_method_75_code (2 : Nat) (Option.some Jvm.ClassFile.FieldType.boolean)) ∈ lw_tbl := List.mem_append_right _ (List.mem_of_getElem? (i := 1094) (by decide +kernel))
theorem k_1091 : (Jvm.Cond.methodLink "HoopCabinet" (359 : Nat) ({ cls := "HoopCabinet", name := "isChanceDance", desc := "(I)Z" } : Jvm.MethodName)) ∈ lw_tbl := List.mem_append_right _ (List.mem_of_getElem? (i := 1091) (by decide +kernel))
theorem k_1093 : (Jvm.Cond.instanceMethod ({ cls := "HoopCabinet", name := "isChanceDance", desc := "(I)Z" } : Jvm.MethodName)) ∈ lw_tbl := List.mem_append_right _ (List.mem_of_getElem? (i := 1093) (by decide +kernel))
theorem ks_38 : Cond.selects "HoopCabinet" ({ cls := "HoopCabinet", name := "isChanceDance", desc := "(I)Z" } : Jvm.MethodName) ({ cls := "HoopCabinet", name := "isChanceDance", desc := "(I)Z" } : Jvm.MethodName) ∈ lw_tbl := List.mem_append_left _ (List.mem_of_getElem? (i := 38) (by decide +kernel))
theorem k_1095 : (Jvm.Cond.constantLong "HoopCabinet" (362 : Nat) (-2 : Int64)) ∈ lw_tbl := List.mem_append_right _ (List.mem_of_getElem? (i := 1095) (by decide +kernel))
theorem k_81 : (Jvm.Cond.fieldLinkNest "HoopCabinet" (364 : Nat) "HoopCabinet$Ball" "odds" "I" "HoopCabinet") ∈ lw_tbl := List.mem_append_right _ (List.mem_of_getElem? (i := 81) (by decide +kernel))
theorem k_1099 : (Jvm.Cond.code ({ cls := "HoopCabinet$Music", name := "play", desc := "(LHoopCabinet$Floor;LHoopCabinet$Notes;III)V" } : Jvm.MethodName) prog_6_method_2_code (7 : Nat) (Option.none : Option Jvm.ClassFile.FieldType)) ∈ lw_tbl := List.mem_append_right _ (List.mem_of_getElem? (i := 1099) (by decide +kernel))
theorem k_1096 : (Jvm.Cond.methodLink "HoopCabinet" (367 : Nat) ({ cls := "HoopCabinet$Music", name := "play", desc := "(LHoopCabinet$Floor;LHoopCabinet$Notes;III)V" } : Jvm.MethodName)) ∈ lw_tbl := List.mem_append_right _ (List.mem_of_getElem? (i := 1096) (by decide +kernel))
theorem k_1097 : (Jvm.Cond.instanceMethod ({ cls := "HoopCabinet$Music", name := "play", desc := "(LHoopCabinet$Floor;LHoopCabinet$Notes;III)V" } : Jvm.MethodName)) ∈ lw_tbl := List.mem_append_right _ (List.mem_of_getElem? (i := 1097) (by decide +kernel))
theorem k_1098 : (Jvm.Cond.selects "HoopCabinet$Music" ({ cls := "HoopCabinet$Music", name := "play", desc := "(LHoopCabinet$Floor;LHoopCabinet$Notes;III)V" } : Jvm.MethodName) ({ cls := "HoopCabinet$Music", name := "play", desc := "(LHoopCabinet$Floor;LHoopCabinet$Notes;III)V" } : Jvm.MethodName)) ∈ lw_tbl := List.mem_append_right _ (List.mem_of_getElem? (i := 1098) (by decide +kernel))
theorem k_1112 : (Jvm.Cond.code ({ cls := "HoopCabinet$Music", name := "weightWith", desc := "(I)J" } : Jvm.MethodName) prog_6_method_4_code (5 : Nat) (Option.some Jvm.ClassFile.FieldType.long)) ∈ lw_tbl := List.mem_append_right _ (List.mem_of_getElem? (i := 1112) (by decide +kernel))
theorem k_1109 : (Jvm.Cond.methodLink "HoopCabinet" (371 : Nat) ({ cls := "HoopCabinet$Music", name := "weightWith", desc := "(I)J" } : Jvm.MethodName)) ∈ lw_tbl := List.mem_append_right _ (List.mem_of_getElem? (i := 1109) (by decide +kernel))
theorem k_1110 : (Jvm.Cond.instanceMethod ({ cls := "HoopCabinet$Music", name := "weightWith", desc := "(I)J" } : Jvm.MethodName)) ∈ lw_tbl := List.mem_append_right _ (List.mem_of_getElem? (i := 1110) (by decide +kernel))
theorem k_1111 : (Jvm.Cond.selects "HoopCabinet$Music" ({ cls := "HoopCabinet$Music", name := "weightWith", desc := "(I)J" } : Jvm.MethodName) ({ cls := "HoopCabinet$Music", name := "weightWith", desc := "(I)J" } : Jvm.MethodName)) ∈ lw_tbl := List.mem_append_right _ (List.mem_of_getElem? (i := 1111) (by decide +kernel))
theorem k_294 : (Jvm.Cond.fieldLinkNest "HoopCabinet" (374 : Nat) "HoopCabinet$Music" "total" "J" "HoopCabinet") ∈ lw_tbl := List.mem_append_right _ (List.mem_of_getElem? (i := 294) (by decide +kernel))
theorem k_1121 : (Jvm.Cond.code ({ cls := "HoopCabinet$Music", name := "weightOfHolders", desc := "()J" } : Jvm.MethodName) prog_6_method_5_code (4 : Nat) (Option.some Jvm.ClassFile.FieldType.long)) ∈ lw_tbl := List.mem_append_right _ (List.mem_of_getElem? (i := 1121) (by decide +kernel))
theorem k_1118 : (Jvm.Cond.methodLink "HoopCabinet" (377 : Nat) ({ cls := "HoopCabinet$Music", name := "weightOfHolders", desc := "()J" } : Jvm.MethodName)) ∈ lw_tbl := List.mem_append_right _ (List.mem_of_getElem? (i := 1118) (by decide +kernel))
theorem k_1119 : (Jvm.Cond.instanceMethod ({ cls := "HoopCabinet$Music", name := "weightOfHolders", desc := "()J" } : Jvm.MethodName)) ∈ lw_tbl := List.mem_append_right _ (List.mem_of_getElem? (i := 1119) (by decide +kernel))
theorem k_1120 : (Jvm.Cond.selects "HoopCabinet$Music" ({ cls := "HoopCabinet$Music", name := "weightOfHolders", desc := "()J" } : Jvm.MethodName) ({ cls := "HoopCabinet$Music", name := "weightOfHolders", desc := "()J" } : Jvm.MethodName)) ∈ lw_tbl := List.mem_append_right _ (List.mem_of_getElem? (i := 1120) (by decide +kernel))
theorem k_1129 : (Jvm.Cond.code ({ cls := "HoopCabinet", name := "isSeed", desc := "(I)Z" } : Jvm.MethodName) prog_1_method_93_code (1 : Nat) (Option.some Jvm.ClassFile.FieldType.boolean)) ∈ lw_tbl := List.mem_append_right _ (List.mem_of_getElem? (i := 1129) (by decide +kernel))
theorem k_1127 : (Jvm.Cond.methodLink "HoopCabinet" (381 : Nat) ({ cls := "HoopCabinet", name := "isSeed", desc := "(I)Z" } : Jvm.MethodName)) ∈ lw_tbl := List.mem_append_right _ (List.mem_of_getElem? (i := 1127) (by decide +kernel))
theorem k_1128 : (Jvm.Cond.static ({ cls := "HoopCabinet", name := "isSeed", desc := "(I)Z" } : Jvm.MethodName)) ∈ lw_tbl := List.mem_append_right _ (List.mem_of_getElem? (i := 1128) (by decide +kernel))
theorem k_1134 : (Jvm.Cond.code ({ cls := "HoopCabinet", name := "loudDances", desc := "(I)I" } : Jvm.MethodName) prog_1_method_79_code (6 : Nat) (Option.some Jvm.ClassFile.FieldType.int)) ∈ lw_tbl := List.mem_append_right _ (List.mem_of_getElem? (i := 1134) (by decide +kernel))
theorem k_1131 : (Jvm.Cond.methodLink "HoopCabinet" (384 : Nat) ({ cls := "HoopCabinet", name := "loudDances", desc := "(I)I" } : Jvm.MethodName)) ∈ lw_tbl := List.mem_append_right _ (List.mem_of_getElem? (i := 1131) (by decide +kernel))
theorem k_1133 : (Jvm.Cond.instanceMethod ({ cls := "HoopCabinet", name := "loudDances", desc := "(I)I" } : Jvm.MethodName)) ∈ lw_tbl := List.mem_append_right _ (List.mem_of_getElem? (i := 1133) (by decide +kernel))
theorem ks_40 : Cond.selects "HoopCabinet" ({ cls := "HoopCabinet", name := "loudDances", desc := "(I)I" } : Jvm.MethodName) ({ cls := "HoopCabinet", name := "loudDances", desc := "(I)I" } : Jvm.MethodName) ∈ lw_tbl := List.mem_append_left _ (List.mem_of_getElem? (i := 40) (by decide +kernel))
theorem k_1143 : (Jvm.Cond.code ({ cls := "HoopCabinet", name := "drawnHolders", desc := "(II)I" } : Jvm.MethodName) prog_1_method_78_code (3 : Nat) (Option.some Jvm.ClassFile.FieldType.int)) ∈ lw_tbl := List.mem_append_right _ (List.mem_of_getElem? (i := 1143) (by decide +kernel))
theorem k_1140 : (Jvm.Cond.methodLink "HoopCabinet" (387 : Nat) ({ cls := "HoopCabinet", name := "drawnHolders", desc := "(II)I" } : Jvm.MethodName)) ∈ lw_tbl := List.mem_append_right _ (List.mem_of_getElem? (i := 1140) (by decide +kernel))
theorem k_1142 : (Jvm.Cond.instanceMethod ({ cls := "HoopCabinet", name := "drawnHolders", desc := "(II)I" } : Jvm.MethodName)) ∈ lw_tbl := List.mem_append_right _ (List.mem_of_getElem? (i := 1142) (by decide +kernel))
theorem ks_41 : Cond.selects "HoopCabinet" ({ cls := "HoopCabinet", name := "drawnHolders", desc := "(II)I" } : Jvm.MethodName) ({ cls := "HoopCabinet", name := "drawnHolders", desc := "(II)I" } : Jvm.MethodName) ∈ lw_tbl := List.mem_append_left _ (List.mem_of_getElem? (i := 41) (by decide +kernel))
theorem k_1135 : (Jvm.Cond.constantLong "HoopCabinet" (390 : Nat) (1103515245 : Int64)) ∈ lw_tbl := List.mem_append_right _ (List.mem_of_getElem? (i := 1135) (by decide +kernel))
theorem k_1136 : (Jvm.Cond.constantLong "HoopCabinet" (392 : Nat) (12345 : Int64)) ∈ lw_tbl := List.mem_append_right _ (List.mem_of_getElem? (i := 1136) (by decide +kernel))
theorem k_1137 : (Jvm.Cond.constantLong "HoopCabinet" (394 : Nat) (2147483648 : Int64)) ∈ lw_tbl := List.mem_append_right _ (List.mem_of_getElem? (i := 1137) (by decide +kernel))
theorem k_1138 : (Jvm.Cond.constantLong "HoopCabinet" (396 : Nat) (65536 : Int64)) ∈ lw_tbl := List.mem_append_right _ (List.mem_of_getElem? (i := 1138) (by decide +kernel))
theorem k_1139 : (Jvm.Cond.constantLong "HoopCabinet" (398 : Nat) (10 : Int64)) ∈ lw_tbl := List.mem_append_right _ (List.mem_of_getElem? (i := 1139) (by decide +kernel))
theorem k_101 : (Jvm.Cond.fieldLinkNest "HoopCabinet" (400 : Nat) "HoopCabinet$Ball" "acts" "LHoopCabinet$Table;" "HoopCabinet") ∈ lw_tbl := List.mem_append_right _ (List.mem_of_getElem? (i := 101) (by decide +kernel))
theorem k_1152 : (Jvm.Cond.methodLink "HoopCabinet" (403 : Nat) ({ cls := "HoopCabinet$Table", name := "isFull", desc := "()Z" } : Jvm.MethodName)) ∈ lw_tbl := List.mem_append_right _ (List.mem_of_getElem? (i := 1152) (by decide +kernel))
theorem k_1156 : (Jvm.Cond.code ({ cls := "HoopCabinet$Ball", name := "actBid", desc := "(III)V" } : Jvm.MethodName) prog_2_method_12_code (4 : Nat) (Option.none : Option Jvm.ClassFile.FieldType)) ∈ lw_tbl := List.mem_append_right _ (List.mem_of_getElem? (i := 1156) (by decide +kernel))
theorem k_1153 : (Jvm.Cond.methodLink "HoopCabinet" (406 : Nat) ({ cls := "HoopCabinet$Ball", name := "actBid", desc := "(III)V" } : Jvm.MethodName)) ∈ lw_tbl := List.mem_append_right _ (List.mem_of_getElem? (i := 1153) (by decide +kernel))
theorem k_1154 : (Jvm.Cond.instanceMethod ({ cls := "HoopCabinet$Ball", name := "actBid", desc := "(III)V" } : Jvm.MethodName)) ∈ lw_tbl := List.mem_append_right _ (List.mem_of_getElem? (i := 1154) (by decide +kernel))
theorem k_1155 : (Jvm.Cond.selects "HoopCabinet$Ball" ({ cls := "HoopCabinet$Ball", name := "actBid", desc := "(III)V" } : Jvm.MethodName) ({ cls := "HoopCabinet$Ball", name := "actBid", desc := "(III)V" } : Jvm.MethodName)) ∈ lw_tbl := List.mem_append_right _ (List.mem_of_getElem? (i := 1155) (by decide +kernel))
theorem k_1165 : (Jvm.Cond.code ({ cls := "HoopCabinet$Ball", name := "actMove", desc := "(II)V" } : Jvm.MethodName) prog_2_method_13_code (3 : Nat) (Option.none : Option Jvm.ClassFile.FieldType)) ∈ lw_tbl := List.mem_append_right _ (List.mem_of_getElem? (i := 1165) (by decide +kernel))
theorem k_1162 : (Jvm.Cond.methodLink "HoopCabinet" (410 : Nat) ({ cls := "HoopCabinet$Ball", name := "actMove", desc := "(II)V" } : Jvm.MethodName)) ∈ lw_tbl := List.mem_append_right _ (List.mem_of_getElem? (i := 1162) (by decide +kernel))
theorem k_1163 : (Jvm.Cond.instanceMethod ({ cls := "HoopCabinet$Ball", name := "actMove", desc := "(II)V" } : Jvm.MethodName)) ∈ lw_tbl := List.mem_append_right _ (List.mem_of_getElem? (i := 1163) (by decide +kernel))
theorem k_1164 : (Jvm.Cond.selects "HoopCabinet$Ball" ({ cls := "HoopCabinet$Ball", name := "actMove", desc := "(II)V" } : Jvm.MethodName) ({ cls := "HoopCabinet$Ball", name := "actMove", desc := "(II)V" } : Jvm.MethodName)) ∈ lw_tbl := List.mem_append_right _ (List.mem_of_getElem? (i := 1164) (by decide +kernel))
theorem k_1174 : (Jvm.Cond.code ({ cls := "HoopCabinet$Ball", name := "takeBack", desc := "()V" } : Jvm.MethodName) prog_2_method_14_code (2 : Nat) (Option.none : Option Jvm.ClassFile.FieldType)) ∈ lw_tbl := List.mem_append_right _ (List.mem_of_getElem? (i := 1174) (by decide +kernel))
theorem k_1171 : (Jvm.Cond.methodLink "HoopCabinet" (414 : Nat) ({ cls := "HoopCabinet$Ball", name := "takeBack", desc := "()V" } : Jvm.MethodName)) ∈ lw_tbl := List.mem_append_right _ (List.mem_of_getElem? (i := 1171) (by decide +kernel))
theorem k_1172 : (Jvm.Cond.instanceMethod ({ cls := "HoopCabinet$Ball", name := "takeBack", desc := "()V" } : Jvm.MethodName)) ∈ lw_tbl := List.mem_append_right _ (List.mem_of_getElem? (i := 1172) (by decide +kernel))
theorem k_1173 : (Jvm.Cond.selects "HoopCabinet$Ball" ({ cls := "HoopCabinet$Ball", name := "takeBack", desc := "()V" } : Jvm.MethodName) ({ cls := "HoopCabinet$Ball", name := "takeBack", desc := "()V" } : Jvm.MethodName)) ∈ lw_tbl := List.mem_append_right _ (List.mem_of_getElem? (i := 1173) (by decide +kernel))
theorem k_1187 : (Jvm.Cond.methodLink "HoopCabinet" (417 : Nat) ({ cls := "HoopCabinet$Table", name := "put", desc := "(III)V" } : Jvm.MethodName)) ∈ lw_tbl := List.mem_append_right _ (List.mem_of_getElem? (i := 1187) (by decide +kernel))
theorem k_98 : (Jvm.Cond.fieldLinkNest "HoopCabinet" (420 : Nat) "HoopCabinet$Ball" "bids" "LHoopCabinet$Table;" "HoopCabinet") ∈ lw_tbl := List.mem_append_right _ (List.mem_of_getElem? (i := 98) (by decide +kernel))
theorem k_1195 : (Jvm.Cond.code ({ cls := "HoopCabinet", name := "slotsWithRow", desc := "()I" } : Jvm.MethodName) prog_1_method_86_code (3 : Nat) (Option.some Jvm.ClassFile.FieldType.int)) ∈ lw_tbl := List.mem_append_right _ (List.mem_of_getElem? (i := 1195) (by decide +kernel))
theorem k_1192 : (Jvm.Cond.methodLink "HoopCabinet" (423 : Nat) ({ cls := "HoopCabinet", name := "slotsWithRow", desc := "()I" } : Jvm.MethodName)) ∈ lw_tbl := List.mem_append_right _ (List.mem_of_getElem? (i := 1192) (by decide +kernel))
theorem k_1194 : (Jvm.Cond.instanceMethod ({ cls := "HoopCabinet", name := "slotsWithRow", desc := "()I" } : Jvm.MethodName)) ∈ lw_tbl := List.mem_append_right _ (List.mem_of_getElem? (i := 1194) (by decide +kernel))
theorem ks_42 : Cond.selects "HoopCabinet" ({ cls := "HoopCabinet", name := "slotsWithRow", desc := "()I" } : Jvm.MethodName) ({ cls := "HoopCabinet", name := "slotsWithRow", desc := "()I" } : Jvm.MethodName) ∈ lw_tbl := List.mem_append_left _ (List.mem_of_getElem? (i := 42) (by decide +kernel))
theorem k_1211 : (Jvm.Cond.code ({ cls := "HoopCabinet$Slot", name := "start", desc := "(II)V" } : Jvm.MethodName) prog_9_method_3_code (3 : Nat) (Option.none : Option Jvm.ClassFile.FieldType)) ∈ lw_tbl := List.mem_append_right _ (List.mem_of_getElem? (i := 1211) (by decide +kernel))
theorem k_1208 : (Jvm.Cond.methodLink "HoopCabinet" (426 : Nat) ({ cls := "HoopCabinet$Slot", name := "start", desc := "(II)V" } : Jvm.MethodName)) ∈ lw_tbl := List.mem_append_right _ (List.mem_of_getElem? (i := 1208) (by decide +kernel))
theorem k_1209 : (Jvm.Cond.instanceMethod ({ cls := "HoopCabinet$Slot", name := "start", desc := "(II)V" } : Jvm.MethodName)) ∈ lw_tbl := List.mem_append_right _ (List.mem_of_getElem? (i := 1209) (by decide +kernel))
theorem k_1210 : (Jvm.Cond.selects "HoopCabinet$Slot" ({ cls := "HoopCabinet$Slot", name := "start", desc := "(II)V" } : Jvm.MethodName) ({ cls := "HoopCabinet$Slot", name := "start", desc := "(II)V" } : Jvm.MethodName)) ∈ lw_tbl := List.mem_append_right _ (List.mem_of_getElem? (i := 1210) (by decide +kernel))
theorem k_1221 : (Jvm.Cond.code ({ cls := "HoopCabinet$Slot", name := "put", desc := "(IJ)V" } : Jvm.MethodName) prog_9_method_5_code (4 : Nat) (Option.none : Option Jvm.ClassFile.FieldType)) ∈ lw_tbl := List.mem_append_right _ (List.mem_of_getElem? (i := 1221) (by decide +kernel))
theorem k_1218 : (Jvm.Cond.methodLink "HoopCabinet" (429 : Nat) ({ cls := "HoopCabinet$Slot", name := "put", desc := "(IJ)V" } : Jvm.MethodName)) ∈ lw_tbl := List.mem_append_right _ (List.mem_of_getElem? (i := 1218) (by decide +kernel))
theorem k_1219 : (Jvm.Cond.instanceMethod ({ cls := "HoopCabinet$Slot", name := "put", desc := "(IJ)V" } : Jvm.MethodName)) ∈ lw_tbl := List.mem_append_right _ (List.mem_of_getElem? (i := 1219) (by decide +kernel))
theorem k_1220 : (Jvm.Cond.selects "HoopCabinet$Slot" ({ cls := "HoopCabinet$Slot", name := "put", desc := "(IJ)V" } : Jvm.MethodName) ({ cls := "HoopCabinet$Slot", name := "put", desc := "(IJ)V" } : Jvm.MethodName)) ∈ lw_tbl := List.mem_append_right _ (List.mem_of_getElem? (i := 1220) (by decide +kernel))
theorem k_167 : (Jvm.Cond.fieldLinkNest "HoopCabinet" (432 : Nat) "HoopCabinet$Slot" "width" "I" "HoopCabinet") ∈ lw_tbl := List.mem_append_right _ (List.mem_of_getElem? (i := 167) (by decide +kernel))
theorem k_1233 : (Jvm.Cond.code ({ cls := "HoopCabinet$Slot", name := "hasStretch", desc := "(II)Z" } : Jvm.MethodName) prog_9_method_7_code (3 : Nat) (Option.some Jvm.ClassFile.FieldType.boolean)) ∈ lw_tbl := List.mem_append_right _ (List.mem_of_getElem? (i := 1233) (by decide +kernel))
theorem k_1230 : (Jvm.Cond.methodLink "HoopCabinet" (435 : Nat) ({ cls := "HoopCabinet$Slot", name := "hasStretch", desc := "(II)Z" } : Jvm.MethodName)) ∈ lw_tbl := List.mem_append_right _ (List.mem_of_getElem? (i := 1230) (by decide +kernel))
theorem k_1231 : (Jvm.Cond.instanceMethod ({ cls := "HoopCabinet$Slot", name := "hasStretch", desc := "(II)Z" } : Jvm.MethodName)) ∈ lw_tbl := List.mem_append_right _ (List.mem_of_getElem? (i := 1231) (by decide +kernel))
theorem k_1232 : (Jvm.Cond.selects "HoopCabinet$Slot" ({ cls := "HoopCabinet$Slot", name := "hasStretch", desc := "(II)Z" } : Jvm.MethodName) ({ cls := "HoopCabinet$Slot", name := "hasStretch", desc := "(II)Z" } : Jvm.MethodName)) ∈ lw_tbl := List.mem_append_right _ (List.mem_of_getElem? (i := 1232) (by decide +kernel))
theorem k_165 : (Jvm.Cond.fieldLinkNest "HoopCabinet" (438 : Nat) "HoopCabinet$Slot" "cells" "[J" "HoopCabinet") ∈ lw_tbl := List.mem_append_right _ (List.mem_of_getElem? (i := 165) (by decide +kernel))
theorem k_1234 : (Jvm.Cond.methodLink "HoopCabinet" (442 : Nat) ({ cls := "java/lang/System", name := "arraycopy", desc := "(Ljava/lang/Object;ILjava/lang/Object;II)V" } : Jvm.MethodName)) ∈ lw_tbl := List.mem_append_right _ (List.mem_of_getElem? (i := 1234) (by decide +kernel))
theorem k_1130 : (Jvm.Cond.constant "HoopCabinet" (448 : Nat) (2000000000 : Int32)) ∈ lw_tbl := List.mem_append_right _ (List.mem_of_getElem? (i := 1130) (by decide +kernel))
theorem k_1365 : (Jvm.Cond.constantLong "HoopCabinetModel" (80 : Nat) (2 : Int64)) ∈ lw_tbl := List.mem_append_right _ (List.mem_of_getElem? (i := 1365) (by decide +kernel))
theorem k_1368 : (Jvm.Cond.code ({ cls := "HoopCabinetModel", name := "in", desc := "(JJJ)Z" } : Jvm.MethodName) prog_12_method_3_code (6 : Nat) (Option.some Jvm.ClassFile.FieldType.boolean)) ∈ lw_tbl := List.mem_append_right _ (List.mem_of_getElem? (i := 1368) (by decide +kernel))
theorem k_12 : (Jvm.Cond.initialized "HoopCabinetModel") ∈ lw_tbl := List.mem_append_right _ (List.mem_of_getElem? (i := 12) (by decide +kernel))
theorem k_1366 : (Jvm.Cond.methodLink "HoopCabinetModel" (82 : Nat) ({ cls := "HoopCabinetModel", name := "in", desc := "(JJJ)Z" } : Jvm.MethodName)) ∈ lw_tbl := List.mem_append_right _ (List.mem_of_getElem? (i := 1366) (by decide +kernel))
theorem k_1367 : (Jvm.Cond.static ({ cls := "HoopCabinetModel", name := "in", desc := "(JJJ)Z" } : Jvm.MethodName)) ∈ lw_tbl := List.mem_append_right _ (List.mem_of_getElem? (i := 1367) (by decide +kernel))
theorem k_1576 : (Jvm.Cond.code ({ cls := "HoopCabinetModel", name := "isBall", desc := "()Z" } : Jvm.MethodName) prog_12_method_8_code (1 : Nat) (Option.some Jvm.ClassFile.FieldType.boolean)) ∈ lw_tbl := List.mem_append_right _ (List.mem_of_getElem? (i := 1576) (by decide +kernel))
theorem k_1573 : (Jvm.Cond.methodLink "HoopCabinetModel" (86 : Nat) ({ cls := "HoopCabinetModel", name := "isBall", desc := "()Z" } : Jvm.MethodName)) ∈ lw_tbl := List.mem_append_right _ (List.mem_of_getElem? (i := 1573) (by decide +kernel))
theorem k_1575 : (Jvm.Cond.instanceMethod ({ cls := "HoopCabinetModel", name := "isBall", desc := "()Z" } : Jvm.MethodName)) ∈ lw_tbl := List.mem_append_right _ (List.mem_of_getElem? (i := 1575) (by decide +kernel))
theorem ks_77 : Cond.selects "HoopCabinetModel" ({ cls := "HoopCabinetModel", name := "isBall", desc := "()Z" } : Jvm.MethodName) ({ cls := "HoopCabinetModel", name := "isBall", desc := "()Z" } : Jvm.MethodName) ∈ lw_tbl := List.mem_append_left _ (List.mem_of_getElem? (i := 77) (by decide +kernel))
theorem k_1245 : (Jvm.Cond.fieldLink "HoopCabinetModel" (90 : Nat) "HoopCabinetModel" "taped" "I") ∈ lw_tbl := List.mem_append_right _ (List.mem_of_getElem? (i := 1245) (by decide +kernel))
theorem k_1247 : (Jvm.Cond.fieldLink "HoopCabinetModel" (93 : Nat) "HoopCabinetModel" "size" "I") ∈ lw_tbl := List.mem_append_right _ (List.mem_of_getElem? (i := 1247) (by decide +kernel))
theorem k_1248 : (Jvm.Cond.fieldLink "HoopCabinetModel" (96 : Nat) "HoopCabinetModel" "at" "I") ∈ lw_tbl := List.mem_append_right _ (List.mem_of_getElem? (i := 1248) (by decide +kernel))
theorem k_1396 : (Jvm.Cond.code ({ cls := "HoopCabinetModel", name := "see", desc := "(I)I" } : Jvm.MethodName) prog_12_method_20_code (2 : Nat) (Option.some Jvm.ClassFile.FieldType.int)) ∈ lw_tbl := List.mem_append_right _ (List.mem_of_getElem? (i := 1396) (by decide +kernel))
theorem k_1393 : (Jvm.Cond.methodLink "HoopCabinetModel" (99 : Nat) ({ cls := "HoopCabinetModel", name := "see", desc := "(I)I" } : Jvm.MethodName)) ∈ lw_tbl := List.mem_append_right _ (List.mem_of_getElem? (i := 1393) (by decide +kernel))
theorem k_1395 : (Jvm.Cond.instanceMethod ({ cls := "HoopCabinetModel", name := "see", desc := "(I)I" } : Jvm.MethodName)) ∈ lw_tbl := List.mem_append_right _ (List.mem_of_getElem? (i := 1395) (by decide +kernel))
theorem ks_45 : Cond.selects "HoopCabinetModel" ({ cls := "HoopCabinetModel", name := "see", desc := "(I)I" } : Jvm.MethodName) ({ cls := "HoopCabinetModel", name := "see", desc := "(I)I" } : Jvm.MethodName) ∈ lw_tbl := List.mem_append_left _ (List.mem_of_getElem? (i := 45) (by decide +kernel))
theorem k_1249 : (Jvm.Cond.fieldLink "HoopCabinetModel" (103 : Nat) "HoopCabinetModel" "from" "I") ∈ lw_tbl := List.mem_append_right _ (List.mem_of_getElem? (i := 1249) (by decide +kernel))
theorem k_1250 : (Jvm.Cond.fieldLink "HoopCabinetModel" (106 : Nat) "HoopCabinetModel" "token" "I") ∈ lw_tbl := List.mem_append_right _ (List.mem_of_getElem? (i := 1250) (by decide +kernel))
theorem k_1397 : (Jvm.Cond.constantLong "HoopCabinetModel" (109 : Nat) (97 : Int64)) ∈ lw_tbl := List.mem_append_right _ (List.mem_of_getElem? (i := 1397) (by decide +kernel))
theorem k_1398 : (Jvm.Cond.constantLong "HoopCabinetModel" (111 : Nat) (122 : Int64)) ∈ lw_tbl := List.mem_append_right _ (List.mem_of_getElem? (i := 1398) (by decide +kernel))
theorem k_1399 : (Jvm.Cond.constantLong "HoopCabinetModel" (113 : Nat) (48 : Int64)) ∈ lw_tbl := List.mem_append_right _ (List.mem_of_getElem? (i := 1399) (by decide +kernel))
theorem k_1400 : (Jvm.Cond.constantLong "HoopCabinetModel" (115 : Nat) (57 : Int64)) ∈ lw_tbl := List.mem_append_right _ (List.mem_of_getElem? (i := 1400) (by decide +kernel))
theorem k_1251 : (Jvm.Cond.fieldLink "HoopCabinetModel" (117 : Nat) "HoopCabinetModel" "value" "I") ∈ lw_tbl := List.mem_append_right _ (List.mem_of_getElem? (i := 1251) (by decide +kernel))
theorem k_1401 : (Jvm.Cond.constant "HoopCabinetModel" (120 : Nat) (99999 : Int32)) ∈ lw_tbl := List.mem_append_right _ (List.mem_of_getElem? (i := 1401) (by decide +kernel))
theorem k_1402 : (Jvm.Cond.methodLink "HoopCabinetModel" (121 : Nat) ({ cls := "java/lang/Math", name := "min", desc := "(II)I" } : Jvm.MethodName)) ∈ lw_tbl := List.mem_append_right _ (List.mem_of_getElem? (i := 1402) (by decide +kernel))
theorem k_1252 : (Jvm.Cond.fieldLink "HoopCabinetModel" (127 : Nat) "HoopCabinetModel" "faultKind" "I") ∈ lw_tbl := List.mem_append_right _ (List.mem_of_getElem? (i := 1252) (by decide +kernel))
theorem k_1406 : (Jvm.Cond.code ({ cls := "HoopCabinetModel", name := "good", desc := "()Z" } : Jvm.MethodName) prog_12_method_22_code (1 : Nat) (Option.some Jvm.ClassFile.FieldType.boolean)) ∈ lw_tbl := List.mem_append_right _ (List.mem_of_getElem? (i := 1406) (by decide +kernel))
theorem k_1403 : (Jvm.Cond.methodLink "HoopCabinetModel" (130 : Nat) ({ cls := "HoopCabinetModel", name := "good", desc := "()Z" } : Jvm.MethodName)) ∈ lw_tbl := List.mem_append_right _ (List.mem_of_getElem? (i := 1403) (by decide +kernel))
theorem k_1405 : (Jvm.Cond.instanceMethod ({ cls := "HoopCabinetModel", name := "good", desc := "()Z" } : Jvm.MethodName)) ∈ lw_tbl := List.mem_append_right _ (List.mem_of_getElem? (i := 1405) (by decide +kernel))
theorem ks_46 : Cond.selects "HoopCabinetModel" ({ cls := "HoopCabinetModel", name := "good", desc := "()Z" } : Jvm.MethodName) ({ cls := "HoopCabinetModel", name := "good", desc := "()Z" } : Jvm.MethodName) ∈ lw_tbl := List.mem_append_left _ (List.mem_of_getElem? (i := 46) (by decide +kernel))
theorem k_1428 : (Jvm.Cond.methodLink "HoopCabinetModel" (133 : Nat) ({ cls := "java/lang/String", name := "length", desc := "()I" } : Jvm.MethodName)) ∈ lw_tbl := List.mem_append_right _ (List.mem_of_getElem? (i := 1428) (by decide +kernel))
theorem k_1429 : (Jvm.Cond.methodLink "HoopCabinetModel" (139 : Nat) ({ cls := "java/lang/String", name := "charAt", desc := "(I)C" } : Jvm.MethodName)) ∈ lw_tbl := List.mem_append_right _ (List.mem_of_getElem? (i := 1429) (by decide +kernel))
theorem k_1427 : (Jvm.Cond.code ({ cls := "HoopCabinetModel", name := "is", desc := "(Ljava/lang/String;)Z" } : Jvm.MethodName) prog_12_method_24_code (4 : Nat) (Option.some Jvm.ClassFile.FieldType.boolean)) ∈ lw_tbl := List.mem_append_right _ (List.mem_of_getElem? (i := 1427) (by decide +kernel))
theorem k_1424 : (Jvm.Cond.methodLink "HoopCabinetModel" (143 : Nat) ({ cls := "HoopCabinetModel", name := "is", desc := "(Ljava/lang/String;)Z" } : Jvm.MethodName)) ∈ lw_tbl := List.mem_append_right _ (List.mem_of_getElem? (i := 1424) (by decide +kernel))
theorem k_1426 : (Jvm.Cond.instanceMethod ({ cls := "HoopCabinetModel", name := "is", desc := "(Ljava/lang/String;)Z" } : Jvm.MethodName)) ∈ lw_tbl := List.mem_append_right _ (List.mem_of_getElem? (i := 1426) (by decide +kernel))
theorem ks_51 : Cond.selects "HoopCabinetModel" ({ cls := "HoopCabinetModel", name := "is", desc := "(Ljava/lang/String;)Z" } : Jvm.MethodName) ({ cls := "HoopCabinetModel", name := "is", desc := "(Ljava/lang/String;)Z" } : Jvm.MethodName) ∈ lw_tbl := List.mem_append_left _ (List.mem_of_getElem? (i := 51) (by decide +kernel))
theorem k_1392 : (Jvm.Cond.code ({ cls := "HoopCabinetModel", name := "advance", desc := "()V" } : Jvm.MethodName) prog_12_method_21_code (2 : Nat) (Option.none : Option Jvm.ClassFile.FieldType)) ∈ lw_tbl := List.mem_append_right _ (List.mem_of_getElem? (i := 1392) (by decide +kernel))
theorem k_1389 : (Jvm.Cond.methodLink "HoopCabinetModel" (147 : Nat) ({ cls := "HoopCabinetModel", name := "advance", desc := "()V" } : Jvm.MethodName)) ∈ lw_tbl := List.mem_append_right _ (List.mem_of_getElem? (i := 1389) (by decide +kernel))
theorem k_1391 : (Jvm.Cond.instanceMethod ({ cls := "HoopCabinetModel", name := "advance", desc := "()V" } : Jvm.MethodName)) ∈ lw_tbl := List.mem_append_right _ (List.mem_of_getElem? (i := 1391) (by decide +kernel))
theorem ks_44 : Cond.selects "HoopCabinetModel" ({ cls := "HoopCabinetModel", name := "advance", desc := "()V" } : Jvm.MethodName) ({ cls := "HoopCabinetModel", name := "advance", desc := "()V" } : Jvm.MethodName) ∈ lw_tbl := List.mem_append_left _ (List.mem_of_getElem? (i := 44) (by decide +kernel))
theorem k_1423 : (Jvm.Cond.code ({ cls := "HoopCabinetModel", name := "takes", desc := "(Ljava/lang/String;)Z" } : Jvm.MethodName) prog_12_method_25_code (3 : Nat) (Option.some Jvm.ClassFile.FieldType.boolean)) ∈ lw_tbl := List.mem_append_right _ (List.mem_of_getElem? (i := 1423) (by decide +kernel))
theorem k_1420 : (Jvm.Cond.methodLink "HoopCabinetModel" (150 : Nat) ({ cls := "HoopCabinetModel", name := "takes", desc := "(Ljava/lang/String;)Z" } : Jvm.MethodName)) ∈ lw_tbl := List.mem_append_right _ (List.mem_of_getElem? (i := 1420) (by decide +kernel))
theorem k_1422 : (Jvm.Cond.instanceMethod ({ cls := "HoopCabinetModel", name := "takes", desc := "(Ljava/lang/String;)Z" } : Jvm.MethodName)) ∈ lw_tbl := List.mem_append_right _ (List.mem_of_getElem? (i := 1422) (by decide +kernel))
theorem ks_50 : Cond.selects "HoopCabinetModel" ({ cls := "HoopCabinetModel", name := "takes", desc := "(Ljava/lang/String;)Z" } : Jvm.MethodName) ({ cls := "HoopCabinetModel", name := "takes", desc := "(Ljava/lang/String;)Z" } : Jvm.MethodName) ∈ lw_tbl := List.mem_append_left _ (List.mem_of_getElem? (i := 50) (by decide +kernel))
theorem k_1433 : (Jvm.Cond.code ({ cls := "HoopCabinetModel", name := "errs", desc := "(I)V" } : Jvm.MethodName) prog_12_method_23_code (2 : Nat) (Option.none : Option Jvm.ClassFile.FieldType)) ∈ lw_tbl := List.mem_append_right _ (List.mem_of_getElem? (i := 1433) (by decide +kernel))
theorem k_1430 : (Jvm.Cond.methodLink "HoopCabinetModel" (153 : Nat) ({ cls := "HoopCabinetModel", name := "errs", desc := "(I)V" } : Jvm.MethodName)) ∈ lw_tbl := List.mem_append_right _ (List.mem_of_getElem? (i := 1430) (by decide +kernel))
theorem k_1432 : (Jvm.Cond.instanceMethod ({ cls := "HoopCabinetModel", name := "errs", desc := "(I)V" } : Jvm.MethodName)) ∈ lw_tbl := List.mem_append_right _ (List.mem_of_getElem? (i := 1432) (by decide +kernel))
theorem ks_52 : Cond.selects "HoopCabinetModel" ({ cls := "HoopCabinetModel", name := "errs", desc := "(I)V" } : Jvm.MethodName) ({ cls := "HoopCabinetModel", name := "errs", desc := "(I)V" } : Jvm.MethodName) ∈ lw_tbl := List.mem_append_left _ (List.mem_of_getElem? (i := 52) (by decide +kernel))
theorem k_1419 : (Jvm.Cond.code ({ cls := "HoopCabinetModel", name := "needs", desc := "(Ljava/lang/String;)V" } : Jvm.MethodName) prog_12_method_26_code (2 : Nat) (Option.none : Option Jvm.ClassFile.FieldType)) ∈ lw_tbl := List.mem_append_right _ (List.mem_of_getElem? (i := 1419) (by decide +kernel))
theorem k_1416 : (Jvm.Cond.methodLink "HoopCabinetModel" (157 : Nat) ({ cls := "HoopCabinetModel", name := "needs", desc := "(Ljava/lang/String;)V" } : Jvm.MethodName)) ∈ lw_tbl := List.mem_append_right _ (List.mem_of_getElem? (i := 1416) (by decide +kernel))
theorem k_1418 : (Jvm.Cond.instanceMethod ({ cls := "HoopCabinetModel", name := "needs", desc := "(Ljava/lang/String;)V" } : Jvm.MethodName)) ∈ lw_tbl := List.mem_append_right _ (List.mem_of_getElem? (i := 1418) (by decide +kernel))
theorem ks_49 : Cond.selects "HoopCabinetModel" ({ cls := "HoopCabinetModel", name := "needs", desc := "(Ljava/lang/String;)V" } : Jvm.MethodName) ({ cls := "HoopCabinetModel", name := "needs", desc := "(Ljava/lang/String;)V" } : Jvm.MethodName) ∈ lw_tbl := List.mem_append_left _ (List.mem_of_getElem? (i := 49) (by decide +kernel))
theorem k_1442 : (Jvm.Cond.code ({ cls := "HoopCabinetModel", name := "number", desc := "(II)I" } : Jvm.MethodName) prog_12_method_27_code (4 : Nat) (Option.some Jvm.ClassFile.FieldType.int)) ∈ lw_tbl := List.mem_append_right _ (List.mem_of_getElem? (i := 1442) (by decide +kernel))
theorem k_1439 : (Jvm.Cond.methodLink "HoopCabinetModel" (161 : Nat) ({ cls := "HoopCabinetModel", name := "number", desc := "(II)I" } : Jvm.MethodName)) ∈ lw_tbl := List.mem_append_right _ (List.mem_of_getElem? (i := 1439) (by decide +kernel))
theorem k_1441 : (Jvm.Cond.instanceMethod ({ cls := "HoopCabinetModel", name := "number", desc := "(II)I" } : Jvm.MethodName)) ∈ lw_tbl := List.mem_append_right _ (List.mem_of_getElem? (i := 1441) (by decide +kernel))
theorem ks_54 : Cond.selects "HoopCabinetModel" ({ cls := "HoopCabinetModel", name := "number", desc := "(II)I" } : Jvm.MethodName) ({ cls := "HoopCabinetModel", name := "number", desc := "(II)I" } : Jvm.MethodName) ∈ lw_tbl := List.mem_append_left _ (List.mem_of_getElem? (i := 54) (by decide +kernel))
theorem k_1438 : (Jvm.Cond.code ({ cls := "HoopCabinetModel", name := "told", desc := "(Ljava/lang/String;II)I" } : Jvm.MethodName) prog_12_method_28_code (4 : Nat) (Option.some Jvm.ClassFile.FieldType.int)) ∈ lw_tbl := List.mem_append_right _ (List.mem_of_getElem? (i := 1438) (by decide +kernel))
theorem k_1435 : (Jvm.Cond.methodLink "HoopCabinetModel" (164 : Nat) ({ cls := "HoopCabinetModel", name := "told", desc := "(Ljava/lang/String;II)I" } : Jvm.MethodName)) ∈ lw_tbl := List.mem_append_right _ (List.mem_of_getElem? (i := 1435) (by decide +kernel))
theorem k_1437 : (Jvm.Cond.instanceMethod ({ cls := "HoopCabinetModel", name := "told", desc := "(Ljava/lang/String;II)I" } : Jvm.MethodName)) ∈ lw_tbl := List.mem_append_right _ (List.mem_of_getElem? (i := 1437) (by decide +kernel))
theorem ks_53 : Cond.selects "HoopCabinetModel" ({ cls := "HoopCabinetModel", name := "told", desc := "(Ljava/lang/String;II)I" } : Jvm.MethodName) ({ cls := "HoopCabinetModel", name := "told", desc := "(Ljava/lang/String;II)I" } : Jvm.MethodName) ∈ lw_tbl := List.mem_append_left _ (List.mem_of_getElem? (i := 53) (by decide +kernel))
theorem k_1468 : (Jvm.Cond.code ({ cls := "HoopCabinetModel", name := "freshRoom", desc := "(Ljava/lang/String;)I" } : Jvm.MethodName) prog_12_method_30_code (2 : Nat) (Option.some Jvm.ClassFile.FieldType.int)) ∈ lw_tbl := List.mem_append_right _ (List.mem_of_getElem? (i := 1468) (by decide +kernel))
theorem k_1465 : (Jvm.Cond.methodLink "HoopCabinetModel" (182 : Nat) ({ cls := "HoopCabinetModel", name := "freshRoom", desc := "(Ljava/lang/String;)I" } : Jvm.MethodName)) ∈ lw_tbl := List.mem_append_right _ (List.mem_of_getElem? (i := 1465) (by decide +kernel))
theorem k_1467 : (Jvm.Cond.instanceMethod ({ cls := "HoopCabinetModel", name := "freshRoom", desc := "(Ljava/lang/String;)I" } : Jvm.MethodName)) ∈ lw_tbl := List.mem_append_right _ (List.mem_of_getElem? (i := 1467) (by decide +kernel))
theorem ks_58 : Cond.selects "HoopCabinetModel" ({ cls := "HoopCabinetModel", name := "freshRoom", desc := "(Ljava/lang/String;)I" } : Jvm.MethodName) ({ cls := "HoopCabinetModel", name := "freshRoom", desc := "(Ljava/lang/String;)I" } : Jvm.MethodName) ∈ lw_tbl := List.mem_append_left _ (List.mem_of_getElem? (i := 58) (by decide +kernel))
theorem k_1457 : (Jvm.Cond.code ({ cls := "HoopCabinetModel", name := "isFull", desc := "()Z" } : Jvm.MethodName) prog_12_method_34_code (1 : Nat) (Option.some Jvm.ClassFile.FieldType.boolean)) ∈ lw_tbl := List.mem_append_right _ (List.mem_of_getElem? (i := 1457) (by decide +kernel))
theorem k_1454 : (Jvm.Cond.methodLink "HoopCabinetModel" (195 : Nat) ({ cls := "HoopCabinetModel", name := "isFull", desc := "()Z" } : Jvm.MethodName)) ∈ lw_tbl := List.mem_append_right _ (List.mem_of_getElem? (i := 1454) (by decide +kernel))
theorem k_1456 : (Jvm.Cond.instanceMethod ({ cls := "HoopCabinetModel", name := "isFull", desc := "()Z" } : Jvm.MethodName)) ∈ lw_tbl := List.mem_append_right _ (List.mem_of_getElem? (i := 1456) (by decide +kernel))
theorem ks_56 : Cond.selects "HoopCabinetModel" ({ cls := "HoopCabinetModel", name := "isFull", desc := "()Z" } : Jvm.MethodName) ({ cls := "HoopCabinetModel", name := "isFull", desc := "()Z" } : Jvm.MethodName) ∈ lw_tbl := List.mem_append_left _ (List.mem_of_getElem? (i := 56) (by decide +kernel))
theorem k_1461 : (Jvm.Cond.code ({ cls := "HoopCabinetModel", name := "readDoor", desc := "()V" } : Jvm.MethodName) prog_12_method_32_code (2 : Nat) (Option.none : Option Jvm.ClassFile.FieldType)) ∈ lw_tbl := List.mem_append_right _ (List.mem_of_getElem? (i := 1461) (by decide +kernel))
theorem k_1458 : (Jvm.Cond.methodLink "HoopCabinetModel" (198 : Nat) ({ cls := "HoopCabinetModel", name := "readDoor", desc := "()V" } : Jvm.MethodName)) ∈ lw_tbl := List.mem_append_right _ (List.mem_of_getElem? (i := 1458) (by decide +kernel))
theorem k_1460 : (Jvm.Cond.instanceMethod ({ cls := "HoopCabinetModel", name := "readDoor", desc := "()V" } : Jvm.MethodName)) ∈ lw_tbl := List.mem_append_right _ (List.mem_of_getElem? (i := 1460) (by decide +kernel))
theorem ks_57 : Cond.selects "HoopCabinetModel" ({ cls := "HoopCabinetModel", name := "readDoor", desc := "()V" } : Jvm.MethodName) ({ cls := "HoopCabinetModel", name := "readDoor", desc := "()V" } : Jvm.MethodName) ∈ lw_tbl := List.mem_append_left _ (List.mem_of_getElem? (i := 57) (by decide +kernel))
theorem k_1474 : (Jvm.Cond.code ({ cls := "HoopCabinetModel", name := "readBid", desc := "()V" } : Jvm.MethodName) prog_12_method_33_code (2 : Nat) (Option.none : Option Jvm.ClassFile.FieldType)) ∈ lw_tbl := List.mem_append_right _ (List.mem_of_getElem? (i := 1474) (by decide +kernel))
theorem k_1471 : (Jvm.Cond.methodLink "HoopCabinetModel" (206 : Nat) ({ cls := "HoopCabinetModel", name := "readBid", desc := "()V" } : Jvm.MethodName)) ∈ lw_tbl := List.mem_append_right _ (List.mem_of_getElem? (i := 1471) (by decide +kernel))
theorem k_1473 : (Jvm.Cond.instanceMethod ({ cls := "HoopCabinetModel", name := "readBid", desc := "()V" } : Jvm.MethodName)) ∈ lw_tbl := List.mem_append_right _ (List.mem_of_getElem? (i := 1473) (by decide +kernel))
theorem ks_59 : Cond.selects "HoopCabinetModel" ({ cls := "HoopCabinetModel", name := "readBid", desc := "()V" } : Jvm.MethodName) ({ cls := "HoopCabinetModel", name := "readBid", desc := "()V" } : Jvm.MethodName) ∈ lw_tbl := List.mem_append_left _ (List.mem_of_getElem? (i := 59) (by decide +kernel))
theorem k_1414 : (Jvm.Cond.code ({ cls := "HoopCabinetModel", name := "readFirst", desc := "()V" } : Jvm.MethodName) prog_12_method_31_code (1 : Nat) (Option.none : Option Jvm.ClassFile.FieldType)) ∈ lw_tbl := List.mem_append_right _ (List.mem_of_getElem? (i := 1414) (by decide +kernel))
theorem k_1411 : (Jvm.Cond.methodLink "HoopCabinetModel" (209 : Nat) ({ cls := "HoopCabinetModel", name := "readFirst", desc := "()V" } : Jvm.MethodName)) ∈ lw_tbl := List.mem_append_right _ (List.mem_of_getElem? (i := 1411) (by decide +kernel))
theorem k_1413 : (Jvm.Cond.instanceMethod ({ cls := "HoopCabinetModel", name := "readFirst", desc := "()V" } : Jvm.MethodName)) ∈ lw_tbl := List.mem_append_right _ (List.mem_of_getElem? (i := 1413) (by decide +kernel))
theorem ks_48 : Cond.selects "HoopCabinetModel" ({ cls := "HoopCabinetModel", name := "readFirst", desc := "()V" } : Jvm.MethodName) ({ cls := "HoopCabinetModel", name := "readFirst", desc := "()V" } : Jvm.MethodName) ∈ lw_tbl := List.mem_append_left _ (List.mem_of_getElem? (i := 48) (by decide +kernel))
theorem k_1449 : (Jvm.Cond.code ({ cls := "HoopCabinetModel", name := "readNext", desc := "()V" } : Jvm.MethodName) prog_12_method_35_code (3 : Nat) (Option.none : Option Jvm.ClassFile.FieldType)) ∈ lw_tbl := List.mem_append_right _ (List.mem_of_getElem? (i := 1449) (by decide +kernel))
theorem k_1446 : (Jvm.Cond.methodLink "HoopCabinetModel" (212 : Nat) ({ cls := "HoopCabinetModel", name := "readNext", desc := "()V" } : Jvm.MethodName)) ∈ lw_tbl := List.mem_append_right _ (List.mem_of_getElem? (i := 1446) (by decide +kernel))
theorem k_1448 : (Jvm.Cond.instanceMethod ({ cls := "HoopCabinetModel", name := "readNext", desc := "()V" } : Jvm.MethodName)) ∈ lw_tbl := List.mem_append_right _ (List.mem_of_getElem? (i := 1448) (by decide +kernel))
theorem ks_55 : Cond.selects "HoopCabinetModel" ({ cls := "HoopCabinetModel", name := "readNext", desc := "()V" } : Jvm.MethodName) ({ cls := "HoopCabinetModel", name := "readNext", desc := "()V" } : Jvm.MethodName) ∈ lw_tbl := List.mem_append_left _ (List.mem_of_getElem? (i := 55) (by decide +kernel))
theorem k_1410 : (Jvm.Cond.code ({ cls := "HoopCabinetModel", name := "readLine", desc := "()V" } : Jvm.MethodName) prog_12_method_36_code (1 : Nat) (Option.none : Option Jvm.ClassFile.FieldType)) ∈ lw_tbl := List.mem_append_right _ (List.mem_of_getElem? (i := 1410) (by decide +kernel))
theorem k_1407 : (Jvm.Cond.methodLink "HoopCabinetModel" (215 : Nat) ({ cls := "HoopCabinetModel", name := "readLine", desc := "()V" } : Jvm.MethodName)) ∈ lw_tbl := List.mem_append_right _ (List.mem_of_getElem? (i := 1407) (by decide +kernel))
theorem k_1409 : (Jvm.Cond.instanceMethod ({ cls := "HoopCabinetModel", name := "readLine", desc := "()V" } : Jvm.MethodName)) ∈ lw_tbl := List.mem_append_right _ (List.mem_of_getElem? (i := 1409) (by decide +kernel))
theorem ks_47 : Cond.selects "HoopCabinetModel" ({ cls := "HoopCabinetModel", name := "readLine", desc := "()V" } : Jvm.MethodName) ({ cls := "HoopCabinetModel", name := "readLine", desc := "()V" } : Jvm.MethodName) ∈ lw_tbl := List.mem_append_left _ (List.mem_of_getElem? (i := 47) (by decide +kernel))
theorem k_1483 : (Jvm.Cond.code ({ cls := "HoopCabinetModel", name := "isDoor", desc := "(I)Z" } : Jvm.MethodName) prog_12_method_11_code (2 : Nat) (Option.some Jvm.ClassFile.FieldType.boolean)) ∈ lw_tbl := List.mem_append_right _ (List.mem_of_getElem? (i := 1483) (by decide +kernel))
theorem k_1480 : (Jvm.Cond.methodLink "HoopCabinetModel" (218 : Nat) ({ cls := "HoopCabinetModel", name := "isDoor", desc := "(I)Z" } : Jvm.MethodName)) ∈ lw_tbl := List.mem_append_right _ (List.mem_of_getElem? (i := 1480) (by decide +kernel))
theorem k_1482 : (Jvm.Cond.instanceMethod ({ cls := "HoopCabinetModel", name := "isDoor", desc := "(I)Z" } : Jvm.MethodName)) ∈ lw_tbl := List.mem_append_right _ (List.mem_of_getElem? (i := 1482) (by decide +kernel))
theorem ks_60 : Cond.selects "HoopCabinetModel" ({ cls := "HoopCabinetModel", name := "isDoor", desc := "(I)Z" } : Jvm.MethodName) ({ cls := "HoopCabinetModel", name := "isDoor", desc := "(I)Z" } : Jvm.MethodName) ∈ lw_tbl := List.mem_append_left _ (List.mem_of_getElem? (i := 60) (by decide +kernel))
theorem k_1491 : (Jvm.Cond.code ({ cls := "HoopCabinetModel", name := "isLady", desc := "(J)Z" } : Jvm.MethodName) prog_12_method_12_code (3 : Nat) (Option.some Jvm.ClassFile.FieldType.boolean)) ∈ lw_tbl := List.mem_append_right _ (List.mem_of_getElem? (i := 1491) (by decide +kernel))
theorem k_1488 : (Jvm.Cond.methodLink "HoopCabinetModel" (222 : Nat) ({ cls := "HoopCabinetModel", name := "isLady", desc := "(J)Z" } : Jvm.MethodName)) ∈ lw_tbl := List.mem_append_right _ (List.mem_of_getElem? (i := 1488) (by decide +kernel))
theorem k_1490 : (Jvm.Cond.instanceMethod ({ cls := "HoopCabinetModel", name := "isLady", desc := "(J)Z" } : Jvm.MethodName)) ∈ lw_tbl := List.mem_append_right _ (List.mem_of_getElem? (i := 1490) (by decide +kernel))
theorem ks_61 : Cond.selects "HoopCabinetModel" ({ cls := "HoopCabinetModel", name := "isLady", desc := "(J)Z" } : Jvm.MethodName) ({ cls := "HoopCabinetModel", name := "isLady", desc := "(J)Z" } : Jvm.MethodName) ∈ lw_tbl := List.mem_append_left _ (List.mem_of_getElem? (i := 61) (by decide +kernel))
theorem k_1513 : (Jvm.Cond.constant "HoopCabinetModel" (226 : Nat) (1000000000 : Int32)) ∈ lw_tbl := List.mem_append_right _ (List.mem_of_getElem? (i := 1513) (by decide +kernel))
theorem k_1256 : (Jvm.Cond.fieldLink "HoopCabinetModel" (227 : Nat) "HoopCabinetModel" "oddDoor" "I") ∈ lw_tbl := List.mem_append_right _ (List.mem_of_getElem? (i := 1256) (by decide +kernel))
theorem k_1257 : (Jvm.Cond.fieldLink "HoopCabinetModel" (230 : Nat) "HoopCabinetModel" "oddWide" "I") ∈ lw_tbl := List.mem_append_right _ (List.mem_of_getElem? (i := 1257) (by decide +kernel))
theorem k_1517 : (Jvm.Cond.code ({ cls := "HoopCabinetModel", name := "wayOf", desc := "(III)I" } : Jvm.MethodName) prog_12_method_40_code (4 : Nat) (Option.some Jvm.ClassFile.FieldType.int)) ∈ lw_tbl := List.mem_append_right _ (List.mem_of_getElem? (i := 1517) (by decide +kernel))
theorem k_1514 : (Jvm.Cond.methodLink "HoopCabinetModel" (233 : Nat) ({ cls := "HoopCabinetModel", name := "wayOf", desc := "(III)I" } : Jvm.MethodName)) ∈ lw_tbl := List.mem_append_right _ (List.mem_of_getElem? (i := 1514) (by decide +kernel))
theorem k_1516 : (Jvm.Cond.instanceMethod ({ cls := "HoopCabinetModel", name := "wayOf", desc := "(III)I" } : Jvm.MethodName)) ∈ lw_tbl := List.mem_append_right _ (List.mem_of_getElem? (i := 1516) (by decide +kernel))
theorem ks_66 : Cond.selects "HoopCabinetModel" ({ cls := "HoopCabinetModel", name := "wayOf", desc := "(III)I" } : Jvm.MethodName) ({ cls := "HoopCabinetModel", name := "wayOf", desc := "(III)I" } : Jvm.MethodName) ∈ lw_tbl := List.mem_append_left _ (List.mem_of_getElem? (i := 66) (by decide +kernel))
theorem k_1504 : (Jvm.Cond.constant "HoopCabinetModel" (237 : Nat) (100000 : Int32)) ∈ lw_tbl := List.mem_append_right _ (List.mem_of_getElem? (i := 1504) (by decide +kernel))
theorem k_1544 : (Jvm.Cond.code ({ cls := "HoopCabinetModel", name := "wideOf", desc := "(I)I" } : Jvm.MethodName) prog_12_method_17_code (2 : Nat) (Option.some Jvm.ClassFile.FieldType.int)) ∈ lw_tbl := List.mem_append_right _ (List.mem_of_getElem? (i := 1544) (by decide +kernel))
theorem k_1541 : (Jvm.Cond.methodLink "HoopCabinetModel" (238 : Nat) ({ cls := "HoopCabinetModel", name := "wideOf", desc := "(I)I" } : Jvm.MethodName)) ∈ lw_tbl := List.mem_append_right _ (List.mem_of_getElem? (i := 1541) (by decide +kernel))
theorem k_1543 : (Jvm.Cond.instanceMethod ({ cls := "HoopCabinetModel", name := "wideOf", desc := "(I)I" } : Jvm.MethodName)) ∈ lw_tbl := List.mem_append_right _ (List.mem_of_getElem? (i := 1543) (by decide +kernel))
theorem ks_72 : Cond.selects "HoopCabinetModel" ({ cls := "HoopCabinetModel", name := "wideOf", desc := "(I)I" } : Jvm.MethodName) ({ cls := "HoopCabinetModel", name := "wideOf", desc := "(I)I" } : Jvm.MethodName) ∈ lw_tbl := List.mem_append_left _ (List.mem_of_getElem? (i := 72) (by decide +kernel))
theorem k_1512 : (Jvm.Cond.code ({ cls := "HoopCabinetModel", name := "layWays", desc := "()V" } : Jvm.MethodName) prog_12_method_41_code (8 : Nat) (Option.none : Option Jvm.ClassFile.FieldType)) ∈ lw_tbl := List.mem_append_right _ (List.mem_of_getElem? (i := 1512) (by decide +kernel))
theorem k_1509 : (Jvm.Cond.methodLink "HoopCabinetModel" (241 : Nat) ({ cls := "HoopCabinetModel", name := "layWays", desc := "()V" } : Jvm.MethodName)) ∈ lw_tbl := List.mem_append_right _ (List.mem_of_getElem? (i := 1509) (by decide +kernel))
theorem k_1511 : (Jvm.Cond.instanceMethod ({ cls := "HoopCabinetModel", name := "layWays", desc := "()V" } : Jvm.MethodName)) ∈ lw_tbl := List.mem_append_right _ (List.mem_of_getElem? (i := 1511) (by decide +kernel))
theorem ks_65 : Cond.selects "HoopCabinetModel" ({ cls := "HoopCabinetModel", name := "layWays", desc := "()V" } : Jvm.MethodName) ({ cls := "HoopCabinetModel", name := "layWays", desc := "()V" } : Jvm.MethodName) ∈ lw_tbl := List.mem_append_left _ (List.mem_of_getElem? (i := 65) (by decide +kernel))
theorem k_1521 : (Jvm.Cond.code ({ cls := "HoopCabinetModel", name := "ladies", desc := "()I" } : Jvm.MethodName) prog_12_method_16_code (1 : Nat) (Option.some Jvm.ClassFile.FieldType.int)) ∈ lw_tbl := List.mem_append_right _ (List.mem_of_getElem? (i := 1521) (by decide +kernel))
theorem k_1518 : (Jvm.Cond.methodLink "HoopCabinetModel" (244 : Nat) ({ cls := "HoopCabinetModel", name := "ladies", desc := "()I" } : Jvm.MethodName)) ∈ lw_tbl := List.mem_append_right _ (List.mem_of_getElem? (i := 1518) (by decide +kernel))
theorem k_1520 : (Jvm.Cond.instanceMethod ({ cls := "HoopCabinetModel", name := "ladies", desc := "()I" } : Jvm.MethodName)) ∈ lw_tbl := List.mem_append_right _ (List.mem_of_getElem? (i := 1520) (by decide +kernel))
theorem ks_67 : Cond.selects "HoopCabinetModel" ({ cls := "HoopCabinetModel", name := "ladies", desc := "()I" } : Jvm.MethodName) ({ cls := "HoopCabinetModel", name := "ladies", desc := "()I" } : Jvm.MethodName) ∈ lw_tbl := List.mem_append_left _ (List.mem_of_getElem? (i := 67) (by decide +kernel))
theorem k_1525 : (Jvm.Cond.code ({ cls := "HoopCabinetModel", name := "dances", desc := "()I" } : Jvm.MethodName) prog_12_method_15_code (1 : Nat) (Option.some Jvm.ClassFile.FieldType.int)) ∈ lw_tbl := List.mem_append_right _ (List.mem_of_getElem? (i := 1525) (by decide +kernel))
theorem k_1522 : (Jvm.Cond.methodLink "HoopCabinetModel" (247 : Nat) ({ cls := "HoopCabinetModel", name := "dances", desc := "()I" } : Jvm.MethodName)) ∈ lw_tbl := List.mem_append_right _ (List.mem_of_getElem? (i := 1522) (by decide +kernel))
theorem k_1524 : (Jvm.Cond.instanceMethod ({ cls := "HoopCabinetModel", name := "dances", desc := "()I" } : Jvm.MethodName)) ∈ lw_tbl := List.mem_append_right _ (List.mem_of_getElem? (i := 1524) (by decide +kernel))
theorem ks_68 : Cond.selects "HoopCabinetModel" ({ cls := "HoopCabinetModel", name := "dances", desc := "()I" } : Jvm.MethodName) ({ cls := "HoopCabinetModel", name := "dances", desc := "()I" } : Jvm.MethodName) ∈ lw_tbl := List.mem_append_left _ (List.mem_of_getElem? (i := 68) (by decide +kernel))
theorem k_1262 : (Jvm.Cond.fieldLink "HoopCabinetModel" (249 : Nat) "HoopCabinetModel" "stayers" "I") ∈ lw_tbl := List.mem_append_right _ (List.mem_of_getElem? (i := 1262) (by decide +kernel))
theorem k_1528 : (Jvm.Cond.code ({ cls := "HoopCabinetModel", name := "bit", desc := "(II)I" } : Jvm.MethodName) prog_12_method_5_code (2 : Nat) (Option.some Jvm.ClassFile.FieldType.int)) ∈ lw_tbl := List.mem_append_right _ (List.mem_of_getElem? (i := 1528) (by decide +kernel))
theorem k_1526 : (Jvm.Cond.methodLink "HoopCabinetModel" (252 : Nat) ({ cls := "HoopCabinetModel", name := "bit", desc := "(II)I" } : Jvm.MethodName)) ∈ lw_tbl := List.mem_append_right _ (List.mem_of_getElem? (i := 1526) (by decide +kernel))
theorem k_1527 : (Jvm.Cond.static ({ cls := "HoopCabinetModel", name := "bit", desc := "(II)I" } : Jvm.MethodName)) ∈ lw_tbl := List.mem_append_right _ (List.mem_of_getElem? (i := 1527) (by decide +kernel))
theorem k_1532 : (Jvm.Cond.code ({ cls := "HoopCabinetModel", name := "atOf", desc := "(II)I" } : Jvm.MethodName) prog_12_method_42_code (3 : Nat) (Option.some Jvm.ClassFile.FieldType.int)) ∈ lw_tbl := List.mem_append_right _ (List.mem_of_getElem? (i := 1532) (by decide +kernel))
theorem k_1529 : (Jvm.Cond.methodLink "HoopCabinetModel" (255 : Nat) ({ cls := "HoopCabinetModel", name := "atOf", desc := "(II)I" } : Jvm.MethodName)) ∈ lw_tbl := List.mem_append_right _ (List.mem_of_getElem? (i := 1529) (by decide +kernel))
theorem k_1531 : (Jvm.Cond.instanceMethod ({ cls := "HoopCabinetModel", name := "atOf", desc := "(II)I" } : Jvm.MethodName)) ∈ lw_tbl := List.mem_append_right _ (List.mem_of_getElem? (i := 1531) (by decide +kernel))
theorem ks_69 : Cond.selects "HoopCabinetModel" ({ cls := "HoopCabinetModel", name := "atOf", desc := "(II)I" } : Jvm.MethodName) ({ cls := "HoopCabinetModel", name := "atOf", desc := "(II)I" } : Jvm.MethodName) ∈ lw_tbl := List.mem_append_left _ (List.mem_of_getElem? (i := 69) (by decide +kernel))
theorem k_1536 : (Jvm.Cond.code ({ cls := "HoopCabinetModel", name := "biddenOf", desc := "(II)I" } : Jvm.MethodName) prog_12_method_43_code (11 : Nat) (Option.some Jvm.ClassFile.FieldType.int)) ∈ lw_tbl := List.mem_append_right _ (List.mem_of_getElem? (i := 1536) (by decide +kernel))
theorem k_1533 : (Jvm.Cond.methodLink "HoopCabinetModel" (258 : Nat) ({ cls := "HoopCabinetModel", name := "biddenOf", desc := "(II)I" } : Jvm.MethodName)) ∈ lw_tbl := List.mem_append_right _ (List.mem_of_getElem? (i := 1533) (by decide +kernel))
theorem k_1535 : (Jvm.Cond.instanceMethod ({ cls := "HoopCabinetModel", name := "biddenOf", desc := "(II)I" } : Jvm.MethodName)) ∈ lw_tbl := List.mem_append_right _ (List.mem_of_getElem? (i := 1535) (by decide +kernel))
theorem ks_70 : Cond.selects "HoopCabinetModel" ({ cls := "HoopCabinetModel", name := "biddenOf", desc := "(II)I" } : Jvm.MethodName) ({ cls := "HoopCabinetModel", name := "biddenOf", desc := "(II)I" } : Jvm.MethodName) ∈ lw_tbl := List.mem_append_left _ (List.mem_of_getElem? (i := 70) (by decide +kernel))
theorem k_1540 : (Jvm.Cond.code ({ cls := "HoopCabinetModel", name := "nextRoom", desc := "(III)I" } : Jvm.MethodName) prog_12_method_44_code (6 : Nat) (Option.some Jvm.ClassFile.FieldType.int)) ∈ lw_tbl := List.mem_append_right _ (List.mem_of_getElem? (i := 1540) (by decide +kernel))
theorem k_1537 : (Jvm.Cond.methodLink "HoopCabinetModel" (261 : Nat) ({ cls := "HoopCabinetModel", name := "nextRoom", desc := "(III)I" } : Jvm.MethodName)) ∈ lw_tbl := List.mem_append_right _ (List.mem_of_getElem? (i := 1537) (by decide +kernel))
theorem k_1539 : (Jvm.Cond.instanceMethod ({ cls := "HoopCabinetModel", name := "nextRoom", desc := "(III)I" } : Jvm.MethodName)) ∈ lw_tbl := List.mem_append_right _ (List.mem_of_getElem? (i := 1539) (by decide +kernel))
theorem ks_71 : Cond.selects "HoopCabinetModel" ({ cls := "HoopCabinetModel", name := "nextRoom", desc := "(III)I" } : Jvm.MethodName) ({ cls := "HoopCabinetModel", name := "nextRoom", desc := "(III)I" } : Jvm.MethodName) ∈ lw_tbl := List.mem_append_left _ (List.mem_of_getElem? (i := 71) (by decide +kernel))
theorem k_1261 : (Jvm.Cond.fieldLink "HoopCabinetModel" (264 : Nat) "HoopCabinetModel" "gone" "I") ∈ lw_tbl := List.mem_append_right _ (List.mem_of_getElem? (i := 1261) (by decide +kernel))
theorem k_1263 : (Jvm.Cond.fieldLink "HoopCabinetModel" (267 : Nat) "HoopCabinetModel" "lawNow" "I") ∈ lw_tbl := List.mem_append_right _ (List.mem_of_getElem? (i := 1263) (by decide +kernel))
theorem k_1264 : (Jvm.Cond.fieldLink "HoopCabinetModel" (270 : Nat) "HoopCabinetModel" "loudSet" "I") ∈ lw_tbl := List.mem_append_right _ (List.mem_of_getElem? (i := 1264) (by decide +kernel))
theorem k_1503 : (Jvm.Cond.code ({ cls := "HoopCabinetModel", name := "layMinisters", desc := "()V" } : Jvm.MethodName) prog_12_method_46_code (3 : Nat) (Option.none : Option Jvm.ClassFile.FieldType)) ∈ lw_tbl := List.mem_append_right _ (List.mem_of_getElem? (i := 1503) (by decide +kernel))
theorem k_1500 : (Jvm.Cond.methodLink "HoopCabinetModel" (273 : Nat) ({ cls := "HoopCabinetModel", name := "layMinisters", desc := "()V" } : Jvm.MethodName)) ∈ lw_tbl := List.mem_append_right _ (List.mem_of_getElem? (i := 1500) (by decide +kernel))
theorem k_1502 : (Jvm.Cond.instanceMethod ({ cls := "HoopCabinetModel", name := "layMinisters", desc := "()V" } : Jvm.MethodName)) ∈ lw_tbl := List.mem_append_right _ (List.mem_of_getElem? (i := 1502) (by decide +kernel))
theorem ks_63 : Cond.selects "HoopCabinetModel" ({ cls := "HoopCabinetModel", name := "layMinisters", desc := "()V" } : Jvm.MethodName) ({ cls := "HoopCabinetModel", name := "layMinisters", desc := "()V" } : Jvm.MethodName) ∈ lw_tbl := List.mem_append_left _ (List.mem_of_getElem? (i := 63) (by decide +kernel))
theorem k_1508 : (Jvm.Cond.code ({ cls := "HoopCabinetModel", name := "layPlaces", desc := "()V" } : Jvm.MethodName) prog_12_method_45_code (3 : Nat) (Option.none : Option Jvm.ClassFile.FieldType)) ∈ lw_tbl := List.mem_append_right _ (List.mem_of_getElem? (i := 1508) (by decide +kernel))
theorem k_1505 : (Jvm.Cond.methodLink "HoopCabinetModel" (276 : Nat) ({ cls := "HoopCabinetModel", name := "layPlaces", desc := "()V" } : Jvm.MethodName)) ∈ lw_tbl := List.mem_append_right _ (List.mem_of_getElem? (i := 1505) (by decide +kernel))
theorem k_1507 : (Jvm.Cond.instanceMethod ({ cls := "HoopCabinetModel", name := "layPlaces", desc := "()V" } : Jvm.MethodName)) ∈ lw_tbl := List.mem_append_right _ (List.mem_of_getElem? (i := 1507) (by decide +kernel))
theorem ks_64 : Cond.selects "HoopCabinetModel" ({ cls := "HoopCabinetModel", name := "layPlaces", desc := "()V" } : Jvm.MethodName) ({ cls := "HoopCabinetModel", name := "layPlaces", desc := "()V" } : Jvm.MethodName) ∈ lw_tbl := List.mem_append_left _ (List.mem_of_getElem? (i := 64) (by decide +kernel))
theorem k_1499 : (Jvm.Cond.code ({ cls := "HoopCabinetModel", name := "asItIs", desc := "()V" } : Jvm.MethodName) prog_12_method_47_code (1 : Nat) (Option.none : Option Jvm.ClassFile.FieldType)) ∈ lw_tbl := List.mem_append_right _ (List.mem_of_getElem? (i := 1499) (by decide +kernel))
theorem k_1496 : (Jvm.Cond.methodLink "HoopCabinetModel" (279 : Nat) ({ cls := "HoopCabinetModel", name := "asItIs", desc := "()V" } : Jvm.MethodName)) ∈ lw_tbl := List.mem_append_right _ (List.mem_of_getElem? (i := 1496) (by decide +kernel))
theorem k_1498 : (Jvm.Cond.instanceMethod ({ cls := "HoopCabinetModel", name := "asItIs", desc := "()V" } : Jvm.MethodName)) ∈ lw_tbl := List.mem_append_right _ (List.mem_of_getElem? (i := 1498) (by decide +kernel))
theorem ks_62 : Cond.selects "HoopCabinetModel" ({ cls := "HoopCabinetModel", name := "asItIs", desc := "()V" } : Jvm.MethodName) ({ cls := "HoopCabinetModel", name := "asItIs", desc := "()V" } : Jvm.MethodName) ∈ lw_tbl := List.mem_append_left _ (List.mem_of_getElem? (i := 62) (by decide +kernel))
theorem k_1572 : (Jvm.Cond.code ({ cls := "HoopCabinetModel", name := "isDance", desc := "(J)Z" } : Jvm.MethodName) prog_12_method_10_code (3 : Nat) (Option.some Jvm.ClassFile.FieldType.boolean)) ∈ lw_tbl := List.mem_append_right _ (List.mem_of_getElem? (i := 1572) (by decide +kernel))
theorem k_1569 : (Jvm.Cond.methodLink "HoopCabinetModel" (282 : Nat) ({ cls := "HoopCabinetModel", name := "isDance", desc := "(J)Z" } : Jvm.MethodName)) ∈ lw_tbl := List.mem_append_right _ (List.mem_of_getElem? (i := 1569) (by decide +kernel))
theorem k_1571 : (Jvm.Cond.instanceMethod ({ cls := "HoopCabinetModel", name := "isDance", desc := "(J)Z" } : Jvm.MethodName)) ∈ lw_tbl := List.mem_append_right _ (List.mem_of_getElem? (i := 1571) (by decide +kernel))
theorem ks_76 : Cond.selects "HoopCabinetModel" ({ cls := "HoopCabinetModel", name := "isDance", desc := "(J)Z" } : Jvm.MethodName) ({ cls := "HoopCabinetModel", name := "isDance", desc := "(J)Z" } : Jvm.MethodName) ∈ lw_tbl := List.mem_append_left _ (List.mem_of_getElem? (i := 76) (by decide +kernel))
theorem k_1548 : (Jvm.Cond.code ({ cls := "HoopCabinetModel", name := "isMinister", desc := "(I)Z" } : Jvm.MethodName) prog_12_method_13_code (2 : Nat) (Option.some Jvm.ClassFile.FieldType.boolean)) ∈ lw_tbl := List.mem_append_right _ (List.mem_of_getElem? (i := 1548) (by decide +kernel))
theorem k_1545 : (Jvm.Cond.methodLink "HoopCabinetModel" (285 : Nat) ({ cls := "HoopCabinetModel", name := "isMinister", desc := "(I)Z" } : Jvm.MethodName)) ∈ lw_tbl := List.mem_append_right _ (List.mem_of_getElem? (i := 1545) (by decide +kernel))
theorem k_1547 : (Jvm.Cond.instanceMethod ({ cls := "HoopCabinetModel", name := "isMinister", desc := "(I)Z" } : Jvm.MethodName)) ∈ lw_tbl := List.mem_append_right _ (List.mem_of_getElem? (i := 1547) (by decide +kernel))
theorem ks_73 : Cond.selects "HoopCabinetModel" ({ cls := "HoopCabinetModel", name := "isMinister", desc := "(I)Z" } : Jvm.MethodName) ({ cls := "HoopCabinetModel", name := "isMinister", desc := "(I)Z" } : Jvm.MethodName) ∈ lw_tbl := List.mem_append_left _ (List.mem_of_getElem? (i := 73) (by decide +kernel))
theorem k_1556 : (Jvm.Cond.code ({ cls := "HoopCabinetModel", name := "asksLady", desc := "(I)Z" } : Jvm.MethodName) prog_12_method_49_code (2 : Nat) (Option.some Jvm.ClassFile.FieldType.boolean)) ∈ lw_tbl := List.mem_append_right _ (List.mem_of_getElem? (i := 1556) (by decide +kernel))
theorem k_1553 : (Jvm.Cond.methodLink "HoopCabinetModel" (288 : Nat) ({ cls := "HoopCabinetModel", name := "asksLady", desc := "(I)Z" } : Jvm.MethodName)) ∈ lw_tbl := List.mem_append_right _ (List.mem_of_getElem? (i := 1553) (by decide +kernel))
theorem k_1555 : (Jvm.Cond.instanceMethod ({ cls := "HoopCabinetModel", name := "asksLady", desc := "(I)Z" } : Jvm.MethodName)) ∈ lw_tbl := List.mem_append_right _ (List.mem_of_getElem? (i := 1555) (by decide +kernel))
theorem ks_74 : Cond.selects "HoopCabinetModel" ({ cls := "HoopCabinetModel", name := "asksLady", desc := "(I)Z" } : Jvm.MethodName) ({ cls := "HoopCabinetModel", name := "asksLady", desc := "(I)Z" } : Jvm.MethodName) ∈ lw_tbl := List.mem_append_left _ (List.mem_of_getElem? (i := 74) (by decide +kernel))
theorem k_1560 : (Jvm.Cond.code ({ cls := "HoopCabinetModel", name := "isRoom", desc := "(I)Z" } : Jvm.MethodName) prog_12_method_9_code (2 : Nat) (Option.some Jvm.ClassFile.FieldType.boolean)) ∈ lw_tbl := List.mem_append_right _ (List.mem_of_getElem? (i := 1560) (by decide +kernel))
theorem k_1557 : (Jvm.Cond.methodLink "HoopCabinetModel" (291 : Nat) ({ cls := "HoopCabinetModel", name := "isRoom", desc := "(I)Z" } : Jvm.MethodName)) ∈ lw_tbl := List.mem_append_right _ (List.mem_of_getElem? (i := 1557) (by decide +kernel))
theorem k_1559 : (Jvm.Cond.instanceMethod ({ cls := "HoopCabinetModel", name := "isRoom", desc := "(I)Z" } : Jvm.MethodName)) ∈ lw_tbl := List.mem_append_right _ (List.mem_of_getElem? (i := 1559) (by decide +kernel))
theorem ks_75 : Cond.selects "HoopCabinetModel" ({ cls := "HoopCabinetModel", name := "isRoom", desc := "(I)Z" } : Jvm.MethodName) ({ cls := "HoopCabinetModel", name := "isRoom", desc := "(I)Z" } : Jvm.MethodName) ∈ lw_tbl := List.mem_append_left _ (List.mem_of_getElem? (i := 75) (by decide +kernel))
theorem k_1584 : (Jvm.Cond.code ({ cls := "HoopCabinetModel", name := "asksDance", desc := "(I)Z" } : Jvm.MethodName) prog_12_method_50_code (2 : Nat) (Option.some Jvm.ClassFile.FieldType.boolean)) ∈ lw_tbl := List.mem_append_right _ (List.mem_of_getElem? (i := 1584) (by decide +kernel))
theorem k_1581 : (Jvm.Cond.methodLink "HoopCabinetModel" (294 : Nat) ({ cls := "HoopCabinetModel", name := "asksDance", desc := "(I)Z" } : Jvm.MethodName)) ∈ lw_tbl := List.mem_append_right _ (List.mem_of_getElem? (i := 1581) (by decide +kernel))
theorem k_1583 : (Jvm.Cond.instanceMethod ({ cls := "HoopCabinetModel", name := "asksDance", desc := "(I)Z" } : Jvm.MethodName)) ∈ lw_tbl := List.mem_append_right _ (List.mem_of_getElem? (i := 1583) (by decide +kernel))
theorem ks_78 : Cond.selects "HoopCabinetModel" ({ cls := "HoopCabinetModel", name := "asksDance", desc := "(I)Z" } : Jvm.MethodName) ({ cls := "HoopCabinetModel", name := "asksDance", desc := "(I)Z" } : Jvm.MethodName) ∈ lw_tbl := List.mem_append_left _ (List.mem_of_getElem? (i := 78) (by decide +kernel))
theorem k_1592 : (Jvm.Cond.code ({ cls := "HoopCabinetModel", name := "withinOf", desc := "(II)I" } : Jvm.MethodName) prog_12_method_57_code (5 : Nat) (Option.some Jvm.ClassFile.FieldType.int)) ∈ lw_tbl := List.mem_append_right _ (List.mem_of_getElem? (i := 1592) (by decide +kernel))
theorem k_1589 : (Jvm.Cond.methodLink "HoopCabinetModel" (297 : Nat) ({ cls := "HoopCabinetModel", name := "withinOf", desc := "(II)I" } : Jvm.MethodName)) ∈ lw_tbl := List.mem_append_right _ (List.mem_of_getElem? (i := 1589) (by decide +kernel))
theorem k_1591 : (Jvm.Cond.instanceMethod ({ cls := "HoopCabinetModel", name := "withinOf", desc := "(II)I" } : Jvm.MethodName)) ∈ lw_tbl := List.mem_append_right _ (List.mem_of_getElem? (i := 1591) (by decide +kernel))
theorem ks_79 : Cond.selects "HoopCabinetModel" ({ cls := "HoopCabinetModel", name := "withinOf", desc := "(II)I" } : Jvm.MethodName) ({ cls := "HoopCabinetModel", name := "withinOf", desc := "(II)I" } : Jvm.MethodName) ∈ lw_tbl := List.mem_append_left _ (List.mem_of_getElem? (i := 79) (by decide +kernel))
theorem k_1600 : (Jvm.Cond.code ({ cls := "HoopCabinetModel", name := "stepsOf", desc := "(I)I" } : Jvm.MethodName) prog_12_method_59_code (4 : Nat) (Option.some Jvm.ClassFile.FieldType.int)) ∈ lw_tbl := List.mem_append_right _ (List.mem_of_getElem? (i := 1600) (by decide +kernel))
theorem k_1597 : (Jvm.Cond.methodLink "HoopCabinetModel" (300 : Nat) ({ cls := "HoopCabinetModel", name := "stepsOf", desc := "(I)I" } : Jvm.MethodName)) ∈ lw_tbl := List.mem_append_right _ (List.mem_of_getElem? (i := 1597) (by decide +kernel))
theorem k_1599 : (Jvm.Cond.instanceMethod ({ cls := "HoopCabinetModel", name := "stepsOf", desc := "(I)I" } : Jvm.MethodName)) ∈ lw_tbl := List.mem_append_right _ (List.mem_of_getElem? (i := 1599) (by decide +kernel))
theorem ks_80 : Cond.selects "HoopCabinetModel" ({ cls := "HoopCabinetModel", name := "stepsOf", desc := "(I)I" } : Jvm.MethodName) ({ cls := "HoopCabinetModel", name := "stepsOf", desc := "(I)I" } : Jvm.MethodName) ∈ lw_tbl := List.mem_append_left _ (List.mem_of_getElem? (i := 80) (by decide +kernel))
theorem k_1616 : (Jvm.Cond.code ({ cls := "HoopCabinetModel", name := "doMeet", desc := "(III)Z" } : Jvm.MethodName) prog_12_method_51_code (4 : Nat) (Option.some Jvm.ClassFile.FieldType.boolean)) ∈ lw_tbl := List.mem_append_right _ (List.mem_of_getElem? (i := 1616) (by decide +kernel))
theorem k_1613 : (Jvm.Cond.methodLink "HoopCabinetModel" (303 : Nat) ({ cls := "HoopCabinetModel", name := "doMeet", desc := "(III)Z" } : Jvm.MethodName)) ∈ lw_tbl := List.mem_append_right _ (List.mem_of_getElem? (i := 1613) (by decide +kernel))
theorem k_1615 : (Jvm.Cond.instanceMethod ({ cls := "HoopCabinetModel", name := "doMeet", desc := "(III)Z" } : Jvm.MethodName)) ∈ lw_tbl := List.mem_append_right _ (List.mem_of_getElem? (i := 1615) (by decide +kernel))
theorem ks_82 : Cond.selects "HoopCabinetModel" ({ cls := "HoopCabinetModel", name := "doMeet", desc := "(III)Z" } : Jvm.MethodName) ({ cls := "HoopCabinetModel", name := "doMeet", desc := "(III)Z" } : Jvm.MethodName) ∈ lw_tbl := List.mem_append_left _ (List.mem_of_getElem? (i := 82) (by decide +kernel))
theorem k_1612 : (Jvm.Cond.code ({ cls := "HoopCabinetModel", name := "firstMeet", desc := "(II)I" } : Jvm.MethodName) prog_12_method_62_code (4 : Nat) (Option.some Jvm.ClassFile.FieldType.int)) ∈ lw_tbl := List.mem_append_right _ (List.mem_of_getElem? (i := 1612) (by decide +kernel))
theorem k_1609 : (Jvm.Cond.methodLink "HoopCabinetModel" (307 : Nat) ({ cls := "HoopCabinetModel", name := "firstMeet", desc := "(II)I" } : Jvm.MethodName)) ∈ lw_tbl := List.mem_append_right _ (List.mem_of_getElem? (i := 1609) (by decide +kernel))
theorem k_1611 : (Jvm.Cond.instanceMethod ({ cls := "HoopCabinetModel", name := "firstMeet", desc := "(II)I" } : Jvm.MethodName)) ∈ lw_tbl := List.mem_append_right _ (List.mem_of_getElem? (i := 1611) (by decide +kernel))
theorem ks_81 : Cond.selects "HoopCabinetModel" ({ cls := "HoopCabinetModel", name := "firstMeet", desc := "(II)I" } : Jvm.MethodName) ({ cls := "HoopCabinetModel", name := "firstMeet", desc := "(II)I" } : Jvm.MethodName) ∈ lw_tbl := List.mem_append_left _ (List.mem_of_getElem? (i := 81) (by decide +kernel))
theorem k_1624 : (Jvm.Cond.code ({ cls := "HoopCabinetModel", name := "oftenMeet", desc := "(II)I" } : Jvm.MethodName) prog_12_method_64_code (5 : Nat) (Option.some Jvm.ClassFile.FieldType.int)) ∈ lw_tbl := List.mem_append_right _ (List.mem_of_getElem? (i := 1624) (by decide +kernel))
theorem k_1621 : (Jvm.Cond.methodLink "HoopCabinetModel" (310 : Nat) ({ cls := "HoopCabinetModel", name := "oftenMeet", desc := "(II)I" } : Jvm.MethodName)) ∈ lw_tbl := List.mem_append_right _ (List.mem_of_getElem? (i := 1621) (by decide +kernel))
theorem k_1623 : (Jvm.Cond.instanceMethod ({ cls := "HoopCabinetModel", name := "oftenMeet", desc := "(II)I" } : Jvm.MethodName)) ∈ lw_tbl := List.mem_append_right _ (List.mem_of_getElem? (i := 1623) (by decide +kernel))
theorem ks_83 : Cond.selects "HoopCabinetModel" ({ cls := "HoopCabinetModel", name := "oftenMeet", desc := "(II)I" } : Jvm.MethodName) ({ cls := "HoopCabinetModel", name := "oftenMeet", desc := "(II)I" } : Jvm.MethodName) ∈ lw_tbl := List.mem_append_left _ (List.mem_of_getElem? (i := 83) (by decide +kernel))
theorem k_1632 : (Jvm.Cond.code ({ cls := "HoopCabinetModel", name := "friendsOf", desc := "(I)I" } : Jvm.MethodName) prog_12_method_66_code (4 : Nat) (Option.some Jvm.ClassFile.FieldType.int)) ∈ lw_tbl := List.mem_append_right _ (List.mem_of_getElem? (i := 1632) (by decide +kernel))
theorem k_1629 : (Jvm.Cond.methodLink "HoopCabinetModel" (313 : Nat) ({ cls := "HoopCabinetModel", name := "friendsOf", desc := "(I)I" } : Jvm.MethodName)) ∈ lw_tbl := List.mem_append_right _ (List.mem_of_getElem? (i := 1629) (by decide +kernel))
theorem k_1631 : (Jvm.Cond.instanceMethod ({ cls := "HoopCabinetModel", name := "friendsOf", desc := "(I)I" } : Jvm.MethodName)) ∈ lw_tbl := List.mem_append_right _ (List.mem_of_getElem? (i := 1631) (by decide +kernel))
theorem ks_84 : Cond.selects "HoopCabinetModel" ({ cls := "HoopCabinetModel", name := "friendsOf", desc := "(I)I" } : Jvm.MethodName) ({ cls := "HoopCabinetModel", name := "friendsOf", desc := "(I)I" } : Jvm.MethodName) ∈ lw_tbl := List.mem_append_left _ (List.mem_of_getElem? (i := 84) (by decide +kernel))
theorem k_1265 : (Jvm.Cond.fieldLink "HoopCabinetModel" (316 : Nat) "HoopCabinetModel" "crushMost" "I") ∈ lw_tbl := List.mem_append_right _ (List.mem_of_getElem? (i := 1265) (by decide +kernel))
theorem k_1647 : (Jvm.Cond.code ({ cls := "HoopCabinetModel", name := "bits", desc := "(I)I" } : Jvm.MethodName) prog_12_method_4_code (3 : Nat) (Option.some Jvm.ClassFile.FieldType.int)) ∈ lw_tbl := List.mem_append_right _ (List.mem_of_getElem? (i := 1647) (by decide +kernel))
theorem k_1645 : (Jvm.Cond.methodLink "HoopCabinetModel" (319 : Nat) ({ cls := "HoopCabinetModel", name := "bits", desc := "(I)I" } : Jvm.MethodName)) ∈ lw_tbl := List.mem_append_right _ (List.mem_of_getElem? (i := 1645) (by decide +kernel))
theorem k_1646 : (Jvm.Cond.static ({ cls := "HoopCabinetModel", name := "bits", desc := "(I)I" } : Jvm.MethodName)) ∈ lw_tbl := List.mem_append_right _ (List.mem_of_getElem? (i := 1646) (by decide +kernel))
theorem k_1640 : (Jvm.Cond.code ({ cls := "HoopCabinetModel", name := "asksBall", desc := "()Z" } : Jvm.MethodName) prog_12_method_48_code (1 : Nat) (Option.some Jvm.ClassFile.FieldType.boolean)) ∈ lw_tbl := List.mem_append_right _ (List.mem_of_getElem? (i := 1640) (by decide +kernel))
theorem k_1637 : (Jvm.Cond.methodLink "HoopCabinetModel" (322 : Nat) ({ cls := "HoopCabinetModel", name := "asksBall", desc := "()Z" } : Jvm.MethodName)) ∈ lw_tbl := List.mem_append_right _ (List.mem_of_getElem? (i := 1637) (by decide +kernel))
theorem k_1639 : (Jvm.Cond.instanceMethod ({ cls := "HoopCabinetModel", name := "asksBall", desc := "()Z" } : Jvm.MethodName)) ∈ lw_tbl := List.mem_append_right _ (List.mem_of_getElem? (i := 1639) (by decide +kernel))
theorem ks_85 : Cond.selects "HoopCabinetModel" ({ cls := "HoopCabinetModel", name := "asksBall", desc := "()Z" } : Jvm.MethodName) ({ cls := "HoopCabinetModel", name := "asksBall", desc := "()Z" } : Jvm.MethodName) ∈ lw_tbl := List.mem_append_left _ (List.mem_of_getElem? (i := 85) (by decide +kernel))
theorem k_1644 : (Jvm.Cond.code ({ cls := "HoopCabinetModel", name := "crushOf", desc := "()I" } : Jvm.MethodName) prog_12_method_68_code (5 : Nat) (Option.some Jvm.ClassFile.FieldType.int)) ∈ lw_tbl := List.mem_append_right _ (List.mem_of_getElem? (i := 1644) (by decide +kernel))
theorem k_1641 : (Jvm.Cond.methodLink "HoopCabinetModel" (325 : Nat) ({ cls := "HoopCabinetModel", name := "crushOf", desc := "()I" } : Jvm.MethodName)) ∈ lw_tbl := List.mem_append_right _ (List.mem_of_getElem? (i := 1641) (by decide +kernel))
theorem k_1643 : (Jvm.Cond.instanceMethod ({ cls := "HoopCabinetModel", name := "crushOf", desc := "()I" } : Jvm.MethodName)) ∈ lw_tbl := List.mem_append_right _ (List.mem_of_getElem? (i := 1643) (by decide +kernel))
theorem ks_86 : Cond.selects "HoopCabinetModel" ({ cls := "HoopCabinetModel", name := "crushOf", desc := "()I" } : Jvm.MethodName) ({ cls := "HoopCabinetModel", name := "crushOf", desc := "()I" } : Jvm.MethodName) ∈ lw_tbl := List.mem_append_left _ (List.mem_of_getElem? (i := 86) (by decide +kernel))
theorem k_1695 : (Jvm.Cond.code ({ cls := "HoopCabinetModel", name := "doesGive", desc := "(II)Z" } : Jvm.MethodName) prog_12_method_78_code (4 : Nat) (Option.some Jvm.ClassFile.FieldType.boolean)) ∈ lw_tbl := List.mem_append_right _ (List.mem_of_getElem? (i := 1695) (by decide +kernel))
theorem k_1692 : (Jvm.Cond.methodLink "HoopCabinetModel" (328 : Nat) ({ cls := "HoopCabinetModel", name := "doesGive", desc := "(II)Z" } : Jvm.MethodName)) ∈ lw_tbl := List.mem_append_right _ (List.mem_of_getElem? (i := 1692) (by decide +kernel))
theorem k_1694 : (Jvm.Cond.instanceMethod ({ cls := "HoopCabinetModel", name := "doesGive", desc := "(II)Z" } : Jvm.MethodName)) ∈ lw_tbl := List.mem_append_right _ (List.mem_of_getElem? (i := 1694) (by decide +kernel))
theorem ks_89 : Cond.selects "HoopCabinetModel" ({ cls := "HoopCabinetModel", name := "doesGive", desc := "(II)Z" } : Jvm.MethodName) ({ cls := "HoopCabinetModel", name := "doesGive", desc := "(II)Z" } : Jvm.MethodName) ∈ lw_tbl := List.mem_append_left _ (List.mem_of_getElem? (i := 89) (by decide +kernel))
theorem k_1691 : (Jvm.Cond.code ({ cls := "HoopCabinetModel", name := "giverTo", desc := "(III)I" } : Jvm.MethodName) prog_12_method_79_code (5 : Nat) (Option.some Jvm.ClassFile.FieldType.int)) ∈ lw_tbl := List.mem_append_right _ (List.mem_of_getElem? (i := 1691) (by decide +kernel))
theorem k_1688 : (Jvm.Cond.methodLink "HoopCabinetModel" (332 : Nat) ({ cls := "HoopCabinetModel", name := "giverTo", desc := "(III)I" } : Jvm.MethodName)) ∈ lw_tbl := List.mem_append_right _ (List.mem_of_getElem? (i := 1688) (by decide +kernel))
theorem k_1690 : (Jvm.Cond.instanceMethod ({ cls := "HoopCabinetModel", name := "giverTo", desc := "(III)I" } : Jvm.MethodName)) ∈ lw_tbl := List.mem_append_right _ (List.mem_of_getElem? (i := 1690) (by decide +kernel))
theorem ks_88 : Cond.selects "HoopCabinetModel" ({ cls := "HoopCabinetModel", name := "giverTo", desc := "(III)I" } : Jvm.MethodName) ({ cls := "HoopCabinetModel", name := "giverTo", desc := "(III)I" } : Jvm.MethodName) ∈ lw_tbl := List.mem_append_left _ (List.mem_of_getElem? (i := 88) (by decide +kernel))
theorem k_1687 : (Jvm.Cond.code ({ cls := "HoopCabinetModel", name := "goNote", desc := "(II)I" } : Jvm.MethodName) prog_12_method_80_code (8 : Nat) (Option.some Jvm.ClassFile.FieldType.int)) ∈ lw_tbl := List.mem_append_right _ (List.mem_of_getElem? (i := 1687) (by decide +kernel))
theorem k_1684 : (Jvm.Cond.methodLink "HoopCabinetModel" (335 : Nat) ({ cls := "HoopCabinetModel", name := "goNote", desc := "(II)I" } : Jvm.MethodName)) ∈ lw_tbl := List.mem_append_right _ (List.mem_of_getElem? (i := 1684) (by decide +kernel))
theorem k_1686 : (Jvm.Cond.instanceMethod ({ cls := "HoopCabinetModel", name := "goNote", desc := "(II)I" } : Jvm.MethodName)) ∈ lw_tbl := List.mem_append_right _ (List.mem_of_getElem? (i := 1686) (by decide +kernel))
theorem ks_87 : Cond.selects "HoopCabinetModel" ({ cls := "HoopCabinetModel", name := "goNote", desc := "(II)I" } : Jvm.MethodName) ({ cls := "HoopCabinetModel", name := "goNote", desc := "(II)I" } : Jvm.MethodName) ∈ lw_tbl := List.mem_append_left _ (List.mem_of_getElem? (i := 87) (by decide +kernel))
theorem k_1707 : (Jvm.Cond.code ({ cls := "HoopCabinetModel", name := "goNote", desc := "(I)I" } : Jvm.MethodName) prog_12_method_81_code (2 : Nat) (Option.some Jvm.ClassFile.FieldType.int)) ∈ lw_tbl := List.mem_append_right _ (List.mem_of_getElem? (i := 1707) (by decide +kernel))
theorem k_1704 : (Jvm.Cond.methodLink "HoopCabinetModel" (338 : Nat) ({ cls := "HoopCabinetModel", name := "goNote", desc := "(I)I" } : Jvm.MethodName)) ∈ lw_tbl := List.mem_append_right _ (List.mem_of_getElem? (i := 1704) (by decide +kernel))
theorem k_1706 : (Jvm.Cond.instanceMethod ({ cls := "HoopCabinetModel", name := "goNote", desc := "(I)I" } : Jvm.MethodName)) ∈ lw_tbl := List.mem_append_right _ (List.mem_of_getElem? (i := 1706) (by decide +kernel))
theorem ks_91 : Cond.selects "HoopCabinetModel" ({ cls := "HoopCabinetModel", name := "goNote", desc := "(I)I" } : Jvm.MethodName) ({ cls := "HoopCabinetModel", name := "goNote", desc := "(I)I" } : Jvm.MethodName) ∈ lw_tbl := List.mem_append_left _ (List.mem_of_getElem? (i := 91) (by decide +kernel))
theorem k_1703 : (Jvm.Cond.code ({ cls := "HoopCabinetModel", name := "asksNote", desc := "(II)Z" } : Jvm.MethodName) prog_12_method_83_code (3 : Nat) (Option.some Jvm.ClassFile.FieldType.boolean)) ∈ lw_tbl := List.mem_append_right _ (List.mem_of_getElem? (i := 1703) (by decide +kernel))
theorem k_1700 : (Jvm.Cond.methodLink "HoopCabinetModel" (340 : Nat) ({ cls := "HoopCabinetModel", name := "asksNote", desc := "(II)Z" } : Jvm.MethodName)) ∈ lw_tbl := List.mem_append_right _ (List.mem_of_getElem? (i := 1700) (by decide +kernel))
theorem k_1702 : (Jvm.Cond.instanceMethod ({ cls := "HoopCabinetModel", name := "asksNote", desc := "(II)Z" } : Jvm.MethodName)) ∈ lw_tbl := List.mem_append_right _ (List.mem_of_getElem? (i := 1702) (by decide +kernel))
theorem ks_90 : Cond.selects "HoopCabinetModel" ({ cls := "HoopCabinetModel", name := "asksNote", desc := "(II)Z" } : Jvm.MethodName) ({ cls := "HoopCabinetModel", name := "asksNote", desc := "(II)Z" } : Jvm.MethodName) ∈ lw_tbl := List.mem_append_left _ (List.mem_of_getElem? (i := 90) (by decide +kernel))
theorem k_1728 : (Jvm.Cond.methodLink "HoopCabinetModel" (343 : Nat) ({ cls := "java/lang/Math", name := "max", desc := "(II)I" } : Jvm.MethodName)) ∈ lw_tbl := List.mem_append_right _ (List.mem_of_getElem? (i := 1728) (by decide +kernel))
theorem k_1737 : (Jvm.Cond.constantLong "HoopCabinetModel" (346 : Nat) (3 : Int64)) ∈ lw_tbl := List.mem_append_right _ (List.mem_of_getElem? (i := 1737) (by decide +kernel))
theorem k_1761 : (Jvm.Cond.code ({ cls := "HoopCabinetModel", name := "takesIn", desc := "(IIII)Z" } : Jvm.MethodName) prog_12_method_94_code (6 : Nat) (Option.some Jvm.ClassFile.FieldType.boolean)) ∈ lw_tbl := List.mem_append_right _ (List.mem_of_getElem? (i := 1761) (by decide +kernel))
theorem k_1758 : (Jvm.Cond.methodLink "HoopCabinetModel" (348 : Nat) ({ cls := "HoopCabinetModel", name := "takesIn", desc := "(IIII)Z" } : Jvm.MethodName)) ∈ lw_tbl := List.mem_append_right _ (List.mem_of_getElem? (i := 1758) (by decide +kernel))
theorem k_1760 : (Jvm.Cond.instanceMethod ({ cls := "HoopCabinetModel", name := "takesIn", desc := "(IIII)Z" } : Jvm.MethodName)) ∈ lw_tbl := List.mem_append_right _ (List.mem_of_getElem? (i := 1760) (by decide +kernel))
theorem ks_95 : Cond.selects "HoopCabinetModel" ({ cls := "HoopCabinetModel", name := "takesIn", desc := "(IIII)Z" } : Jvm.MethodName) ({ cls := "HoopCabinetModel", name := "takesIn", desc := "(IIII)Z" } : Jvm.MethodName) ∈ lw_tbl := List.mem_append_left _ (List.mem_of_getElem? (i := 95) (by decide +kernel))
theorem k_1765 : (Jvm.Cond.code ({ cls := "HoopCabinetModel", name := "isBeside", desc := "(III)Z" } : Jvm.MethodName) prog_12_method_95_code (4 : Nat) (Option.some Jvm.ClassFile.FieldType.boolean)) ∈ lw_tbl := List.mem_append_right _ (List.mem_of_getElem? (i := 1765) (by decide +kernel))
theorem k_1762 : (Jvm.Cond.methodLink "HoopCabinetModel" (352 : Nat) ({ cls := "HoopCabinetModel", name := "isBeside", desc := "(III)Z" } : Jvm.MethodName)) ∈ lw_tbl := List.mem_append_right _ (List.mem_of_getElem? (i := 1762) (by decide +kernel))
theorem k_1764 : (Jvm.Cond.instanceMethod ({ cls := "HoopCabinetModel", name := "isBeside", desc := "(III)Z" } : Jvm.MethodName)) ∈ lw_tbl := List.mem_append_right _ (List.mem_of_getElem? (i := 1764) (by decide +kernel))
theorem ks_96 : Cond.selects "HoopCabinetModel" ({ cls := "HoopCabinetModel", name := "isBeside", desc := "(III)Z" } : Jvm.MethodName) ({ cls := "HoopCabinetModel", name := "isBeside", desc := "(III)Z" } : Jvm.MethodName) ∈ lw_tbl := List.mem_append_left _ (List.mem_of_getElem? (i := 96) (by decide +kernel))
theorem k_1768 : (Jvm.Cond.code ({ cls := "HoopCabinetModel", name := "carryState", desc := "(III)I" } : Jvm.MethodName) prog_12_method_93_code (3 : Nat) (Option.some Jvm.ClassFile.FieldType.int)) ∈ lw_tbl := List.mem_append_right _ (List.mem_of_getElem? (i := 1768) (by decide +kernel))
theorem k_1766 : (Jvm.Cond.methodLink "HoopCabinetModel" (355 : Nat) ({ cls := "HoopCabinetModel", name := "carryState", desc := "(III)I" } : Jvm.MethodName)) ∈ lw_tbl := List.mem_append_right _ (List.mem_of_getElem? (i := 1766) (by decide +kernel))
theorem k_1767 : (Jvm.Cond.static ({ cls := "HoopCabinetModel", name := "carryState", desc := "(III)I" } : Jvm.MethodName)) ∈ lw_tbl := List.mem_append_right _ (List.mem_of_getElem? (i := 1767) (by decide +kernel))
theorem k_1757 : (Jvm.Cond.code ({ cls := "HoopCabinetModel", name := "layCarry", desc := "(IIII)V" } : Jvm.MethodName) prog_12_method_96_code (12 : Nat) (Option.none : Option Jvm.ClassFile.FieldType)) ∈ lw_tbl := List.mem_append_right _ (List.mem_of_getElem? (i := 1757) (by decide +kernel))
theorem k_1754 : (Jvm.Cond.methodLink "HoopCabinetModel" (358 : Nat) ({ cls := "HoopCabinetModel", name := "layCarry", desc := "(IIII)V" } : Jvm.MethodName)) ∈ lw_tbl := List.mem_append_right _ (List.mem_of_getElem? (i := 1754) (by decide +kernel))
theorem k_1756 : (Jvm.Cond.instanceMethod ({ cls := "HoopCabinetModel", name := "layCarry", desc := "(IIII)V" } : Jvm.MethodName)) ∈ lw_tbl := List.mem_append_right _ (List.mem_of_getElem? (i := 1756) (by decide +kernel))
theorem ks_94 : Cond.selects "HoopCabinetModel" ({ cls := "HoopCabinetModel", name := "layCarry", desc := "(IIII)V" } : Jvm.MethodName) ({ cls := "HoopCabinetModel", name := "layCarry", desc := "(IIII)V" } : Jvm.MethodName) ∈ lw_tbl := List.mem_append_left _ (List.mem_of_getElem? (i := 94) (by decide +kernel))
theorem k_1749 : (Jvm.Cond.code ({ cls := "HoopCabinetModel", name := "asksCarry", desc := "(III)Z" } : Jvm.MethodName) prog_12_method_98_code (4 : Nat) (Option.some Jvm.ClassFile.FieldType.boolean)) ∈ lw_tbl := List.mem_append_right _ (List.mem_of_getElem? (i := 1749) (by decide +kernel))
theorem k_1746 : (Jvm.Cond.methodLink "HoopCabinetModel" (362 : Nat) ({ cls := "HoopCabinetModel", name := "asksCarry", desc := "(III)Z" } : Jvm.MethodName)) ∈ lw_tbl := List.mem_append_right _ (List.mem_of_getElem? (i := 1746) (by decide +kernel))
theorem k_1748 : (Jvm.Cond.instanceMethod ({ cls := "HoopCabinetModel", name := "asksCarry", desc := "(III)Z" } : Jvm.MethodName)) ∈ lw_tbl := List.mem_append_right _ (List.mem_of_getElem? (i := 1748) (by decide +kernel))
theorem ks_92 : Cond.selects "HoopCabinetModel" ({ cls := "HoopCabinetModel", name := "asksCarry", desc := "(III)Z" } : Jvm.MethodName) ({ cls := "HoopCabinetModel", name := "asksCarry", desc := "(III)Z" } : Jvm.MethodName) ∈ lw_tbl := List.mem_append_left _ (List.mem_of_getElem? (i := 92) (by decide +kernel))
theorem k_1753 : (Jvm.Cond.code ({ cls := "HoopCabinetModel", name := "layWalk", desc := "(III)I" } : Jvm.MethodName) prog_12_method_97_code (9 : Nat) (Option.some Jvm.ClassFile.FieldType.int)) ∈ lw_tbl := List.mem_append_right _ (List.mem_of_getElem? (i := 1753) (by decide +kernel))
theorem k_1750 : (Jvm.Cond.methodLink "HoopCabinetModel" (365 : Nat) ({ cls := "HoopCabinetModel", name := "layWalk", desc := "(III)I" } : Jvm.MethodName)) ∈ lw_tbl := List.mem_append_right _ (List.mem_of_getElem? (i := 1750) (by decide +kernel))
theorem k_1752 : (Jvm.Cond.instanceMethod ({ cls := "HoopCabinetModel", name := "layWalk", desc := "(III)I" } : Jvm.MethodName)) ∈ lw_tbl := List.mem_append_right _ (List.mem_of_getElem? (i := 1752) (by decide +kernel))
theorem ks_93 : Cond.selects "HoopCabinetModel" ({ cls := "HoopCabinetModel", name := "layWalk", desc := "(III)I" } : Jvm.MethodName) ({ cls := "HoopCabinetModel", name := "layWalk", desc := "(III)I" } : Jvm.MethodName) ∈ lw_tbl := List.mem_append_left _ (List.mem_of_getElem? (i := 93) (by decide +kernel))
theorem k_1780 : (Jvm.Cond.code ({ cls := "HoopCabinetModel", name := "haveWith", desc := "(III)I" } : Jvm.MethodName) prog_12_method_101_code (4 : Nat) (Option.some Jvm.ClassFile.FieldType.int)) ∈ lw_tbl := List.mem_append_right _ (List.mem_of_getElem? (i := 1780) (by decide +kernel))
theorem k_1777 : (Jvm.Cond.methodLink "HoopCabinetModel" (368 : Nat) ({ cls := "HoopCabinetModel", name := "haveWith", desc := "(III)I" } : Jvm.MethodName)) ∈ lw_tbl := List.mem_append_right _ (List.mem_of_getElem? (i := 1777) (by decide +kernel))
theorem k_1779 : (Jvm.Cond.instanceMethod ({ cls := "HoopCabinetModel", name := "haveWith", desc := "(III)I" } : Jvm.MethodName)) ∈ lw_tbl := List.mem_append_right _ (List.mem_of_getElem? (i := 1779) (by decide +kernel))
theorem ks_97 : Cond.selects "HoopCabinetModel" ({ cls := "HoopCabinetModel", name := "haveWith", desc := "(III)I" } : Jvm.MethodName) ({ cls := "HoopCabinetModel", name := "haveWith", desc := "(III)I" } : Jvm.MethodName) ∈ lw_tbl := List.mem_append_left _ (List.mem_of_getElem? (i := 97) (by decide +kernel))
theorem k_1807 : (Jvm.Cond.code ({ cls := "HoopCabinetModel", name := "numberAt", desc := "(II)J" } : Jvm.MethodName) prog_12_method_105_code (3 : Nat) (Option.some Jvm.ClassFile.FieldType.long)) ∈ lw_tbl := List.mem_append_right _ (List.mem_of_getElem? (i := 1807) (by decide +kernel))
theorem k_1804 : (Jvm.Cond.methodLink "HoopCabinetModel" (371 : Nat) ({ cls := "HoopCabinetModel", name := "numberAt", desc := "(II)J" } : Jvm.MethodName)) ∈ lw_tbl := List.mem_append_right _ (List.mem_of_getElem? (i := 1804) (by decide +kernel))
theorem k_1806 : (Jvm.Cond.instanceMethod ({ cls := "HoopCabinetModel", name := "numberAt", desc := "(II)J" } : Jvm.MethodName)) ∈ lw_tbl := List.mem_append_right _ (List.mem_of_getElem? (i := 1806) (by decide +kernel))
theorem ks_100 : Cond.selects "HoopCabinetModel" ({ cls := "HoopCabinetModel", name := "numberAt", desc := "(II)J" } : Jvm.MethodName) ({ cls := "HoopCabinetModel", name := "numberAt", desc := "(II)J" } : Jvm.MethodName) ∈ lw_tbl := List.mem_append_left _ (List.mem_of_getElem? (i := 100) (by decide +kernel))
theorem k_1799 : (Jvm.Cond.code ({ cls := "HoopCabinetModel", name := "isSlot", desc := "(I)Z" } : Jvm.MethodName) prog_12_method_149_code (1 : Nat) (Option.some Jvm.ClassFile.FieldType.boolean)) ∈ lw_tbl := List.mem_append_right _ (List.mem_of_getElem? (i := 1799) (by decide +kernel))
theorem k_1797 : (Jvm.Cond.methodLink "HoopCabinetModel" (375 : Nat) ({ cls := "HoopCabinetModel", name := "isSlot", desc := "(I)Z" } : Jvm.MethodName)) ∈ lw_tbl := List.mem_append_right _ (List.mem_of_getElem? (i := 1797) (by decide +kernel))
theorem k_1798 : (Jvm.Cond.static ({ cls := "HoopCabinetModel", name := "isSlot", desc := "(I)Z" } : Jvm.MethodName)) ∈ lw_tbl := List.mem_append_right _ (List.mem_of_getElem? (i := 1798) (by decide +kernel))
theorem k_1803 : (Jvm.Cond.code ({ cls := "HoopCabinetModel", name := "isThree", desc := "(II)Z" } : Jvm.MethodName) prog_12_method_106_code (3 : Nat) (Option.some Jvm.ClassFile.FieldType.boolean)) ∈ lw_tbl := List.mem_append_right _ (List.mem_of_getElem? (i := 1803) (by decide +kernel))
theorem k_1800 : (Jvm.Cond.methodLink "HoopCabinetModel" (378 : Nat) ({ cls := "HoopCabinetModel", name := "isThree", desc := "(II)Z" } : Jvm.MethodName)) ∈ lw_tbl := List.mem_append_right _ (List.mem_of_getElem? (i := 1800) (by decide +kernel))
theorem k_1802 : (Jvm.Cond.instanceMethod ({ cls := "HoopCabinetModel", name := "isThree", desc := "(II)Z" } : Jvm.MethodName)) ∈ lw_tbl := List.mem_append_right _ (List.mem_of_getElem? (i := 1802) (by decide +kernel))
theorem ks_99 : Cond.selects "HoopCabinetModel" ({ cls := "HoopCabinetModel", name := "isThree", desc := "(II)Z" } : Jvm.MethodName) ({ cls := "HoopCabinetModel", name := "isThree", desc := "(II)Z" } : Jvm.MethodName) ∈ lw_tbl := List.mem_append_left _ (List.mem_of_getElem? (i := 99) (by decide +kernel))
theorem k_1796 : (Jvm.Cond.code ({ cls := "HoopCabinetModel", name := "layFirsts", desc := "(I)I" } : Jvm.MethodName) prog_12_method_107_code (6 : Nat) (Option.some Jvm.ClassFile.FieldType.int)) ∈ lw_tbl := List.mem_append_right _ (List.mem_of_getElem? (i := 1796) (by decide +kernel))
theorem k_1793 : (Jvm.Cond.methodLink "HoopCabinetModel" (381 : Nat) ({ cls := "HoopCabinetModel", name := "layFirsts", desc := "(I)I" } : Jvm.MethodName)) ∈ lw_tbl := List.mem_append_right _ (List.mem_of_getElem? (i := 1793) (by decide +kernel))
theorem k_1795 : (Jvm.Cond.instanceMethod ({ cls := "HoopCabinetModel", name := "layFirsts", desc := "(I)I" } : Jvm.MethodName)) ∈ lw_tbl := List.mem_append_right _ (List.mem_of_getElem? (i := 1795) (by decide +kernel))
theorem ks_98 : Cond.selects "HoopCabinetModel" ({ cls := "HoopCabinetModel", name := "layFirsts", desc := "(I)I" } : Jvm.MethodName) ({ cls := "HoopCabinetModel", name := "layFirsts", desc := "(I)I" } : Jvm.MethodName) ∈ lw_tbl := List.mem_append_left _ (List.mem_of_getElem? (i := 98) (by decide +kernel))
theorem k_1272 : (Jvm.Cond.fieldLink "HoopCabinetModel" (384 : Nat) "HoopCabinetModel" "askWorst" "I") ∈ lw_tbl := List.mem_append_right _ (List.mem_of_getElem? (i := 1272) (by decide +kernel))
theorem k_1815 : (Jvm.Cond.code ({ cls := "HoopCabinetModel", name := "askOf", desc := "(I)I" } : Jvm.MethodName) prog_12_method_109_code (8 : Nat) (Option.some Jvm.ClassFile.FieldType.int)) ∈ lw_tbl := List.mem_append_right _ (List.mem_of_getElem? (i := 1815) (by decide +kernel))
theorem k_1812 : (Jvm.Cond.methodLink "HoopCabinetModel" (387 : Nat) ({ cls := "HoopCabinetModel", name := "askOf", desc := "(I)I" } : Jvm.MethodName)) ∈ lw_tbl := List.mem_append_right _ (List.mem_of_getElem? (i := 1812) (by decide +kernel))
theorem k_1814 : (Jvm.Cond.instanceMethod ({ cls := "HoopCabinetModel", name := "askOf", desc := "(I)I" } : Jvm.MethodName)) ∈ lw_tbl := List.mem_append_right _ (List.mem_of_getElem? (i := 1814) (by decide +kernel))
theorem ks_101 : Cond.selects "HoopCabinetModel" ({ cls := "HoopCabinetModel", name := "askOf", desc := "(I)I" } : Jvm.MethodName) ({ cls := "HoopCabinetModel", name := "askOf", desc := "(I)I" } : Jvm.MethodName) ∈ lw_tbl := List.mem_append_left _ (List.mem_of_getElem? (i := 101) (by decide +kernel))
theorem k_1843 : (Jvm.Cond.code ({ cls := "HoopCabinetModel", name := "seatsIn", desc := "(I)I" } : Jvm.MethodName) prog_12_method_112_code (4 : Nat) (Option.some Jvm.ClassFile.FieldType.int)) ∈ lw_tbl := List.mem_append_right _ (List.mem_of_getElem? (i := 1843) (by decide +kernel))
theorem k_1840 : (Jvm.Cond.methodLink "HoopCabinetModel" (390 : Nat) ({ cls := "HoopCabinetModel", name := "seatsIn", desc := "(I)I" } : Jvm.MethodName)) ∈ lw_tbl := List.mem_append_right _ (List.mem_of_getElem? (i := 1840) (by decide +kernel))
theorem k_1842 : (Jvm.Cond.instanceMethod ({ cls := "HoopCabinetModel", name := "seatsIn", desc := "(I)I" } : Jvm.MethodName)) ∈ lw_tbl := List.mem_append_right _ (List.mem_of_getElem? (i := 1842) (by decide +kernel))
theorem ks_104 : Cond.selects "HoopCabinetModel" ({ cls := "HoopCabinetModel", name := "seatsIn", desc := "(I)I" } : Jvm.MethodName) ({ cls := "HoopCabinetModel", name := "seatsIn", desc := "(I)I" } : Jvm.MethodName) ∈ lw_tbl := List.mem_append_left _ (List.mem_of_getElem? (i := 104) (by decide +kernel))
theorem k_1847 : (Jvm.Cond.code ({ cls := "HoopCabinetModel", name := "allLadies", desc := "()I" } : Jvm.MethodName) prog_12_method_113_code (1 : Nat) (Option.some Jvm.ClassFile.FieldType.int)) ∈ lw_tbl := List.mem_append_right _ (List.mem_of_getElem? (i := 1847) (by decide +kernel))
theorem k_1844 : (Jvm.Cond.methodLink "HoopCabinetModel" (393 : Nat) ({ cls := "HoopCabinetModel", name := "allLadies", desc := "()I" } : Jvm.MethodName)) ∈ lw_tbl := List.mem_append_right _ (List.mem_of_getElem? (i := 1844) (by decide +kernel))
theorem k_1846 : (Jvm.Cond.instanceMethod ({ cls := "HoopCabinetModel", name := "allLadies", desc := "()I" } : Jvm.MethodName)) ∈ lw_tbl := List.mem_append_right _ (List.mem_of_getElem? (i := 1846) (by decide +kernel))
theorem ks_105 : Cond.selects "HoopCabinetModel" ({ cls := "HoopCabinetModel", name := "allLadies", desc := "()I" } : Jvm.MethodName) ({ cls := "HoopCabinetModel", name := "allLadies", desc := "()I" } : Jvm.MethodName) ∈ lw_tbl := List.mem_append_left _ (List.mem_of_getElem? (i := 105) (by decide +kernel))
theorem k_1839 : (Jvm.Cond.code ({ cls := "HoopCabinetModel", name := "doesHold", desc := "(I)Z" } : Jvm.MethodName) prog_12_method_114_code (2 : Nat) (Option.some Jvm.ClassFile.FieldType.boolean)) ∈ lw_tbl := List.mem_append_right _ (List.mem_of_getElem? (i := 1839) (by decide +kernel))
theorem k_1836 : (Jvm.Cond.methodLink "HoopCabinetModel" (396 : Nat) ({ cls := "HoopCabinetModel", name := "doesHold", desc := "(I)Z" } : Jvm.MethodName)) ∈ lw_tbl := List.mem_append_right _ (List.mem_of_getElem? (i := 1836) (by decide +kernel))
theorem k_1838 : (Jvm.Cond.instanceMethod ({ cls := "HoopCabinetModel", name := "doesHold", desc := "(I)Z" } : Jvm.MethodName)) ∈ lw_tbl := List.mem_append_right _ (List.mem_of_getElem? (i := 1838) (by decide +kernel))
theorem ks_103 : Cond.selects "HoopCabinetModel" ({ cls := "HoopCabinetModel", name := "doesHold", desc := "(I)Z" } : Jvm.MethodName) ({ cls := "HoopCabinetModel", name := "doesHold", desc := "(I)Z" } : Jvm.MethodName) ∈ lw_tbl := List.mem_append_left _ (List.mem_of_getElem? (i := 103) (by decide +kernel))
theorem k_1835 : (Jvm.Cond.code ({ cls := "HoopCabinetModel", name := "isSet", desc := "(I)Z" } : Jvm.MethodName) prog_12_method_14_code (2 : Nat) (Option.some Jvm.ClassFile.FieldType.boolean)) ∈ lw_tbl := List.mem_append_right _ (List.mem_of_getElem? (i := 1835) (by decide +kernel))
theorem k_1832 : (Jvm.Cond.methodLink "HoopCabinetModel" (399 : Nat) ({ cls := "HoopCabinetModel", name := "isSet", desc := "(I)Z" } : Jvm.MethodName)) ∈ lw_tbl := List.mem_append_right _ (List.mem_of_getElem? (i := 1832) (by decide +kernel))
theorem k_1834 : (Jvm.Cond.instanceMethod ({ cls := "HoopCabinetModel", name := "isSet", desc := "(I)Z" } : Jvm.MethodName)) ∈ lw_tbl := List.mem_append_right _ (List.mem_of_getElem? (i := 1834) (by decide +kernel))
theorem ks_102 : Cond.selects "HoopCabinetModel" ({ cls := "HoopCabinetModel", name := "isSet", desc := "(I)Z" } : Jvm.MethodName) ({ cls := "HoopCabinetModel", name := "isSet", desc := "(I)Z" } : Jvm.MethodName) ∈ lw_tbl := List.mem_append_left _ (List.mem_of_getElem? (i := 102) (by decide +kernel))
theorem k_1859 : (Jvm.Cond.code ({ cls := "HoopCabinetModel", name := "powerOf", desc := "(I)I" } : Jvm.MethodName) prog_12_method_115_code (4 : Nat) (Option.some Jvm.ClassFile.FieldType.int)) ∈ lw_tbl := List.mem_append_right _ (List.mem_of_getElem? (i := 1859) (by decide +kernel))
theorem k_1856 : (Jvm.Cond.methodLink "HoopCabinetModel" (402 : Nat) ({ cls := "HoopCabinetModel", name := "powerOf", desc := "(I)I" } : Jvm.MethodName)) ∈ lw_tbl := List.mem_append_right _ (List.mem_of_getElem? (i := 1856) (by decide +kernel))
theorem k_1858 : (Jvm.Cond.instanceMethod ({ cls := "HoopCabinetModel", name := "powerOf", desc := "(I)I" } : Jvm.MethodName)) ∈ lw_tbl := List.mem_append_right _ (List.mem_of_getElem? (i := 1858) (by decide +kernel))
theorem ks_106 : Cond.selects "HoopCabinetModel" ({ cls := "HoopCabinetModel", name := "powerOf", desc := "(I)I" } : Jvm.MethodName) ({ cls := "HoopCabinetModel", name := "powerOf", desc := "(I)I" } : Jvm.MethodName) ∈ lw_tbl := List.mem_append_left _ (List.mem_of_getElem? (i := 106) (by decide +kernel))
theorem k_1869 : (Jvm.Cond.code ({ cls := "HoopCabinetModel", name := "divisor", desc := "(JJ)J" } : Jvm.MethodName) prog_12_method_121_code (10 : Nat) (Option.some Jvm.ClassFile.FieldType.long)) ∈ lw_tbl := List.mem_append_right _ (List.mem_of_getElem? (i := 1869) (by decide +kernel))
theorem k_1867 : (Jvm.Cond.methodLink "HoopCabinetModel" (405 : Nat) ({ cls := "HoopCabinetModel", name := "divisor", desc := "(JJ)J" } : Jvm.MethodName)) ∈ lw_tbl := List.mem_append_right _ (List.mem_of_getElem? (i := 1867) (by decide +kernel))
theorem k_1868 : (Jvm.Cond.static ({ cls := "HoopCabinetModel", name := "divisor", desc := "(JJ)J" } : Jvm.MethodName)) ∈ lw_tbl := List.mem_append_right _ (List.mem_of_getElem? (i := 1868) (by decide +kernel))
theorem k_1866 : (Jvm.Cond.code ({ cls := "HoopCabinetModel", name := "lowest", desc := "(JJI)J" } : Jvm.MethodName) prog_12_method_122_code (5 : Nat) (Option.some Jvm.ClassFile.FieldType.long)) ∈ lw_tbl := List.mem_append_right _ (List.mem_of_getElem? (i := 1866) (by decide +kernel))
theorem k_1864 : (Jvm.Cond.methodLink "HoopCabinetModel" (409 : Nat) ({ cls := "HoopCabinetModel", name := "lowest", desc := "(JJI)J" } : Jvm.MethodName)) ∈ lw_tbl := List.mem_append_right _ (List.mem_of_getElem? (i := 1864) (by decide +kernel))
theorem k_1865 : (Jvm.Cond.static ({ cls := "HoopCabinetModel", name := "lowest", desc := "(JJI)J" } : Jvm.MethodName)) ∈ lw_tbl := List.mem_append_right _ (List.mem_of_getElem? (i := 1865) (by decide +kernel))
theorem k_1889 : (Jvm.Cond.code ({ cls := "HoopCabinetModel", name := "isLeast", desc := "(I)Z" } : Jvm.MethodName) prog_12_method_127_code (3 : Nat) (Option.some Jvm.ClassFile.FieldType.boolean)) ∈ lw_tbl := List.mem_append_right _ (List.mem_of_getElem? (i := 1889) (by decide +kernel))
theorem k_1886 : (Jvm.Cond.methodLink "HoopCabinetModel" (413 : Nat) ({ cls := "HoopCabinetModel", name := "isLeast", desc := "(I)Z" } : Jvm.MethodName)) ∈ lw_tbl := List.mem_append_right _ (List.mem_of_getElem? (i := 1886) (by decide +kernel))
theorem k_1888 : (Jvm.Cond.instanceMethod ({ cls := "HoopCabinetModel", name := "isLeast", desc := "(I)Z" } : Jvm.MethodName)) ∈ lw_tbl := List.mem_append_right _ (List.mem_of_getElem? (i := 1888) (by decide +kernel))
theorem ks_107 : Cond.selects "HoopCabinetModel" ({ cls := "HoopCabinetModel", name := "isLeast", desc := "(I)Z" } : Jvm.MethodName) ({ cls := "HoopCabinetModel", name := "isLeast", desc := "(I)Z" } : Jvm.MethodName) ∈ lw_tbl := List.mem_append_left _ (List.mem_of_getElem? (i := 107) (by decide +kernel))
theorem k_1901 : (Jvm.Cond.code ({ cls := "HoopCabinetModel", name := "areTwo", desc := "(II)Z" } : Jvm.MethodName) prog_12_method_131_code (3 : Nat) (Option.some Jvm.ClassFile.FieldType.boolean)) ∈ lw_tbl := List.mem_append_right _ (List.mem_of_getElem? (i := 1901) (by decide +kernel))
theorem k_1898 : (Jvm.Cond.methodLink "HoopCabinetModel" (416 : Nat) ({ cls := "HoopCabinetModel", name := "areTwo", desc := "(II)Z" } : Jvm.MethodName)) ∈ lw_tbl := List.mem_append_right _ (List.mem_of_getElem? (i := 1898) (by decide +kernel))
theorem k_1900 : (Jvm.Cond.instanceMethod ({ cls := "HoopCabinetModel", name := "areTwo", desc := "(II)Z" } : Jvm.MethodName)) ∈ lw_tbl := List.mem_append_right _ (List.mem_of_getElem? (i := 1900) (by decide +kernel))
theorem ks_108 : Cond.selects "HoopCabinetModel" ({ cls := "HoopCabinetModel", name := "areTwo", desc := "(II)Z" } : Jvm.MethodName) ({ cls := "HoopCabinetModel", name := "areTwo", desc := "(II)Z" } : Jvm.MethodName) ∈ lw_tbl := List.mem_append_left _ (List.mem_of_getElem? (i := 108) (by decide +kernel))
theorem k_1905 : (Jvm.Cond.code ({ cls := "HoopCabinetModel", name := "gainsBy", desc := "(IIIII)I" } : Jvm.MethodName) prog_12_method_130_code (8 : Nat) (Option.some Jvm.ClassFile.FieldType.int)) ∈ lw_tbl := List.mem_append_right _ (List.mem_of_getElem? (i := 1905) (by decide +kernel))
theorem k_1902 : (Jvm.Cond.methodLink "HoopCabinetModel" (419 : Nat) ({ cls := "HoopCabinetModel", name := "gainsBy", desc := "(IIIII)I" } : Jvm.MethodName)) ∈ lw_tbl := List.mem_append_right _ (List.mem_of_getElem? (i := 1902) (by decide +kernel))
theorem k_1904 : (Jvm.Cond.instanceMethod ({ cls := "HoopCabinetModel", name := "gainsBy", desc := "(IIIII)I" } : Jvm.MethodName)) ∈ lw_tbl := List.mem_append_right _ (List.mem_of_getElem? (i := 1904) (by decide +kernel))
theorem ks_109 : Cond.selects "HoopCabinetModel" ({ cls := "HoopCabinetModel", name := "gainsBy", desc := "(IIIII)I" } : Jvm.MethodName) ({ cls := "HoopCabinetModel", name := "gainsBy", desc := "(IIIII)I" } : Jvm.MethodName) ∈ lw_tbl := List.mem_append_left _ (List.mem_of_getElem? (i := 109) (by decide +kernel))
theorem k_1273 : (Jvm.Cond.fieldLink "HoopCabinetModel" (423 : Nat) "HoopCabinetModel" "oftenAll" "J") ∈ lw_tbl := List.mem_append_right _ (List.mem_of_getElem? (i := 1273) (by decide +kernel))
theorem k_1274 : (Jvm.Cond.fieldLink "HoopCabinetModel" (427 : Nat) "HoopCabinetModel" "oftenHas" "J") ∈ lw_tbl := List.mem_append_right _ (List.mem_of_getElem? (i := 1274) (by decide +kernel))
theorem k_1275 : (Jvm.Cond.fieldLink "HoopCabinetModel" (430 : Nat) "HoopCabinetModel" "oftenMany" "J") ∈ lw_tbl := List.mem_append_right _ (List.mem_of_getElem? (i := 1275) (by decide +kernel))
theorem k_1918 : (Jvm.Cond.constantLong "HoopCabinetModel" (433 : Nat) (8 : Int64)) ∈ lw_tbl := List.mem_append_right _ (List.mem_of_getElem? (i := 1918) (by decide +kernel))
theorem k_1917 : (Jvm.Cond.code ({ cls := "HoopCabinetModel", name := "asksMusic", desc := "(III)Z" } : Jvm.MethodName) prog_12_method_135_code (4 : Nat) (Option.some Jvm.ClassFile.FieldType.boolean)) ∈ lw_tbl := List.mem_append_right _ (List.mem_of_getElem? (i := 1917) (by decide +kernel))
theorem k_1914 : (Jvm.Cond.methodLink "HoopCabinetModel" (435 : Nat) ({ cls := "HoopCabinetModel", name := "asksMusic", desc := "(III)Z" } : Jvm.MethodName)) ∈ lw_tbl := List.mem_append_right _ (List.mem_of_getElem? (i := 1914) (by decide +kernel))
theorem k_1916 : (Jvm.Cond.instanceMethod ({ cls := "HoopCabinetModel", name := "asksMusic", desc := "(III)Z" } : Jvm.MethodName)) ∈ lw_tbl := List.mem_append_right _ (List.mem_of_getElem? (i := 1916) (by decide +kernel))
theorem ks_110 : Cond.selects "HoopCabinetModel" ({ cls := "HoopCabinetModel", name := "asksMusic", desc := "(III)Z" } : Jvm.MethodName) ({ cls := "HoopCabinetModel", name := "asksMusic", desc := "(III)Z" } : Jvm.MethodName) ∈ lw_tbl := List.mem_append_left _ (List.mem_of_getElem? (i := 110) (by decide +kernel))
theorem k_1919 : (Jvm.Cond.constantLong "HoopCabinetModel" (438 : Nat) (-2 : Int64)) ∈ lw_tbl := List.mem_append_right _ (List.mem_of_getElem? (i := 1919) (by decide +kernel))
theorem k_1923 : (Jvm.Cond.code ({ cls := "HoopCabinetModel", name := "layMusic", desc := "(III)V" } : Jvm.MethodName) prog_12_method_134_code (7 : Nat) (Option.none : Option Jvm.ClassFile.FieldType)) ∈ lw_tbl := List.mem_append_right _ (List.mem_of_getElem? (i := 1923) (by decide +kernel))
theorem k_1920 : (Jvm.Cond.methodLink "HoopCabinetModel" (440 : Nat) ({ cls := "HoopCabinetModel", name := "layMusic", desc := "(III)V" } : Jvm.MethodName)) ∈ lw_tbl := List.mem_append_right _ (List.mem_of_getElem? (i := 1920) (by decide +kernel))
theorem k_1922 : (Jvm.Cond.instanceMethod ({ cls := "HoopCabinetModel", name := "layMusic", desc := "(III)V" } : Jvm.MethodName)) ∈ lw_tbl := List.mem_append_right _ (List.mem_of_getElem? (i := 1922) (by decide +kernel))
theorem ks_111 : Cond.selects "HoopCabinetModel" ({ cls := "HoopCabinetModel", name := "layMusic", desc := "(III)V" } : Jvm.MethodName) ({ cls := "HoopCabinetModel", name := "layMusic", desc := "(III)V" } : Jvm.MethodName) ∈ lw_tbl := List.mem_append_left _ (List.mem_of_getElem? (i := 111) (by decide +kernel))
theorem k_1932 : (Jvm.Cond.constantLong "HoopCabinetModel" (444 : Nat) (13 : Int64)) ∈ lw_tbl := List.mem_append_right _ (List.mem_of_getElem? (i := 1932) (by decide +kernel))
theorem k_1936 : (Jvm.Cond.code ({ cls := "HoopCabinetModel", name := "keepAct", desc := "(I)I" } : Jvm.MethodName) prog_12_method_138_code (2 : Nat) (Option.some Jvm.ClassFile.FieldType.int)) ∈ lw_tbl := List.mem_append_right _ (List.mem_of_getElem? (i := 1936) (by decide +kernel))
theorem k_1933 : (Jvm.Cond.methodLink "HoopCabinetModel" (446 : Nat) ({ cls := "HoopCabinetModel", name := "keepAct", desc := "(I)I" } : Jvm.MethodName)) ∈ lw_tbl := List.mem_append_right _ (List.mem_of_getElem? (i := 1933) (by decide +kernel))
theorem k_1935 : (Jvm.Cond.instanceMethod ({ cls := "HoopCabinetModel", name := "keepAct", desc := "(I)I" } : Jvm.MethodName)) ∈ lw_tbl := List.mem_append_right _ (List.mem_of_getElem? (i := 1935) (by decide +kernel))
theorem ks_112 : Cond.selects "HoopCabinetModel" ({ cls := "HoopCabinetModel", name := "keepAct", desc := "(I)I" } : Jvm.MethodName) ({ cls := "HoopCabinetModel", name := "keepAct", desc := "(I)I" } : Jvm.MethodName) ∈ lw_tbl := List.mem_append_left _ (List.mem_of_getElem? (i := 112) (by decide +kernel))
theorem k_1961 : (Jvm.Cond.constantLong "HoopCabinetModel" (449 : Nat) (1103515245 : Int64)) ∈ lw_tbl := List.mem_append_right _ (List.mem_of_getElem? (i := 1961) (by decide +kernel))
theorem k_1962 : (Jvm.Cond.constantLong "HoopCabinetModel" (451 : Nat) (12345 : Int64)) ∈ lw_tbl := List.mem_append_right _ (List.mem_of_getElem? (i := 1962) (by decide +kernel))
theorem k_1963 : (Jvm.Cond.constantLong "HoopCabinetModel" (453 : Nat) (2147483648 : Int64)) ∈ lw_tbl := List.mem_append_right _ (List.mem_of_getElem? (i := 1963) (by decide +kernel))
theorem k_1964 : (Jvm.Cond.constantLong "HoopCabinetModel" (455 : Nat) (65536 : Int64)) ∈ lw_tbl := List.mem_append_right _ (List.mem_of_getElem? (i := 1964) (by decide +kernel))
theorem k_1965 : (Jvm.Cond.constantLong "HoopCabinetModel" (457 : Nat) (10 : Int64)) ∈ lw_tbl := List.mem_append_right _ (List.mem_of_getElem? (i := 1965) (by decide +kernel))
theorem k_1956 : (Jvm.Cond.constantLong "HoopCabinetModel" (459 : Nat) (2000000000 : Int64)) ∈ lw_tbl := List.mem_append_right _ (List.mem_of_getElem? (i := 1956) (by decide +kernel))
theorem k_1955 : (Jvm.Cond.code ({ cls := "HoopCabinetModel", name := "isSeed", desc := "(I)Z" } : Jvm.MethodName) prog_12_method_144_code (1 : Nat) (Option.some Jvm.ClassFile.FieldType.boolean)) ∈ lw_tbl := List.mem_append_right _ (List.mem_of_getElem? (i := 1955) (by decide +kernel))
theorem k_1953 : (Jvm.Cond.methodLink "HoopCabinetModel" (461 : Nat) ({ cls := "HoopCabinetModel", name := "isSeed", desc := "(I)Z" } : Jvm.MethodName)) ∈ lw_tbl := List.mem_append_right _ (List.mem_of_getElem? (i := 1953) (by decide +kernel))
theorem k_1954 : (Jvm.Cond.static ({ cls := "HoopCabinetModel", name := "isSeed", desc := "(I)Z" } : Jvm.MethodName)) ∈ lw_tbl := List.mem_append_right _ (List.mem_of_getElem? (i := 1954) (by decide +kernel))
theorem k_1960 : (Jvm.Cond.code ({ cls := "HoopCabinetModel", name := "goDrawn", desc := "(JI)I" } : Jvm.MethodName) prog_12_method_143_code (7 : Nat) (Option.some Jvm.ClassFile.FieldType.int)) ∈ lw_tbl := List.mem_append_right _ (List.mem_of_getElem? (i := 1960) (by decide +kernel))
theorem k_1957 : (Jvm.Cond.methodLink "HoopCabinetModel" (464 : Nat) ({ cls := "HoopCabinetModel", name := "goDrawn", desc := "(JI)I" } : Jvm.MethodName)) ∈ lw_tbl := List.mem_append_right _ (List.mem_of_getElem? (i := 1957) (by decide +kernel))
theorem k_1959 : (Jvm.Cond.instanceMethod ({ cls := "HoopCabinetModel", name := "goDrawn", desc := "(JI)I" } : Jvm.MethodName)) ∈ lw_tbl := List.mem_append_right _ (List.mem_of_getElem? (i := 1959) (by decide +kernel))
theorem ks_113 : Cond.selects "HoopCabinetModel" ({ cls := "HoopCabinetModel", name := "goDrawn", desc := "(JI)I" } : Jvm.MethodName) ({ cls := "HoopCabinetModel", name := "goDrawn", desc := "(JI)I" } : Jvm.MethodName) ∈ lw_tbl := List.mem_append_left _ (List.mem_of_getElem? (i := 113) (by decide +kernel))
theorem k_1970 : (Jvm.Cond.constantLong "HoopCabinetModel" (468 : Nat) (20 : Int64)) ∈ lw_tbl := List.mem_append_right _ (List.mem_of_getElem? (i := 1970) (by decide +kernel))
theorem k_1975 : (Jvm.Cond.constantLong "HoopCabinetModel" (470 : Nat) (9 : Int64)) ∈ lw_tbl := List.mem_append_right _ (List.mem_of_getElem? (i := 1975) (by decide +kernel))
theorem k_1990 : (Jvm.Cond.code ({ cls := "HoopCabinetModel", name := "cut", desc := "(JI)J" } : Jvm.MethodName) prog_12_method_150_code (4 : Nat) (Option.some Jvm.ClassFile.FieldType.long)) ∈ lw_tbl := List.mem_append_right _ (List.mem_of_getElem? (i := 1990) (by decide +kernel))
theorem k_1988 : (Jvm.Cond.methodLink "HoopCabinetModel" (472 : Nat) ({ cls := "HoopCabinetModel", name := "cut", desc := "(JI)J" } : Jvm.MethodName)) ∈ lw_tbl := List.mem_append_right _ (List.mem_of_getElem? (i := 1988) (by decide +kernel))
theorem k_1989 : (Jvm.Cond.static ({ cls := "HoopCabinetModel", name := "cut", desc := "(JI)J" } : Jvm.MethodName)) ∈ lw_tbl := List.mem_append_right _ (List.mem_of_getElem? (i := 1989) (by decide +kernel))
theorem k_732 : (Jvm.Cond.constant "java/lang/Integer" (265 : Nat) (1431655765 : Int32)) ∈ lw_tbl := List.mem_append_right _ (List.mem_of_getElem? (i := 732) (by decide +kernel))
theorem k_733 : (Jvm.Cond.constant "java/lang/Integer" (266 : Nat) (858993459 : Int32)) ∈ lw_tbl := List.mem_append_right _ (List.mem_of_getElem? (i := 733) (by decide +kernel))
theorem k_734 : (Jvm.Cond.constant "java/lang/Integer" (267 : Nat) (252645135 : Int32)) ∈ lw_tbl := List.mem_append_right _ (List.mem_of_getElem? (i := 734) (by decide +kernel))
theorem fp_X0_32 : FP RX0 32 0 0 10 := ⟨RX0, TX0, CI0, by decide, rfl, Or.inl k_64⟩
theorem fp_X0_36 : FP RX0 36 0 1 10 := ⟨RX0, TX0, CI0, by decide, rfl, Or.inl k_67⟩
theorem fp_X0_39 : FP RX0 39 0 2 10 := ⟨RX0, TX0, CI0, by decide, rfl, Or.inl k_71⟩
theorem fp_X0_42 : FP RX0 42 0 3 10 := ⟨RX0, TX0, CI0, by decide, rfl, Or.inl k_76⟩
theorem fp_X0_45 : FP RX0 45 0 4 10 := ⟨RX0, TX0, CI0, by decide, rfl, Or.inl k_79⟩
theorem fg_X0_14 : FG RX0 14 0 5 10 := ⟨RX0, TX0, CI0, by decide, Or.inl k_82⟩
theorem cv_X0_48 : CVw RX0 48 M_X8_clear 0 8 4 := ⟨⟨k_379, k_3, by decide +kernel, Or.inl k_376⟩, k_377, k_378, by decide, TX8, CI8.1⟩
theorem fg_X0_20 : FG RX0 20 0 6 10 := ⟨RX0, TX0, CI0, by decide, Or.inl k_86⟩
theorem fg_X0_23 : FG RX0 23 0 7 10 := ⟨RX0, TX0, CI0, by decide, Or.inl k_92⟩
theorem fg_X0_26 : FG RX0 26 0 8 10 := ⟨RX0, TX0, CI0, by decide, Or.inl k_95⟩
theorem fg_X0_29 : FG RX0 29 0 9 10 := ⟨RX0, TX0, CI0, by decide, Or.inl k_99⟩
theorem fg_X0_32 : FG RX0 32 0 0 10 := ⟨RX0, TX0, CI0, by decide, Or.inl k_64⟩
theorem fg_X0_36 : FG RX0 36 0 1 10 := ⟨RX0, TX0, CI0, by decide, Or.inl k_67⟩
theorem fg_X0_39 : FG RX0 39 0 2 10 := ⟨RX0, TX0, CI0, by decide, Or.inl k_71⟩
theorem fg_X0_42 : FG RX0 42 0 3 10 := ⟨RX0, TX0, CI0, by decide, Or.inl k_76⟩
theorem fg_X0_45 : FG RX0 45 0 4 10 := ⟨RX0, TX0, CI0, by decide, Or.inl k_79⟩
theorem cv_X0_51 : CVw RX0 51 M_X8_copyFrom 1 8 4 := ⟨⟨k_534, k_3, by decide +kernel, Or.inl k_531⟩, k_532, k_533, by decide, TX8, CI8.1⟩
theorem cv_X0_55 : CVw RX0 55 M_X8_has 1 8 4 := ⟨⟨k_646, k_3, by decide +kernel, Or.inl k_643⟩, k_644, k_645, by decide, TX8, CI8.1⟩
theorem cv_X0_59 : CVw RX0 59 M_X0_isTold 0 0 10 := ⟨⟨k_671, k_2, by decide +kernel, Or.inl k_668⟩, k_669, k_670, by decide, TX0, CI0.1⟩
theorem cv_X0_63 : CVw RX0 63 M_X0_everybody 0 0 10 := ⟨⟨k_850, k_2, by decide +kernel, Or.inl k_989⟩, k_848, k_849, by decide, TX0, CI0.1⟩
theorem fg_X0_67 : FG RX0 67 8 3 4 := ⟨RX8, TX8, CI8, by decide, Or.inr ⟨_, k_51⟩⟩
theorem cv_X0_70 : CVw RX0 70 M_X8_cell 2 8 4 := ⟨⟨k_554, k_3, by decide +kernel, Or.inl k_789⟩, k_552, k_553, by decide, TX8, CI8.1⟩
theorem cv_X0_74 : CVw RX0 74 M_X8_add 4 8 4 := ⟨⟨k_498, k_3, by decide +kernel, Or.inl k_1157⟩, k_496, k_497, by decide, TX8, CI8.1⟩
theorem cv_X0_78 : CVw RX0 78 M_X8_put 3 8 4 := ⟨⟨k_503, k_3, by decide +kernel, Or.inl k_1166⟩, k_501, k_502, by decide, TX8, CI8.1⟩
theorem cv_X0_82 : CVw RX0 82 M_X8_dropLast 0 8 4 := ⟨⟨k_1178, k_3, by decide +kernel, Or.inl k_1175⟩, k_1176, k_1177, by decide, TX8, CI8.1⟩
theorem fp_X1_21 : FP RX1 21 1 3 8 := ⟨RX1, TX1, CI1, by decide, rfl, Or.inl k_246⟩
theorem fp_X1_25 : FP RX1 25 1 4 8 := ⟨RX1, TX1, CI1, by decide, rfl, Or.inl k_247⟩
theorem fg_X1_28 : FG RX1 28 5 4 6 := ⟨RX5, TX5, CI5, by decide, Or.inr ⟨_, k_220⟩⟩
theorem fp_X1_33 : FP RX1 33 1 5 8 := ⟨RX1, TX1, CI1, by decide, rfl, Or.inl k_248⟩
theorem fg_X1_33 : FG RX1 33 1 5 8 := ⟨RX1, TX1, CI1, by decide, Or.inl k_248⟩
theorem fg_X1_9 : FG RX1 9 1 0 8 := ⟨RX1, TX1, CI1, by decide, Or.inl k_243⟩
theorem cv_X1_34 : CVw RX1 34 M_X5_ahead 1 5 6 := ⟨⟨k_828, k_8, by decide +kernel, Or.inl k_875⟩, k_826, k_827, by decide, TX5, CI5.1⟩
theorem fg_X1_21 : FG RX1 21 1 3 8 := ⟨RX1, TX1, CI1, by decide, Or.inl k_246⟩
theorem cs_X1_38 : CSw RX1 38 M_X1_roomsOf 3 := ⟨⟨k_878, k_9, by decide +kernel, Or.inl k_876⟩, k_877⟩
theorem fg_X1_42 : FG RX1 42 5 5 6 := ⟨RX5, TX5, CI5, by decide, Or.inr ⟨_, k_222⟩⟩
theorem cv_X1_45 : CVw RX1 45 M_X2_placeOf 2 2 8 := ⟨⟨k_612, k_7, by decide +kernel, Or.inl k_880⟩, k_610, k_611, by decide, TX2, CI2.1⟩
theorem cs_X1_51 : CSw RX1 51 M_X9_hasBit 2 := ⟨⟨k_599, k_1, by decide +kernel, Or.inr ⟨_, k_879⟩⟩, k_598⟩
theorem fp_X1_55 : FP RX1 55 1 6 8 := ⟨RX1, TX1, CI1, by decide, rfl, Or.inl k_249⟩
theorem fg_X1_25 : FG RX1 25 1 4 8 := ⟨RX1, TX1, CI1, by decide, Or.inl k_247⟩
theorem fp_X1_59 : FP RX1 59 1 7 8 := ⟨RX1, TX1, CI1, by decide, rfl, Or.inl k_250⟩
theorem fg_X1_59 : FG RX1 59 1 7 8 := ⟨RX1, TX1, CI1, by decide, Or.inl k_250⟩
theorem cv_X1_62 : CVw RX1 62 M_X1_lookBack 2 1 8 := ⟨⟨k_888, k_9, by decide +kernel, Or.inl k_885⟩, k_887, ks_27, by decide, TX1, CI1.1⟩
theorem fg_X1_55 : FG RX1 55 1 6 8 := ⟨RX1, TX1, CI1, by decide, Or.inl k_249⟩
theorem fg_X1_15 : FG RX1 15 1 1 8 := ⟨RX1, TX1, CI1, by decide, Or.inl k_244⟩
theorem fg_X1_18 : FG RX1 18 1 2 8 := ⟨RX1, TX1, CI1, by decide, Or.inl k_245⟩
theorem cv_X1_66 : CVw RX1 66 M_X2_spread 2 2 8 := ⟨⟨k_603, k_7, by decide +kernel, Or.inl k_889⟩, k_601, k_602, by decide, TX2, CI2.1⟩
theorem cv_X1_69 : CVw RX1 69 M_X1_goodWithout 2 1 8 := ⟨⟨k_893, k_9, by decide +kernel, Or.inl k_890⟩, k_892, ks_28, by decide, TX1, CI1.1⟩
theorem cv_X1_72 : CVw RX1 72 M_X2_stepsFrom 2 2 8 := ⟨⟨k_593, k_7, by decide +kernel, Or.inl k_903⟩, k_591, k_592, by decide, TX2, CI2.1⟩
theorem cs_X1_75 : CSw RX1 75 M_X9_lowest 1 := ⟨⟨k_596, k_1, by decide +kernel, Or.inr ⟨_, k_904⟩⟩, k_595⟩
theorem cv_X2_27 : CVw RX2 27 M_X2_openDoors 3 2 8 := ⟨⟨k_550, k_7, by decide +kernel, Or.inl k_547⟩, k_548, k_549, by decide, TX2, CI2.1⟩
theorem cv_X2_31 : CVw RX2 31 M_X2_hearBids 1 2 8 := ⟨⟨k_566, k_7, by decide +kernel, Or.inl k_563⟩, k_565, ks_18, by decide, TX2, CI2.1⟩
theorem fg_X2_35 : FG RX2 35 2 5 8 := ⟨RX2, TX2, CI2, by decide, Or.inl k_190⟩
theorem fg_X2_39 : FG RX2 39 0 6 10 := ⟨RX0, TX0, CI0, by decide, Or.inr ⟨_, k_89⟩⟩
theorem cv_X2_44 : CVw RX2 44 M_X8_cell 2 8 4 := ⟨⟨k_554, k_3, by decide +kernel, Or.inl k_551⟩, k_552, k_553, by decide, TX8, CI8.1⟩
theorem cv_X2_50 : CVw RX2 50 M_X2_goAsBidden 2 2 8 := ⟨⟨k_577, k_7, by decide +kernel, Or.inl k_574⟩, k_576, ks_20, by decide, TX2, CI2.1⟩
theorem cv_X2_54 : CVw RX2 54 M_X2_gather 0 2 8 := ⟨⟨k_608, k_7, by decide +kernel, Or.inl k_605⟩, k_606, k_607, by decide, TX2, CI2.1⟩
theorem fg_X2_57 : FG RX2 57 8 3 4 := ⟨RX8, TX8, CI8, by decide, Or.inr ⟨_, k_49⟩⟩
theorem fp_X2_35 : FP RX2 35 2 5 8 := ⟨RX2, TX2, CI2, by decide, rfl, Or.inl k_190⟩
theorem fg_X2_60 : FG RX2 60 0 1 10 := ⟨RX0, TX0, CI0, by decide, Or.inr ⟨_, k_68⟩⟩
theorem fp_X2_63 : FP RX2 63 2 6 8 := ⟨RX2, TX2, CI2, by decide, rfl, Or.inl k_191⟩
theorem fg_X2_64 : FG RX2 64 0 2 10 := ⟨RX0, TX0, CI0, by decide, Or.inr ⟨_, k_73⟩⟩
theorem fp_X2_67 : FP RX2 67 2 7 8 := ⟨RX2, TX2, CI2, by decide, rfl, Or.inl k_192⟩
theorem fg_X2_63 : FG RX2 63 2 6 8 := ⟨RX2, TX2, CI2, by decide, Or.inl k_191⟩
theorem fg_X2_9 : FG RX2 9 2 0 8 := ⟨RX2, TX2, CI2, by decide, Or.inl k_185⟩
theorem fg_X2_68 : FG RX2 68 0 5 10 := ⟨RX0, TX0, CI0, by decide, Or.inr ⟨_, k_83⟩⟩
theorem cv_X2_71 : CVw RX2 71 M_X2_openDoor 3 2 8 := ⟨⟨k_558, k_7, by decide +kernel, Or.inl k_555⟩, k_557, ks_17, by decide, TX2, CI2.1⟩
theorem cv_X2_74 : CVw RX2 74 M_X0_hasRoom 1 0 10 := ⟨⟨k_562, k_2, by decide +kernel, Or.inl k_559⟩, k_560, k_561, by decide, TX0, CI0.1⟩
theorem fg_X2_15 : FG RX2 15 2 1 8 := ⟨RX2, TX2, CI2, by decide, Or.inl k_186⟩
theorem cs_X2_78 : CSw RX2 78 M_J7_fill_53178 2 := ⟨⟨k_569, k_18, by decide +kernel, Or.inl k_567⟩, k_568⟩
theorem fg_X2_18 : FG RX2 18 2 2 8 := ⟨RX2, TX2, CI2, by decide, Or.inl k_187⟩
theorem fg_X2_84 : FG RX2 84 0 8 10 := ⟨RX0, TX0, CI0, by decide, Or.inr ⟨_, k_96⟩⟩
theorem cv_X2_87 : CVw RX2 87 M_X2_hearBid 3 2 8 := ⟨⟨k_573, k_7, by decide +kernel, Or.inl k_570⟩, k_572, ks_19, by decide, TX2, CI2.1⟩
theorem fg_X2_91 : FG RX2 91 0 9 10 := ⟨RX0, TX0, CI0, by decide, Or.inr ⟨_, k_100⟩⟩
theorem fg_X2_67 : FG RX2 67 2 7 8 := ⟨RX2, TX2, CI2, by decide, Or.inl k_192⟩
theorem fg_X2_21 : FG RX2 21 2 3 8 := ⟨RX2, TX2, CI2, by decide, Or.inl k_188⟩
theorem cv_X2_94 : CVw RX2 94 M_X2_goalOf 2 2 8 := ⟨⟨k_581, k_7, by decide +kernel, Or.inl k_578⟩, k_579, k_580, by decide, TX2, CI2.1⟩
theorem cv_X2_97 : CVw RX2 97 M_X2_nextRoom 3 2 8 := ⟨⟨k_589, k_7, by decide +kernel, Or.inl k_586⟩, k_588, ks_22, by decide, TX2, CI2.1⟩
theorem cv_X2_101 : CVw RX2 101 M_X2_stepsFrom 2 2 8 := ⟨⟨k_593, k_7, by decide +kernel, Or.inl k_590⟩, k_591, k_592, by decide, TX2, CI2.1⟩
theorem cs_X2_104 : CSw RX2 104 M_X9_lowest 1 := ⟨⟨k_596, k_1, by decide +kernel, Or.inr ⟨_, k_594⟩⟩, k_595⟩
theorem cv_X2_108 : CVw RX2 108 M_X2_spread 2 2 8 := ⟨⟨k_603, k_7, by decide +kernel, Or.inl k_600⟩, k_601, k_602, by decide, TX2, CI2.1⟩
theorem fg_X2_24 : FG RX2 24 2 4 8 := ⟨RX2, TX2, CI2, by decide, Or.inl k_189⟩
theorem cv_X2_111 : CVw RX2 111 M_X2_placeOf 2 2 8 := ⟨⟨k_612, k_7, by decide +kernel, Or.inl k_609⟩, k_610, k_611, by decide, TX2, CI2.1⟩
theorem cv_X2_114 : CVw RX2 114 M_X2_ladiesIn 2 2 8 := ⟨⟨k_616, k_7, by decide +kernel, Or.inl k_613⟩, k_614, k_615, by decide, TX2, CI2.1⟩
theorem cs_X2_123 : CSw RX2 123 M_X9_hasBit 2 := ⟨⟨k_599, k_1, by decide +kernel, Or.inr ⟨_, k_604⟩⟩, k_598⟩
theorem cv_X2_127 : CVw RX2 127 M_X2_isHere 2 2 8 := ⟨⟨k_585, k_7, by decide +kernel, Or.inl k_582⟩, k_584, ks_21, by decide, TX2, CI2.1⟩
theorem cv_X2_130 : CVw RX2 130 M_X2_companyOf 2 2 8 := ⟨⟨k_702, k_7, by decide +kernel, Or.inl k_711⟩, k_700, k_701, by decide, TX2, CI2.1⟩
theorem fg_X3_15 : FG RX3 15 0 6 10 := ⟨RX0, TX0, CI0, by decide, Or.inr ⟨_, k_88⟩⟩
theorem fg_X3_21 : FG RX3 21 8 3 4 := ⟨RX8, TX8, CI8, by decide, Or.inr ⟨_, k_48⟩⟩
theorem fp_X3_27 : FP RX3 27 3 1 3 := ⟨RX3, TX3, CI3, by decide, rfl, Or.inl k_275⟩
theorem fp_X3_29 : FP RX3 29 3 2 3 := ⟨RX3, TX3, CI3, by decide, rfl, Or.inl k_276⟩
theorem fg_X3_27 : FG RX3 27 3 1 3 := ⟨RX3, TX3, CI3, by decide, Or.inl k_275⟩
theorem fg_X3_9 : FG RX3 9 3 0 3 := ⟨RX3, TX3, CI3, by decide, Or.inl k_274⟩
theorem cv_X3_32 : CVw RX3 32 M_X0_seatsUnder 1 0 10 := ⟨⟨k_788, k_2, by decide +kernel, Or.inl k_994⟩, k_786, k_787, by decide, TX0, CI0.1⟩
theorem fg_X3_29 : FG RX3 29 3 2 3 := ⟨RX3, TX3, CI3, by decide, Or.inl k_276⟩
theorem cs_X3_35 : CSw RX3 35 M_X9_hasBit 2 := ⟨⟨k_599, k_1, by decide +kernel, Or.inr ⟨_, k_1003⟩⟩, k_598⟩
theorem cv_X3_39 : CVw RX3 39 M_X3_seatsOf 1 3 3 := ⟨⟨k_1002, k_10, by decide +kernel, Or.inl k_999⟩, k_1000, k_1001, by decide, TX3, CI3.1⟩
theorem cv_X3_42 : CVw RX3 42 M_X3_isMoreThanHalf 1 3 3 := ⟨⟨k_1007, k_10, by decide +kernel, Or.inl k_1004⟩, k_1005, k_1006, by decide, TX3, CI3.1⟩
theorem cv_X3_46 : CVw RX3 46 M_X3_isMajority 1 3 3 := ⟨⟨k_998, k_10, by decide +kernel, Or.inl k_1020⟩, k_996, k_997, by decide, TX3, CI3.1⟩
theorem fg_X4_9 : FG RX4 9 4 0 3 := ⟨RX4, TX4, CI4, by decide, Or.inl k_291⟩
theorem cs_X4_18 : CSw RX4 18 M_J7_fill_d0a16 2 := ⟨⟨k_1102, k_18, by decide +kernel, Or.inl k_1100⟩, k_1101⟩
theorem fp_X4_24 : FP RX4 24 4 2 3 := ⟨RX4, TX4, CI4, by decide, rfl, Or.inl k_293⟩
theorem cv_X4_28 : CVw RX4 28 M_X4_playOne 4 4 3 := ⟨⟨k_1106, k_11, by decide +kernel, Or.inl k_1103⟩, k_1105, ks_39, by decide, TX4, CI4.1⟩
theorem fg_X4_24 : FG RX4 24 4 2 3 := ⟨RX4, TX4, CI4, by decide, Or.inl k_293⟩
theorem fg_X4_15 : FG RX4 15 4 1 3 := ⟨RX4, TX4, CI4, by decide, Or.inl k_292⟩
theorem cv_X4_34 : CVw RX4 34 M_X5_passed 3 5 6 := ⟨⟨k_807, k_8, by decide +kernel, Or.inl k_1107⟩, k_805, k_806, by decide, TX5, CI5.1⟩
theorem cs_X4_40 : CSw RX4 40 M_X9_hasBit 2 := ⟨⟨k_599, k_1, by decide +kernel, Or.inr ⟨_, k_1113⟩⟩, k_598⟩
theorem cs_X4_44 : CSw RX4 44 M_J6_bitCount_0f7a4 1 := ⟨⟨k_731, k_19, by decide +kernel, Or.inl k_1122⟩, k_730⟩
theorem fg_X5_21 : FG RX5 21 0 6 10 := ⟨RX0, TX0, CI0, by decide, Or.inr ⟨_, k_87⟩⟩
theorem fg_X5_27 : FG RX5 27 8 3 4 := ⟨RX8, TX8, CI8, by decide, Or.inr ⟨_, k_47⟩⟩
theorem fp_X5_33 : FP RX5 33 5 3 6 := ⟨RX5, TX5, CI5, by decide, rfl, Or.inl k_219⟩
theorem fg_X5_35 : FG RX5 35 0 2 10 := ⟨RX0, TX0, CI0, by decide, Or.inr ⟨_, k_72⟩⟩
theorem fp_X5_38 : FP RX5 38 5 4 6 := ⟨RX5, TX5, CI5, by decide, rfl, Or.inl k_221⟩
theorem fg_X5_33 : FG RX5 33 5 3 6 := ⟨RX5, TX5, CI5, by decide, Or.inl k_219⟩
theorem fg_X5_15 : FG RX5 15 5 1 6 := ⟨RX5, TX5, CI5, by decide, Or.inl k_217⟩
theorem cv_X5_39 : CVw RX5 39 M_X0_seatsUnder 1 0 10 := ⟨⟨k_788, k_2, by decide +kernel, Or.inl k_785⟩, k_786, k_787, by decide, TX0, CI0.1⟩
theorem fg_X5_9 : FG RX5 9 5 0 6 := ⟨RX5, TX5, CI5, by decide, Or.inl k_216⟩
theorem cv_X5_42 : CVw RX5 42 M_X5_mayGive 4 5 6 := ⟨⟨k_793, k_8, by decide +kernel, Or.inl k_790⟩, k_792, ks_25, by decide, TX5, CI5.1⟩
theorem cv_X5_46 : CVw RX5 46 M_X8_cell 2 8 4 := ⟨⟨k_554, k_3, by decide +kernel, Or.inl k_794⟩, k_552, k_553, by decide, TX8, CI8.1⟩
theorem cs_X5_50 : CSw RX5 50 M_X9_hasBit 2 := ⟨⟨k_599, k_1, by decide +kernel, Or.inr ⟨_, k_803⟩⟩, k_598⟩
theorem cv_X5_54 : CVw RX5 54 M_X2_companyOf 2 2 8 := ⟨⟨k_702, k_7, by decide +kernel, Or.inl k_808⟩, k_700, k_701, by decide, TX2, CI2.1⟩
theorem fp_X5_59 : FP RX5 59 5 5 6 := ⟨RX5, TX5, CI5, by decide, rfl, Or.inl k_223⟩
theorem fg_X5_38 : FG RX5 38 5 4 6 := ⟨RX5, TX5, CI5, by decide, Or.inl k_221⟩
theorem cv_X5_62 : CVw RX5 62 M_X5_passed 3 5 6 := ⟨⟨k_807, k_8, by decide +kernel, Or.inl k_804⟩, k_805, k_806, by decide, TX5, CI5.1⟩
theorem fg_X5_18 : FG RX5 18 5 2 6 := ⟨RX5, TX5, CI5, by decide, Or.inl k_218⟩
theorem fg_X5_59 : FG RX5 59 5 5 6 := ⟨RX5, TX5, CI5, by decide, Or.inl k_223⟩
theorem cv_X5_66 : CVw RX5 66 M_X5_behind 1 5 6 := ⟨⟨k_812, k_8, by decide +kernel, Or.inl k_829⟩, k_810, k_811, by decide, TX5, CI5.1⟩
theorem cv_X5_69 : CVw RX5 69 M_X5_gotAt 1 5 6 := ⟨⟨k_824, k_8, by decide +kernel, Or.inl k_821⟩, k_822, k_823, by decide, TX5, CI5.1⟩
theorem cv_X5_72 : CVw RX5 72 M_X5_ahead 1 5 6 := ⟨⟨k_828, k_8, by decide +kernel, Or.inl k_825⟩, k_826, k_827, by decide, TX5, CI5.1⟩
theorem fg_X6_9 : FG RX6 9 6 0 8 := ⟨RX6, TX6, CI6, by decide, Or.inl k_129⟩
theorem fp_X6_32 : FP RX6 32 6 2 8 := ⟨RX6, TX6, CI6, by decide, rfl, Or.inl k_131⟩
theorem fg_X6_15 : FG RX6 15 6 1 8 := ⟨RX6, TX6, CI6, by decide, Or.inl k_130⟩
theorem cv_X6_35 : CVw RX6 35 M_X0_clear 0 0 10 := ⟨⟨k_375, k_2, by decide +kernel, Or.inl k_372⟩, k_373, k_374, by decide, TX0, CI0.1⟩
theorem fp_X6_40 : FP RX6 40 6 6 8 := ⟨RX6, TX6, CI6, by decide, rfl, Or.inl k_135⟩
theorem fp_X6_43 : FP RX6 43 6 5 8 := ⟨RX6, TX6, CI6, by decide, rfl, Or.inl k_134⟩
theorem cv_X6_46 : CVw RX6 46 M_X6_nextToken 0 6 8 := ⟨⟨k_383, k_5, by decide +kernel, Or.inl k_380⟩, k_382, ks_1, by decide, TX6, CI6.1⟩
theorem fg_X6_32 : FG RX6 32 6 2 8 := ⟨RX6, TX6, CI6, by decide, Or.inl k_131⟩
theorem fg_X6_40 : FG RX6 40 6 6 8 := ⟨RX6, TX6, CI6, by decide, Or.inl k_135⟩
theorem fg_X6_49 : FG RX6 49 6 3 8 := ⟨RX6, TX6, CI6, by decide, Or.inl k_132⟩
theorem cv_X6_52 : CVw RX6 52 M_X6_readLine 0 6 8 := ⟨⟨k_397, k_5, by decide +kernel, Or.inl k_394⟩, k_396, ks_3, by decide, TX6, CI6.1⟩
theorem fg_X6_55 : FG RX6 55 0 0 10 := ⟨RX0, TX0, CI0, by decide, Or.inr ⟨_, k_65⟩⟩
theorem cv_X6_58 : CVw RX6 58 M_X6_readBall 0 6 8 := ⟨⟨k_401, k_5, by decide +kernel, Or.inl k_398⟩, k_400, ks_4, by decide, TX6, CI6.1⟩
theorem cv_X6_63 : CVw RX6 63 M_X6_isWord 1 6 8 := ⟨⟨k_410, k_5, by decide +kernel, Or.inl k_407⟩, k_409, ks_6, by decide, TX6, CI6.1⟩
theorem cv_X6_67 : CVw RX6 67 M_X6_readDoor 0 6 8 := ⟨⟨k_484, k_5, by decide +kernel, Or.inl k_481⟩, k_483, ks_11, by decide, TX6, CI6.1⟩
theorem cv_X6_72 : CVw RX6 72 M_X6_readLady 0 6 8 := ⟨⟨k_512, k_5, by decide +kernel, Or.inl k_509⟩, k_511, ks_13, by decide, TX6, CI6.1⟩
theorem cv_X6_77 : CVw RX6 77 M_X6_readMinister 0 6 8 := ⟨⟨k_518, k_5, by decide +kernel, Or.inl k_515⟩, k_517, ks_14, by decide, TX6, CI6.1⟩
theorem cv_X6_82 : CVw RX6 82 M_X6_readBid 0 6 8 := ⟨⟨k_525, k_5, by decide +kernel, Or.inl k_522⟩, k_524, ks_15, by decide, TX6, CI6.1⟩
theorem cv_X6_85 : CVw RX6 85 M_X6_fail 1 6 8 := ⟨⟨k_462, k_5, by decide +kernel, Or.inl k_459⟩, k_461, ks_7, by decide, TX6, CI6.1⟩
theorem fp_X6_55 : FP RX6 55 0 0 10 := ⟨RX0, TX0, CI0, by decide, rfl, Or.inr ⟨_, k_65⟩⟩
theorem cv_X6_90 : CVw RX6 90 M_X6_takeWord 1 6 8 := ⟨⟨k_406, k_5, by decide +kernel, Or.inl k_403⟩, k_405, ks_5, by decide, TX6, CI6.1⟩
theorem cv_X6_96 : CVw RX6 96 M_X6_takeNumber 2 6 8 := ⟨⟨k_467, k_5, by decide +kernel, Or.inl k_464⟩, k_466, ks_8, by decide, TX6, CI6.1⟩
theorem fp_X6_99 : FP RX6 99 0 1 10 := ⟨RX0, TX0, CI0, by decide, rfl, Or.inr ⟨_, k_69⟩⟩
theorem fp_X6_103 : FP RX6 103 0 2 10 := ⟨RX0, TX0, CI0, by decide, rfl, Or.inr ⟨_, k_74⟩⟩
theorem fp_X6_107 : FP RX6 107 0 3 10 := ⟨RX0, TX0, CI0, by decide, rfl, Or.inr ⟨_, k_77⟩⟩
theorem fp_X6_111 : FP RX6 111 0 4 10 := ⟨RX0, TX0, CI0, by decide, rfl, Or.inr ⟨_, k_80⟩⟩
theorem cv_X6_113 : CVw RX6 113 M_X6_takeSign 0 6 8 := ⟨⟨k_479, k_5, by decide +kernel, Or.inl k_476⟩, k_478, ks_10, by decide, TX6, CI6.1⟩
theorem fg_X6_116 : FG RX6 116 0 5 10 := ⟨RX0, TX0, CI0, by decide, Or.inr ⟨_, k_84⟩⟩
theorem cv_X6_120 : CVw RX6 120 M_X6_startRow 1 6 8 := ⟨⟨k_488, k_5, by decide +kernel, Or.inl k_485⟩, k_487, ks_12, by decide, TX6, CI6.1⟩
theorem fg_X6_99 : FG RX6 99 0 1 10 := ⟨RX0, TX0, CI0, by decide, Or.inr ⟨_, k_69⟩⟩
theorem cv_X6_126 : CVw RX6 126 M_X6_digits 0 6 8 := ⟨⟨k_471, k_5, by decide +kernel, Or.inl k_468⟩, k_470, ks_9, by decide, TX6, CI6.1⟩
theorem cv_X6_132 : CVw RX6 132 M_X8_add 4 8 4 := ⟨⟨k_498, k_3, by decide +kernel, Or.inl k_495⟩, k_496, k_497, by decide, TX8, CI8.1⟩
theorem fg_X6_138 : FG RX6 138 0 6 10 := ⟨RX0, TX0, CI0, by decide, Or.inr ⟨_, k_90⟩⟩
theorem fg_X6_143 : FG RX6 143 0 7 10 := ⟨RX0, TX0, CI0, by decide, Or.inr ⟨_, k_93⟩⟩
theorem fg_X6_148 : FG RX6 148 8 3 4 := ⟨RX8, TX8, CI8, by decide, Or.inr ⟨_, k_50⟩⟩
theorem fg_X6_153 : FG RX6 153 0 8 10 := ⟨RX0, TX0, CI0, by decide, Or.inr ⟨_, k_97⟩⟩
theorem cv_X6_158 : CVw RX6 158 M_X8_isFull 0 8 4 := ⟨⟨k_492, k_3, by decide +kernel, Or.inl k_489⟩, k_490, k_491, by decide, TX8, CI8.1⟩
theorem fg_X6_162 : FG RX6 162 6 4 8 := ⟨RX6, TX6, CI6, by decide, Or.inl k_133⟩
theorem fg_X6_43 : FG RX6 43 6 5 8 := ⟨RX6, TX6, CI6, by decide, Or.inl k_134⟩
theorem cx_X6_165 : CXw RX6 165 M_J0_length_8abf5 0 := ⟨⟨k_414, k_13, by decide +kernel, Or.inl k_411⟩, k_412, k_413⟩
theorem cv_X6_169 : CVw RX6 169 M_X6_byteAt 1 6 8 := ⟨⟨k_387, k_5, by decide +kernel, Or.inl k_384⟩, k_386, ks_2, by decide, TX6, CI6.1⟩
theorem cx_X6_173 : CXw RX6 173 M_J0_charAt_5068e 1 := ⟨⟨k_424, k_13, by decide +kernel, Or.inl k_421⟩, k_422, k_423⟩
theorem cs_X6_177 : CSw RX6 177 M_X6_isBlank 1 := ⟨⟨k_390, k_5, by decide +kernel, Or.inl k_388⟩, k_389⟩
theorem fp_X6_162 : FP RX6 162 6 4 8 := ⟨RX6, TX6, CI6, by decide, rfl, Or.inl k_133⟩
theorem cs_X6_181 : CSw RX6 181 M_X6_kindOf 1 := ⟨⟨k_393, k_5, by decide +kernel, Or.inl k_391⟩, k_392⟩
theorem fp_X6_49 : FP RX6 49 6 3 8 := ⟨RX6, TX6, CI6, by decide, rfl, Or.inl k_132⟩
theorem fg_X7_15 : FG RX7 15 7 2 3 := ⟨RX7, TX7, CI7, by decide, Or.inl k_168⟩
theorem fp_X7_19 : FP RX7 19 7 1 3 := ⟨RX7, TX7, CI7, by decide, rfl, Or.inl k_166⟩
theorem fg_X7_11 : FG RX7 11 7 0 3 := ⟨RX7, TX7, CI7, by decide, Or.inl k_164⟩
theorem cs_X7_28 : CSw RX7 28 M_J7_fill_d0a16 2 := ⟨⟨k_1102, k_18, by decide +kernel, Or.inl k_1213⟩, k_1101⟩
theorem cv_X7_36 : CVw RX7 36 M_X7_cut 1 7 3 := ⟨⟨k_1225, k_6, by decide +kernel, Or.inl k_1222⟩, k_1224, ks_43, by decide, TX7, CI7.1⟩
theorem fg_X7_19 : FG RX7 19 7 1 3 := ⟨RX7, TX7, CI7, by decide, Or.inl k_166⟩
theorem fg_X8_28 : FG RX8 28 8 3 4 := ⟨RX8, TX8, CI8, by decide, Or.inl k_46⟩
theorem cv_X8_31 : CVw RX8 31 M_X8_hasCell 2 8 4 := ⟨⟨k_507, k_3, by decide +kernel, Or.inl k_504⟩, k_505, k_506, by decide, TX8, CI8.1⟩
theorem fg_X8_24 : FG RX8 24 8 0 4 := ⟨RX8, TX8, CI8, by decide, Or.inl k_43⟩
theorem cv_X8_35 : CVw RX8 35 M_X8_isFull 0 8 4 := ⟨⟨k_492, k_3, by decide +kernel, Or.inl k_499⟩, k_490, k_491, by decide, TX8, CI8.1⟩
theorem cv_X8_39 : CVw RX8 39 M_X8_put 3 8 4 := ⟨⟨k_503, k_3, by decide +kernel, Or.inl k_500⟩, k_501, k_502, by decide, TX8, CI8.1⟩
theorem fg_X9_13 : FG RX9 13 9 1 15 := ⟨RX9, TX9, CI9, by decide, Or.inl k_303⟩
theorem cv_X9_93 : CVw RX9 93 M_X9_appendFour 1 9 15 := ⟨⟨k_355, k_1, by decide +kernel, Or.inl k_352⟩, k_354, ks_0, by decide, TX9, CI9.1⟩
theorem fg_X9_32 : FG RX9 32 9 2 15 := ⟨RX9, TX9, CI9, by decide, Or.inl k_304⟩
theorem cv_X9_97 : CVw RX9 97 M_X6_read 1 6 8 := ⟨⟨k_367, k_5, by decide +kernel, Or.inl k_364⟩, k_365, k_366, by decide, TX6, CI6.1⟩
theorem fg_X9_100 : FG RX9 100 6 6 8 := ⟨RX6, TX6, CI6, by decide, Or.inr ⟨_, k_136⟩⟩
theorem fg_X9_20 : FG RX9 20 9 3 15 := ⟨RX9, TX9, CI9, by decide, Or.inl k_305⟩
theorem cv_X9_103 : CVw RX9 103 M_X0_copyFrom 1 0 10 := ⟨⟨k_530, k_2, by decide +kernel, Or.inl k_527⟩, k_528, k_529, by decide, TX0, CI0.1⟩
theorem cv_X9_107 : CVw RX9 107 M_X9_settle 0 9 15 := ⟨⟨k_542, k_1, by decide +kernel, Or.inl k_539⟩, k_541, ks_16, by decide, TX9, CI9.1⟩
theorem fg_X9_110 : FG RX9 110 0 0 10 := ⟨RX0, TX0, CI0, by decide, Or.inr ⟨_, k_66⟩⟩
theorem fg_X9_113 : FG RX9 113 6 7 8 := ⟨RX6, TX6, CI6, by decide, Or.inr ⟨_, k_138⟩⟩
theorem fg_X9_54 : FG RX9 54 9 8 15 := ⟨RX9, TX9, CI9, by decide, Or.inl k_310⟩
theorem cv_X9_116 : CVw RX9 116 M_X2_settle 3 2 8 := ⟨⟨k_546, k_7, by decide +kernel, Or.inl k_543⟩, k_544, k_545, by decide, TX2, CI2.1⟩
theorem fg_X9_119 : FG RX9 119 0 5 10 := ⟨RX0, TX0, CI0, by decide, Or.inr ⟨_, k_85⟩⟩
theorem cv_X9_123 : CVw RX9 123 M_X8_hasCell 2 8 4 := ⟨⟨k_507, k_3, by decide +kernel, Or.inl k_625⟩, k_505, k_506, by decide, TX8, CI8.1⟩
theorem cv_X9_129 : CVw RX9 129 M_X8_cell 2 8 4 := ⟨⟨k_554, k_3, by decide +kernel, Or.inl k_626⟩, k_552, k_553, by decide, TX8, CI8.1⟩
theorem fg_X9_133 : FG RX9 133 0 6 10 := ⟨RX0, TX0, CI0, by decide, Or.inr ⟨_, k_91⟩⟩
theorem fg_X9_136 : FG RX9 136 0 7 10 := ⟨RX0, TX0, CI0, by decide, Or.inr ⟨_, k_94⟩⟩
theorem cv_X9_139 : CVw RX9 139 M_X0_hasLady 1 0 10 := ⟨⟨k_642, k_2, by decide +kernel, Or.inl k_639⟩, k_640, k_641, by decide, TX0, CI0.1⟩
theorem cv_X9_143 : CVw RX9 143 M_X0_hasRoom 1 0 10 := ⟨⟨k_562, k_2, by decide +kernel, Or.inl k_647⟩, k_560, k_561, by decide, TX0, CI0.1⟩
theorem cv_X9_146 : CVw RX9 146 M_X2_distance 3 2 8 := ⟨⟨k_651, k_7, by decide +kernel, Or.inl k_648⟩, k_649, k_650, by decide, TX2, CI2.1⟩
theorem cv_X9_150 : CVw RX9 150 M_X2_reachable 2 2 8 := ⟨⟨k_659, k_7, by decide +kernel, Or.inl k_656⟩, k_657, k_658, by decide, TX2, CI2.1⟩
theorem cv_X9_153 : CVw RX9 153 M_X0_hasDance 1 0 10 := ⟨⟨k_667, k_2, by decide +kernel, Or.inl k_664⟩, k_665, k_666, by decide, TX0, CI0.1⟩
theorem cv_X9_156 : CVw RX9 156 M_X2_goalOf 2 2 8 := ⟨⟨k_581, k_7, by decide +kernel, Or.inl k_672⟩, k_579, k_580, by decide, TX2, CI2.1⟩
theorem cv_X9_159 : CVw RX9 159 M_X2_placeOf 2 2 8 := ⟨⟨k_612, k_7, by decide +kernel, Or.inl k_677⟩, k_610, k_611, by decide, TX2, CI2.1⟩
theorem cv_X9_162 : CVw RX9 162 M_X2_ladiesIn 2 2 8 := ⟨⟨k_616, k_7, by decide +kernel, Or.inl k_682⟩, k_614, k_615, by decide, TX2, CI2.1⟩
theorem cv_X9_165 : CVw RX9 165 M_X2_stepsOf 1 2 8 := ⟨⟨k_690, k_7, by decide +kernel, Or.inl k_687⟩, k_688, k_689, by decide, TX2, CI2.1⟩
theorem fg_X9_169 : FG RX9 169 0 2 10 := ⟨RX0, TX0, CI0, by decide, Or.inr ⟨_, k_75⟩⟩
theorem cv_X9_172 : CVw RX9 172 M_X2_companyOf 2 2 8 := ⟨⟨k_702, k_7, by decide +kernel, Or.inl k_699⟩, k_700, k_701, by decide, TX2, CI2.1⟩
theorem cs_X9_175 : CSw RX9 175 M_X9_hasBit 2 := ⟨⟨k_599, k_1, by decide +kernel, Or.inl k_597⟩, k_598⟩
theorem cv_X9_178 : CVw RX9 178 M_X2_meetingsOf 2 2 8 := ⟨⟨k_710, k_7, by decide +kernel, Or.inl k_707⟩, k_708, k_709, by decide, TX2, CI2.1⟩
theorem cv_X9_181 : CVw RX9 181 M_X2_friendsOf 1 2 8 := ⟨⟨k_719, k_7, by decide +kernel, Or.inl k_716⟩, k_717, k_718, by decide, TX2, CI2.1⟩
theorem cv_X9_184 : CVw RX9 184 M_X0_isTold 0 0 10 := ⟨⟨k_671, k_2, by decide +kernel, Or.inl k_724⟩, k_669, k_670, by decide, TX0, CI0.1⟩
theorem cv_X9_188 : CVw RX9 188 M_X9_fullest 1 9 15 := ⟨⟨k_728, k_1, by decide +kernel, Or.inl k_725⟩, k_727, ks_23, by decide, TX9, CI9.1⟩
theorem cv_X9_196 : CVw RX9 196 M_X9_crush 0 9 15 := ⟨⟨k_723, k_1, by decide +kernel, Or.inl k_740⟩, k_721, k_722, by decide, TX9, CI9.1⟩
theorem fg_X9_200 : FG RX9 200 8 3 4 := ⟨RX8, TX8, CI8, by decide, Or.inr ⟨_, k_52⟩⟩
theorem cs_X9_203 : CSw RX9 203 M_J6_bitCount_0f7a4 1 := ⟨⟨k_731, k_19, by decide +kernel, Or.inl k_729⟩, k_730⟩
theorem fg_X9_208 : FG RX9 208 0 1 10 := ⟨RX0, TX0, CI0, by decide, Or.inr ⟨_, k_70⟩⟩
theorem cv_X9_211 : CVw RX9 211 M_X2_dancesIn 2 2 8 := ⟨⟨k_748, k_7, by decide +kernel, Or.inl k_745⟩, k_746, k_747, by decide, TX2, CI2.1⟩
theorem fg_X9_64 : FG RX9 64 9 10 15 := ⟨RX9, TX9, CI9, by decide, Or.inl k_312⟩
theorem fg_X9_214 : FG RX9 214 0 3 10 := ⟨RX0, TX0, CI0, by decide, Or.inr ⟨_, k_78⟩⟩
theorem cv_X9_217 : CVw RX9 217 M_X5_prepare 3 5 6 := ⟨⟨k_784, k_8, by decide +kernel, Or.inl k_781⟩, k_782, k_783, by decide, TX5, CI5.1⟩
theorem cv_X9_220 : CVw RX9 220 M_X5_follow 3 5 6 := ⟨⟨k_802, k_8, by decide +kernel, Or.inl k_799⟩, k_800, k_801, by decide, TX5, CI5.1⟩
theorem cv_X9_224 : CVw RX9 224 M_X5_behind 1 5 6 := ⟨⟨k_812, k_8, by decide +kernel, Or.inl k_809⟩, k_810, k_811, by decide, TX5, CI5.1⟩
theorem cv_X9_227 : CVw RX9 227 M_X9_passAsTold 0 9 15 := ⟨⟨k_780, k_1, by decide +kernel, Or.inl k_777⟩, k_779, ks_24, by decide, TX9, CI9.1⟩
theorem cv_X9_230 : CVw RX9 230 M_X9_inTheEnd 2 9 15 := ⟨⟨k_798, k_1, by decide +kernel, Or.inl k_795⟩, k_797, ks_26, by decide, TX9, CI9.1⟩
theorem cv_X9_234 : CVw RX9 234 M_X5_giverOf 2 5 6 := ⟨⟨k_820, k_8, by decide +kernel, Or.inl k_817⟩, k_818, k_819, by decide, TX5, CI5.1⟩
theorem cv_X9_237 : CVw RX9 237 M_X5_gotAt 1 5 6 := ⟨⟨k_824, k_8, by decide +kernel, Or.inl k_838⟩, k_822, k_823, by decide, TX5, CI5.1⟩
theorem cv_X9_240 : CVw RX9 240 M_X0_everybody 0 0 10 := ⟨⟨k_850, k_2, by decide +kernel, Or.inl k_847⟩, k_848, k_849, by decide, TX0, CI0.1⟩
theorem fg_X9_71 : FG RX9 71 9 11 15 := ⟨RX9, TX9, CI9, by decide, Or.inl k_313⟩
theorem cv_X9_243 : CVw RX9 243 M_X1_prepare 4 1 8 := ⟨⟨k_874, k_9, by decide +kernel, Or.inl k_871⟩, k_872, k_873, by decide, TX1, CI1.1⟩
theorem cv_X9_246 : CVw RX9 246 M_X1_soonest 1 1 8 := ⟨⟨k_884, k_9, by decide +kernel, Or.inl k_881⟩, k_882, k_883, by decide, TX1, CI1.1⟩
theorem cv_X9_250 : CVw RX9 250 M_X9_carry 3 9 15 := ⟨⟨k_870, k_1, by decide +kernel, Or.inl k_898⟩, k_868, k_869, by decide, TX9, CI9.1⟩
theorem cv_X9_253 : CVw RX9 253 M_X1_roomAt 3 1 8 := ⟨⟨k_902, k_9, by decide +kernel, Or.inl k_899⟩, k_900, k_901, by decide, TX1, CI1.1⟩
theorem cv_X9_257 : CVw RX9 257 M_X8_has 1 8 4 := ⟨⟨k_646, k_3, by decide +kernel, Or.inl k_909⟩, k_644, k_645, by decide, TX8, CI8.1⟩
theorem fg_X9_58 : FG RX9 58 9 9 15 := ⟨RX9, TX9, CI9, by decide, Or.inl k_311⟩
theorem cv_X9_260 : CVw RX9 260 M_X2_openDoors 3 2 8 := ⟨⟨k_550, k_7, by decide +kernel, Or.inl k_918⟩, k_548, k_549, by decide, TX2, CI2.1⟩
theorem cv_X9_263 : CVw RX9 263 M_X9_seenFault 1 9 15 := ⟨⟨k_926, k_1, by decide +kernel, Or.inl k_923⟩, k_925, ks_29, by decide, TX9, CI9.1⟩
theorem cv_X9_266 : CVw RX9 266 M_X9_possibleFirsts 1 9 15 := ⟨⟨k_946, k_1, by decide +kernel, Or.inl k_943⟩, k_945, ks_31, by decide, TX9, CI9.1⟩
theorem cv_X9_270 : CVw RX9 270 M_X9_bestAsked 1 9 15 := ⟨⟨k_958, k_1, by decide +kernel, Or.inl k_955⟩, k_957, ks_33, by decide, TX9, CI9.1⟩
theorem cv_X9_273 : CVw RX9 273 M_X9_leftAtWorst 2 9 15 := ⟨⟨k_962, k_1, by decide +kernel, Or.inl k_959⟩, k_961, ks_34, by decide, TX9, CI9.1⟩
theorem cs_X9_276 : CSw RX9 276 M_X9_isSlot 1 := ⟨⟨k_929, k_1, by decide +kernel, Or.inl k_927⟩, k_928⟩
theorem cv_X9_279 : CVw RX9 279 M_X7_isBare 0 7 3 := ⟨⟨k_933, k_6, by decide +kernel, Or.inl k_930⟩, k_931, k_932, by decide, TX7, CI7.1⟩
theorem fg_X9_282 : FG RX9 282 7 2 3 := ⟨RX7, TX7, CI7, by decide, Or.inr ⟨_, k_169⟩⟩
theorem cv_X9_285 : CVw RX9 285 M_X7_cell 1 7 3 := ⟨⟨k_937, k_6, by decide +kernel, Or.inl k_934⟩, k_935, k_936, by decide, TX7, CI7.1⟩
theorem cv_X9_288 : CVw RX9 288 M_X9_isSighting 3 9 15 := ⟨⟨k_942, k_1, by decide +kernel, Or.inl k_939⟩, k_941, ks_30, by decide, TX9, CI9.1⟩
theorem cv_X9_292 : CVw RX9 292 M_X9_agrees 1 9 15 := ⟨⟨k_950, k_1, by decide +kernel, Or.inl k_947⟩, k_949, ks_32, by decide, TX9, CI9.1⟩
theorem fg_X9_89 : FG RX9 89 9 14 15 := ⟨RX9, TX9, CI9, by decide, Or.inl k_316⟩
theorem cs_X9_296 : CSw RX9 296 M_J7_fill_53178 2 := ⟨⟨k_569, k_18, by decide +kernel, Or.inl k_963⟩, k_568⟩
theorem cv_X9_302 : CVw RX9 302 M_X0_seatsUnder 1 0 10 := ⟨⟨k_788, k_2, by decide +kernel, Or.inl k_972⟩, k_786, k_787, by decide, TX0, CI0.1⟩
theorem cv_X9_305 : CVw RX9 305 M_X0_ministersUnder 1 0 10 := ⟨⟨k_980, k_2, by decide +kernel, Or.inl k_977⟩, k_978, k_979, by decide, TX0, CI0.1⟩
theorem cv_X9_308 : CVw RX9 308 M_X0_hasSet 1 0 10 := ⟨⟨k_988, k_2, by decide +kernel, Or.inl k_985⟩, k_986, k_987, by decide, TX0, CI0.1⟩
theorem fg_X9_78 : FG RX9 78 9 12 15 := ⟨RX9, TX9, CI9, by decide, Or.inl k_314⟩
theorem cv_X9_311 : CVw RX9 311 M_X3_tally 1 3 3 := ⟨⟨k_993, k_10, by decide +kernel, Or.inl k_990⟩, k_991, k_992, by decide, TX3, CI3.1⟩
theorem cv_X9_314 : CVw RX9 314 M_X3_isMajority 1 3 3 := ⟨⟨k_998, k_10, by decide +kernel, Or.inl k_995⟩, k_996, k_997, by decide, TX3, CI3.1⟩
theorem cv_X9_317 : CVw RX9 317 M_X3_powerOf 1 3 3 := ⟨⟨k_1019, k_10, by decide +kernel, Or.inl k_1016⟩, k_1017, k_1018, by decide, TX3, CI3.1⟩
theorem cs_X9_320 : CSw RX9 320 M_X9_isPart 1 := ⟨⟨k_1035, k_1, by decide +kernel, Or.inl k_1033⟩, k_1034⟩
theorem cv_X9_323 : CVw RX9 323 M_X3_seatsOf 1 3 3 := ⟨⟨k_1002, k_10, by decide +kernel, Or.inl k_1036⟩, k_1000, k_1001, by decide, TX3, CI3.1⟩
theorem fg_X9_326 : FG RX9 326 3 2 3 := ⟨RX3, TX3, CI3, by decide, Or.inr ⟨_, k_277⟩⟩
theorem cs_X9_329 : CSw RX9 329 M_X9_lowestTerms 3 := ⟨⟨k_1039, k_1, by decide +kernel, Or.inl k_1037⟩, k_1038⟩
theorem cv_X9_333 : CVw RX9 333 M_X3_isLeastMajority 1 3 3 := ⟨⟨k_1051, k_10, by decide +kernel, Or.inl k_1048⟩, k_1049, k_1050, by decide, TX3, CI3.1⟩
theorem cv_X9_336 : CVw RX9 336 M_X9_makesOneHold 1 9 15 := ⟨⟨k_1059, k_1, by decide +kernel, Or.inl k_1056⟩, k_1058, ks_35, by decide, TX9, CI9.1⟩
theorem cv_X9_339 : CVw RX9 339 M_X3_isMoreThanHalf 1 3 3 := ⟨⟨k_1007, k_10, by decide +kernel, Or.inl k_1060⟩, k_1005, k_1006, by decide, TX3, CI3.1⟩
theorem cv_X9_342 : CVw RX9 342 M_X9_isContent 4 9 15 := ⟨⟨k_1068, k_1, by decide +kernel, Or.inl k_1065⟩, k_1067, ks_36, by decide, TX9, CI9.1⟩
theorem cv_X9_346 : CVw RX9 346 M_X9_gainOf 4 9 15 := ⟨⟨k_1072, k_1, by decide +kernel, Or.inl k_1069⟩, k_1071, ks_37, by decide, TX9, CI9.1⟩
theorem cv_X9_350 : CVw RX9 350 M_X2_copyFrom 1 2 8 := ⟨⟨k_1076, k_7, by decide +kernel, Or.inl k_1073⟩, k_1074, k_1075, by decide, TX2, CI2.1⟩
theorem cv_X9_353 : CVw RX9 353 M_X2_keepStill 1 2 8 := ⟨⟨k_1081, k_7, by decide +kernel, Or.inl k_1078⟩, k_1079, k_1080, by decide, TX2, CI2.1⟩
theorem cv_X9_356 : CVw RX9 356 M_X2_gather 0 2 8 := ⟨⟨k_608, k_7, by decide +kernel, Or.inl k_1082⟩, k_606, k_607, by decide, TX2, CI2.1⟩
theorem cv_X9_359 : CVw RX9 359 M_X9_isChanceDance 1 9 15 := ⟨⟨k_1094, k_1, by decide +kernel, Or.inl k_1091⟩, k_1093, ks_38, by decide, TX9, CI9.1⟩
theorem fg_X9_85 : FG RX9 85 9 13 15 := ⟨RX9, TX9, CI9, by decide, Or.inl k_315⟩
theorem fg_X9_364 : FG RX9 364 0 4 10 := ⟨RX0, TX0, CI0, by decide, Or.inr ⟨_, k_81⟩⟩
theorem cv_X9_367 : CVw RX9 367 M_X4_play 5 4 3 := ⟨⟨k_1099, k_11, by decide +kernel, Or.inl k_1096⟩, k_1097, k_1098, by decide, TX4, CI4.1⟩
theorem cv_X9_371 : CVw RX9 371 M_X4_weightWith 1 4 3 := ⟨⟨k_1112, k_11, by decide +kernel, Or.inl k_1109⟩, k_1110, k_1111, by decide, TX4, CI4.1⟩
theorem fg_X9_374 : FG RX9 374 4 2 3 := ⟨RX4, TX4, CI4, by decide, Or.inr ⟨_, k_294⟩⟩
theorem cv_X9_377 : CVw RX9 377 M_X4_weightOfHolders 0 4 3 := ⟨⟨k_1121, k_11, by decide +kernel, Or.inl k_1118⟩, k_1119, k_1120, by decide, TX4, CI4.1⟩
theorem cs_X9_381 : CSw RX9 381 M_X9_isSeed 1 := ⟨⟨k_1129, k_1, by decide +kernel, Or.inl k_1127⟩, k_1128⟩
theorem cv_X9_384 : CVw RX9 384 M_X9_loudDances 1 9 15 := ⟨⟨k_1134, k_1, by decide +kernel, Or.inl k_1131⟩, k_1133, ks_40, by decide, TX9, CI9.1⟩
theorem cv_X9_387 : CVw RX9 387 M_X9_drawnHolders 2 9 15 := ⟨⟨k_1143, k_1, by decide +kernel, Or.inl k_1140⟩, k_1142, ks_41, by decide, TX9, CI9.1⟩
theorem fg_X9_400 : FG RX9 400 0 9 10 := ⟨RX0, TX0, CI0, by decide, Or.inr ⟨_, k_101⟩⟩
theorem cv_X9_403 : CVw RX9 403 M_X8_isFull 0 8 4 := ⟨⟨k_492, k_3, by decide +kernel, Or.inl k_1152⟩, k_490, k_491, by decide, TX8, CI8.1⟩
theorem cv_X9_406 : CVw RX9 406 M_X0_actBid 3 0 10 := ⟨⟨k_1156, k_2, by decide +kernel, Or.inl k_1153⟩, k_1154, k_1155, by decide, TX0, CI0.1⟩
theorem cv_X9_410 : CVw RX9 410 M_X0_actMove 2 0 10 := ⟨⟨k_1165, k_2, by decide +kernel, Or.inl k_1162⟩, k_1163, k_1164, by decide, TX0, CI0.1⟩
theorem cv_X9_414 : CVw RX9 414 M_X0_takeBack 0 0 10 := ⟨⟨k_1174, k_2, by decide +kernel, Or.inl k_1171⟩, k_1172, k_1173, by decide, TX0, CI0.1⟩
theorem cv_X9_417 : CVw RX9 417 M_X8_put 3 8 4 := ⟨⟨k_503, k_3, by decide +kernel, Or.inl k_1187⟩, k_501, k_502, by decide, TX8, CI8.1⟩
theorem fg_X9_420 : FG RX9 420 0 8 10 := ⟨RX0, TX0, CI0, by decide, Or.inr ⟨_, k_98⟩⟩
theorem cv_X9_423 : CVw RX9 423 M_X9_slotsWithRow 0 9 15 := ⟨⟨k_1195, k_1, by decide +kernel, Or.inl k_1192⟩, k_1194, ks_42, by decide, TX9, CI9.1⟩
theorem fg_X9_40 : FG RX9 40 9 6 15 := ⟨RX9, TX9, CI9, by decide, Or.inl k_308⟩
theorem cv_X9_426 : CVw RX9 426 M_X7_start 2 7 3 := ⟨⟨k_1211, k_6, by decide +kernel, Or.inl k_1208⟩, k_1209, k_1210, by decide, TX7, CI7.1⟩
theorem cv_X9_429 : CVw RX9 429 M_X7_put 2 7 3 := ⟨⟨k_1221, k_6, by decide +kernel, Or.inl k_1218⟩, k_1219, k_1220, by decide, TX7, CI7.1⟩
theorem fg_X9_432 : FG RX9 432 7 1 3 := ⟨RX7, TX7, CI7, by decide, Or.inr ⟨_, k_167⟩⟩
theorem cv_X9_435 : CVw RX9 435 M_X7_hasStretch 2 7 3 := ⟨⟨k_1233, k_6, by decide +kernel, Or.inl k_1230⟩, k_1231, k_1232, by decide, TX7, CI7.1⟩
theorem fg_X9_438 : FG RX9 438 7 0 3 := ⟨RX7, TX7, CI7, by decide, Or.inr ⟨_, k_165⟩⟩
theorem cs_X10_82 : CSw RX10 82 M_X10_in 3 := ⟨⟨k_1368, k_12, by decide +kernel, Or.inl k_1366⟩, k_1367⟩
theorem fg_X10_13 : FG RX10 13 10 2 40 := ⟨RX10, TX10, CI10, by decide, Or.inl k_1242⟩
theorem fg_X10_9 : FG RX10 9 10 1 40 := ⟨RX10, TX10, CI10, by decide, Or.inl k_1241⟩
theorem fg_X10_16 : FG RX10 16 10 3 40 := ⟨RX10, TX10, CI10, by decide, Or.inl k_1243⟩
theorem cv_X10_86 : CVw RX10 86 M_X10_isBall 0 10 40 := ⟨⟨k_1576, k_12, by decide +kernel, Or.inl k_1573⟩, k_1575, ks_77, by decide, TX10, CI10.1⟩
theorem fg_X10_90 : FG RX10 90 10 5 40 := ⟨RX10, TX10, CI10, by decide, Or.inl k_1245⟩
theorem fg_X10_24 : FG RX10 24 10 6 40 := ⟨RX10, TX10, CI10, by decide, Or.inl k_1246⟩
theorem fg_X10_20 : FG RX10 20 10 4 40 := ⟨RX10, TX10, CI10, by decide, Or.inl k_1244⟩
theorem fp_X10_90 : FP RX10 90 10 5 40 := ⟨RX10, TX10, CI10, by decide, rfl, Or.inl k_1245⟩
theorem fg_X10_93 : FG RX10 93 10 7 40 := ⟨RX10, TX10, CI10, by decide, Or.inl k_1247⟩
theorem fg_X10_96 : FG RX10 96 10 8 40 := ⟨RX10, TX10, CI10, by decide, Or.inl k_1248⟩
theorem cv_X10_99 : CVw RX10 99 M_X10_see 1 10 40 := ⟨⟨k_1396, k_12, by decide +kernel, Or.inl k_1393⟩, k_1395, ks_45, by decide, TX10, CI10.1⟩
theorem fp_X10_96 : FP RX10 96 10 8 40 := ⟨RX10, TX10, CI10, by decide, rfl, Or.inl k_1248⟩
theorem fp_X10_103 : FP RX10 103 10 9 40 := ⟨RX10, TX10, CI10, by decide, rfl, Or.inl k_1249⟩
theorem fp_X10_106 : FP RX10 106 10 10 40 := ⟨RX10, TX10, CI10, by decide, rfl, Or.inl k_1250⟩
theorem fp_X10_117 : FP RX10 117 10 11 40 := ⟨RX10, TX10, CI10, by decide, rfl, Or.inl k_1251⟩
theorem fg_X10_117 : FG RX10 117 10 11 40 := ⟨RX10, TX10, CI10, by decide, Or.inl k_1251⟩
theorem fg_X10_127 : FG RX10 127 10 12 40 := ⟨RX10, TX10, CI10, by decide, Or.inl k_1252⟩
theorem cv_X10_130 : CVw RX10 130 M_X10_good 0 10 40 := ⟨⟨k_1406, k_12, by decide +kernel, Or.inl k_1403⟩, k_1405, ks_46, by decide, TX10, CI10.1⟩
theorem fp_X10_127 : FP RX10 127 10 12 40 := ⟨RX10, TX10, CI10, by decide, rfl, Or.inl k_1252⟩
theorem fg_X10_103 : FG RX10 103 10 9 40 := ⟨RX10, TX10, CI10, by decide, Or.inl k_1249⟩
theorem fg_X10_106 : FG RX10 106 10 10 40 := ⟨RX10, TX10, CI10, by decide, Or.inl k_1250⟩
theorem cx_X10_133 : CXw RX10 133 M_J0_length_8abf5 0 := ⟨⟨k_414, k_13, by decide +kernel, Or.inl k_1428⟩, k_412, k_413⟩
theorem cx_X10_139 : CXw RX10 139 M_J0_charAt_5068e 1 := ⟨⟨k_424, k_13, by decide +kernel, Or.inl k_1429⟩, k_422, k_423⟩
theorem cv_X10_143 : CVw RX10 143 M_X10_is 1 10 40 := ⟨⟨k_1427, k_12, by decide +kernel, Or.inl k_1424⟩, k_1426, ks_51, by decide, TX10, CI10.1⟩
theorem cv_X10_147 : CVw RX10 147 M_X10_advance 0 10 40 := ⟨⟨k_1392, k_12, by decide +kernel, Or.inl k_1389⟩, k_1391, ks_44, by decide, TX10, CI10.1⟩
theorem cv_X10_150 : CVw RX10 150 M_X10_takes 1 10 40 := ⟨⟨k_1423, k_12, by decide +kernel, Or.inl k_1420⟩, k_1422, ks_50, by decide, TX10, CI10.1⟩
theorem cv_X10_153 : CVw RX10 153 M_X10_errs 1 10 40 := ⟨⟨k_1433, k_12, by decide +kernel, Or.inl k_1430⟩, k_1432, ks_52, by decide, TX10, CI10.1⟩
theorem cv_X10_157 : CVw RX10 157 M_X10_needs 1 10 40 := ⟨⟨k_1419, k_12, by decide +kernel, Or.inl k_1416⟩, k_1418, ks_49, by decide, TX10, CI10.1⟩
theorem cv_X10_161 : CVw RX10 161 M_X10_number 2 10 40 := ⟨⟨k_1442, k_12, by decide +kernel, Or.inl k_1439⟩, k_1441, ks_54, by decide, TX10, CI10.1⟩
theorem fg_X10_27 : FG RX10 27 10 13 40 := ⟨RX10, TX10, CI10, by decide, Or.inl k_1253⟩
theorem fg_X10_31 : FG RX10 31 10 14 40 := ⟨RX10, TX10, CI10, by decide, Or.inl k_1254⟩
theorem cv_X10_164 : CVw RX10 164 M_X10_told 3 10 40 := ⟨⟨k_1438, k_12, by decide +kernel, Or.inl k_1435⟩, k_1437, ks_53, by decide, TX10, CI10.1⟩
theorem cv_X10_182 : CVw RX10 182 M_X10_freshRoom 1 10 40 := ⟨⟨k_1468, k_12, by decide +kernel, Or.inl k_1465⟩, k_1467, ks_58, by decide, TX10, CI10.1⟩
theorem cv_X10_195 : CVw RX10 195 M_X10_isFull 0 10 40 := ⟨⟨k_1457, k_12, by decide +kernel, Or.inl k_1454⟩, k_1456, ks_56, by decide, TX10, CI10.1⟩
theorem cv_X10_198 : CVw RX10 198 M_X10_readDoor 0 10 40 := ⟨⟨k_1461, k_12, by decide +kernel, Or.inl k_1458⟩, k_1460, ks_57, by decide, TX10, CI10.1⟩
theorem cv_X10_206 : CVw RX10 206 M_X10_readBid 0 10 40 := ⟨⟨k_1474, k_12, by decide +kernel, Or.inl k_1471⟩, k_1473, ks_59, by decide, TX10, CI10.1⟩
theorem cv_X10_209 : CVw RX10 209 M_X10_readFirst 0 10 40 := ⟨⟨k_1414, k_12, by decide +kernel, Or.inl k_1411⟩, k_1413, ks_48, by decide, TX10, CI10.1⟩
theorem cv_X10_212 : CVw RX10 212 M_X10_readNext 0 10 40 := ⟨⟨k_1449, k_12, by decide +kernel, Or.inl k_1446⟩, k_1448, ks_55, by decide, TX10, CI10.1⟩
theorem fp_X10_93 : FP RX10 93 10 7 40 := ⟨RX10, TX10, CI10, by decide, rfl, Or.inl k_1247⟩
theorem cv_X10_215 : CVw RX10 215 M_X10_readLine 0 10 40 := ⟨⟨k_1410, k_12, by decide +kernel, Or.inl k_1407⟩, k_1409, ks_47, by decide, TX10, CI10.1⟩
theorem cv_X10_218 : CVw RX10 218 M_X10_isDoor 1 10 40 := ⟨⟨k_1483, k_12, by decide +kernel, Or.inl k_1480⟩, k_1482, ks_60, by decide, TX10, CI10.1⟩
theorem cv_X10_222 : CVw RX10 222 M_X10_isLady 1 10 40 := ⟨⟨k_1491, k_12, by decide +kernel, Or.inl k_1488⟩, k_1490, ks_61, by decide, TX10, CI10.1⟩
theorem fg_X10_34 : FG RX10 34 10 15 40 := ⟨RX10, TX10, CI10, by decide, Or.inl k_1255⟩
theorem fg_X10_227 : FG RX10 227 10 16 40 := ⟨RX10, TX10, CI10, by decide, Or.inl k_1256⟩
theorem fg_X10_230 : FG RX10 230 10 17 40 := ⟨RX10, TX10, CI10, by decide, Or.inl k_1257⟩
theorem cv_X10_233 : CVw RX10 233 M_X10_wayOf 3 10 40 := ⟨⟨k_1517, k_12, by decide +kernel, Or.inl k_1514⟩, k_1516, ks_66, by decide, TX10, CI10.1⟩
theorem fg_X10_37 : FG RX10 37 10 18 40 := ⟨RX10, TX10, CI10, by decide, Or.inl k_1258⟩
theorem cv_X10_238 : CVw RX10 238 M_X10_wideOf 1 10 40 := ⟨⟨k_1544, k_12, by decide +kernel, Or.inl k_1541⟩, k_1543, ks_72, by decide, TX10, CI10.1⟩
theorem cv_X10_241 : CVw RX10 241 M_X10_layWays 0 10 40 := ⟨⟨k_1512, k_12, by decide +kernel, Or.inl k_1509⟩, k_1511, ks_65, by decide, TX10, CI10.1⟩
theorem cv_X10_244 : CVw RX10 244 M_X10_ladies 0 10 40 := ⟨⟨k_1521, k_12, by decide +kernel, Or.inl k_1518⟩, k_1520, ks_67, by decide, TX10, CI10.1⟩
theorem cv_X10_247 : CVw RX10 247 M_X10_dances 0 10 40 := ⟨⟨k_1525, k_12, by decide +kernel, Or.inl k_1522⟩, k_1524, ks_68, by decide, TX10, CI10.1⟩
theorem fg_X10_249 : FG RX10 249 10 22 40 := ⟨RX10, TX10, CI10, by decide, Or.inl k_1262⟩
theorem cs_X10_252 : CSw RX10 252 M_X10_bit 2 := ⟨⟨k_1528, k_12, by decide +kernel, Or.inl k_1526⟩, k_1527⟩
theorem cv_X10_255 : CVw RX10 255 M_X10_atOf 2 10 40 := ⟨⟨k_1532, k_12, by decide +kernel, Or.inl k_1529⟩, k_1531, ks_69, by decide, TX10, CI10.1⟩
theorem cv_X10_258 : CVw RX10 258 M_X10_biddenOf 2 10 40 := ⟨⟨k_1536, k_12, by decide +kernel, Or.inl k_1533⟩, k_1535, ks_70, by decide, TX10, CI10.1⟩
theorem cv_X10_261 : CVw RX10 261 M_X10_nextRoom 3 10 40 := ⟨⟨k_1540, k_12, by decide +kernel, Or.inl k_1537⟩, k_1539, ks_71, by decide, TX10, CI10.1⟩
theorem fg_X10_40 : FG RX10 40 10 19 40 := ⟨RX10, TX10, CI10, by decide, Or.inl k_1259⟩
theorem fg_X10_43 : FG RX10 43 10 20 40 := ⟨RX10, TX10, CI10, by decide, Or.inl k_1260⟩
theorem fp_X10_227 : FP RX10 227 10 16 40 := ⟨RX10, TX10, CI10, by decide, rfl, Or.inl k_1256⟩
theorem fp_X10_230 : FP RX10 230 10 17 40 := ⟨RX10, TX10, CI10, by decide, rfl, Or.inl k_1257⟩
theorem fp_X10_264 : FP RX10 264 10 21 40 := ⟨RX10, TX10, CI10, by decide, rfl, Or.inl k_1261⟩
theorem fp_X10_249 : FP RX10 249 10 22 40 := ⟨RX10, TX10, CI10, by decide, rfl, Or.inl k_1262⟩
theorem fp_X10_267 : FP RX10 267 10 23 40 := ⟨RX10, TX10, CI10, by decide, rfl, Or.inl k_1263⟩
theorem fp_X10_270 : FP RX10 270 10 24 40 := ⟨RX10, TX10, CI10, by decide, rfl, Or.inl k_1264⟩
theorem cv_X10_273 : CVw RX10 273 M_X10_layMinisters 0 10 40 := ⟨⟨k_1503, k_12, by decide +kernel, Or.inl k_1500⟩, k_1502, ks_63, by decide, TX10, CI10.1⟩
theorem cv_X10_276 : CVw RX10 276 M_X10_layPlaces 0 10 40 := ⟨⟨k_1508, k_12, by decide +kernel, Or.inl k_1505⟩, k_1507, ks_64, by decide, TX10, CI10.1⟩
theorem cv_X10_279 : CVw RX10 279 M_X10_asItIs 0 10 40 := ⟨⟨k_1499, k_12, by decide +kernel, Or.inl k_1496⟩, k_1498, ks_62, by decide, TX10, CI10.1⟩
theorem cv_X10_282 : CVw RX10 282 M_X10_isDance 1 10 40 := ⟨⟨k_1572, k_12, by decide +kernel, Or.inl k_1569⟩, k_1571, ks_76, by decide, TX10, CI10.1⟩
theorem cv_X10_285 : CVw RX10 285 M_X10_isMinister 1 10 40 := ⟨⟨k_1548, k_12, by decide +kernel, Or.inl k_1545⟩, k_1547, ks_73, by decide, TX10, CI10.1⟩
theorem cv_X10_288 : CVw RX10 288 M_X10_asksLady 1 10 40 := ⟨⟨k_1556, k_12, by decide +kernel, Or.inl k_1553⟩, k_1555, ks_74, by decide, TX10, CI10.1⟩
theorem cv_X10_291 : CVw RX10 291 M_X10_isRoom 1 10 40 := ⟨⟨k_1560, k_12, by decide +kernel, Or.inl k_1557⟩, k_1559, ks_75, by decide, TX10, CI10.1⟩
theorem cv_X10_294 : CVw RX10 294 M_X10_asksDance 1 10 40 := ⟨⟨k_1584, k_12, by decide +kernel, Or.inl k_1581⟩, k_1583, ks_78, by decide, TX10, CI10.1⟩
theorem cv_X10_297 : CVw RX10 297 M_X10_withinOf 2 10 40 := ⟨⟨k_1592, k_12, by decide +kernel, Or.inl k_1589⟩, k_1591, ks_79, by decide, TX10, CI10.1⟩
theorem cv_X10_300 : CVw RX10 300 M_X10_stepsOf 1 10 40 := ⟨⟨k_1600, k_12, by decide +kernel, Or.inl k_1597⟩, k_1599, ks_80, by decide, TX10, CI10.1⟩
theorem cv_X10_303 : CVw RX10 303 M_X10_doMeet 3 10 40 := ⟨⟨k_1616, k_12, by decide +kernel, Or.inl k_1613⟩, k_1615, ks_82, by decide, TX10, CI10.1⟩
theorem cv_X10_307 : CVw RX10 307 M_X10_firstMeet 2 10 40 := ⟨⟨k_1612, k_12, by decide +kernel, Or.inl k_1609⟩, k_1611, ks_81, by decide, TX10, CI10.1⟩
theorem cv_X10_310 : CVw RX10 310 M_X10_oftenMeet 2 10 40 := ⟨⟨k_1624, k_12, by decide +kernel, Or.inl k_1621⟩, k_1623, ks_83, by decide, TX10, CI10.1⟩
theorem cv_X10_313 : CVw RX10 313 M_X10_friendsOf 1 10 40 := ⟨⟨k_1632, k_12, by decide +kernel, Or.inl k_1629⟩, k_1631, ks_84, by decide, TX10, CI10.1⟩
theorem fp_X10_316 : FP RX10 316 10 25 40 := ⟨RX10, TX10, CI10, by decide, rfl, Or.inl k_1265⟩
theorem cs_X10_319 : CSw RX10 319 M_X10_bits 1 := ⟨⟨k_1647, k_12, by decide +kernel, Or.inl k_1645⟩, k_1646⟩
theorem fg_X10_316 : FG RX10 316 10 25 40 := ⟨RX10, TX10, CI10, by decide, Or.inl k_1265⟩
theorem cv_X10_322 : CVw RX10 322 M_X10_asksBall 0 10 40 := ⟨⟨k_1640, k_12, by decide +kernel, Or.inl k_1637⟩, k_1639, ks_85, by decide, TX10, CI10.1⟩
theorem cv_X10_325 : CVw RX10 325 M_X10_crushOf 0 10 40 := ⟨⟨k_1644, k_12, by decide +kernel, Or.inl k_1641⟩, k_1643, ks_86, by decide, TX10, CI10.1⟩
theorem fg_X10_267 : FG RX10 267 10 23 40 := ⟨RX10, TX10, CI10, by decide, Or.inl k_1263⟩
theorem cv_X10_328 : CVw RX10 328 M_X10_doesGive 2 10 40 := ⟨⟨k_1695, k_12, by decide +kernel, Or.inl k_1692⟩, k_1694, ks_89, by decide, TX10, CI10.1⟩
theorem fg_X10_264 : FG RX10 264 10 21 40 := ⟨RX10, TX10, CI10, by decide, Or.inl k_1261⟩
theorem fg_X10_49 : FG RX10 49 10 27 40 := ⟨RX10, TX10, CI10, by decide, Or.inl k_1267⟩
theorem fg_X10_52 : FG RX10 52 10 28 40 := ⟨RX10, TX10, CI10, by decide, Or.inl k_1268⟩
theorem fg_X10_270 : FG RX10 270 10 24 40 := ⟨RX10, TX10, CI10, by decide, Or.inl k_1264⟩
theorem cv_X10_332 : CVw RX10 332 M_X10_giverTo 3 10 40 := ⟨⟨k_1691, k_12, by decide +kernel, Or.inl k_1688⟩, k_1690, ks_88, by decide, TX10, CI10.1⟩
theorem fg_X10_46 : FG RX10 46 10 26 40 := ⟨RX10, TX10, CI10, by decide, Or.inl k_1266⟩
theorem cv_X10_335 : CVw RX10 335 M_X10_goNote 2 10 40 := ⟨⟨k_1687, k_12, by decide +kernel, Or.inl k_1684⟩, k_1686, ks_87, by decide, TX10, CI10.1⟩
theorem cv_X10_338 : CVw RX10 338 M_X10_goNote_ 1 10 40 := ⟨⟨k_1707, k_12, by decide +kernel, Or.inl k_1704⟩, k_1706, ks_91, by decide, TX10, CI10.1⟩
theorem cv_X10_340 : CVw RX10 340 M_X10_asksNote 2 10 40 := ⟨⟨k_1703, k_12, by decide +kernel, Or.inl k_1700⟩, k_1702, ks_90, by decide, TX10, CI10.1⟩
theorem cv_X10_348 : CVw RX10 348 M_X10_takesIn 4 10 40 := ⟨⟨k_1761, k_12, by decide +kernel, Or.inl k_1758⟩, k_1760, ks_95, by decide, TX10, CI10.1⟩
theorem cv_X10_352 : CVw RX10 352 M_X10_isBeside 3 10 40 := ⟨⟨k_1765, k_12, by decide +kernel, Or.inl k_1762⟩, k_1764, ks_96, by decide, TX10, CI10.1⟩
theorem fg_X10_55 : FG RX10 55 10 29 40 := ⟨RX10, TX10, CI10, by decide, Or.inl k_1269⟩
theorem cs_X10_355 : CSw RX10 355 M_X10_carryState 3 := ⟨⟨k_1768, k_12, by decide +kernel, Or.inl k_1766⟩, k_1767⟩
theorem cv_X10_358 : CVw RX10 358 M_X10_layCarry 4 10 40 := ⟨⟨k_1757, k_12, by decide +kernel, Or.inl k_1754⟩, k_1756, ks_94, by decide, TX10, CI10.1⟩
theorem fg_X10_58 : FG RX10 58 10 30 40 := ⟨RX10, TX10, CI10, by decide, Or.inl k_1270⟩
theorem cv_X10_362 : CVw RX10 362 M_X10_asksCarry 3 10 40 := ⟨⟨k_1749, k_12, by decide +kernel, Or.inl k_1746⟩, k_1748, ks_92, by decide, TX10, CI10.1⟩
theorem cv_X10_365 : CVw RX10 365 M_X10_layWalk 3 10 40 := ⟨⟨k_1753, k_12, by decide +kernel, Or.inl k_1750⟩, k_1752, ks_93, by decide, TX10, CI10.1⟩
theorem cv_X10_368 : CVw RX10 368 M_X10_haveWith 3 10 40 := ⟨⟨k_1780, k_12, by decide +kernel, Or.inl k_1777⟩, k_1779, ks_97, by decide, TX10, CI10.1⟩
theorem fg_X10_70 : FG RX10 70 10 38 40 := ⟨RX10, TX10, CI10, by decide, Or.inl k_1278⟩
theorem cv_X10_371 : CVw RX10 371 M_X10_numberAt 2 10 40 := ⟨⟨k_1807, k_12, by decide +kernel, Or.inl k_1804⟩, k_1806, ks_100, by decide, TX10, CI10.1⟩
theorem cs_X10_375 : CSw RX10 375 M_X10_isSlot 1 := ⟨⟨k_1799, k_12, by decide +kernel, Or.inl k_1797⟩, k_1798⟩
theorem fg_X10_64 : FG RX10 64 10 36 40 := ⟨RX10, TX10, CI10, by decide, Or.inl k_1276⟩
theorem cv_X10_378 : CVw RX10 378 M_X10_isThree 2 10 40 := ⟨⟨k_1803, k_12, by decide +kernel, Or.inl k_1800⟩, k_1802, ks_99, by decide, TX10, CI10.1⟩
theorem fg_X10_61 : FG RX10 61 10 31 40 := ⟨RX10, TX10, CI10, by decide, Or.inl k_1271⟩
theorem cv_X10_381 : CVw RX10 381 M_X10_layFirsts 1 10 40 := ⟨⟨k_1796, k_12, by decide +kernel, Or.inl k_1793⟩, k_1795, ks_98, by decide, TX10, CI10.1⟩
theorem fp_X10_384 : FP RX10 384 10 32 40 := ⟨RX10, TX10, CI10, by decide, rfl, Or.inl k_1272⟩
theorem fg_X10_384 : FG RX10 384 10 32 40 := ⟨RX10, TX10, CI10, by decide, Or.inl k_1272⟩
theorem cv_X10_387 : CVw RX10 387 M_X10_askOf 1 10 40 := ⟨⟨k_1815, k_12, by decide +kernel, Or.inl k_1812⟩, k_1814, ks_101, by decide, TX10, CI10.1⟩
theorem cv_X10_390 : CVw RX10 390 M_X10_seatsIn 1 10 40 := ⟨⟨k_1843, k_12, by decide +kernel, Or.inl k_1840⟩, k_1842, ks_104, by decide, TX10, CI10.1⟩
theorem cv_X10_393 : CVw RX10 393 M_X10_allLadies 0 10 40 := ⟨⟨k_1847, k_12, by decide +kernel, Or.inl k_1844⟩, k_1846, ks_105, by decide, TX10, CI10.1⟩
theorem cv_X10_396 : CVw RX10 396 M_X10_doesHold 1 10 40 := ⟨⟨k_1839, k_12, by decide +kernel, Or.inl k_1836⟩, k_1838, ks_103, by decide, TX10, CI10.1⟩
theorem cv_X10_399 : CVw RX10 399 M_X10_isSet 1 10 40 := ⟨⟨k_1835, k_12, by decide +kernel, Or.inl k_1832⟩, k_1834, ks_102, by decide, TX10, CI10.1⟩
theorem cv_X10_402 : CVw RX10 402 M_X10_powerOf 1 10 40 := ⟨⟨k_1859, k_12, by decide +kernel, Or.inl k_1856⟩, k_1858, ks_106, by decide, TX10, CI10.1⟩
theorem cs_X10_405 : CSw RX10 405 M_X10_divisor 2 := ⟨⟨k_1869, k_12, by decide +kernel, Or.inl k_1867⟩, k_1868⟩
theorem cs_X10_409 : CSw RX10 409 M_X10_lowest 3 := ⟨⟨k_1866, k_12, by decide +kernel, Or.inl k_1864⟩, k_1865⟩
theorem cv_X10_413 : CVw RX10 413 M_X10_isLeast 1 10 40 := ⟨⟨k_1889, k_12, by decide +kernel, Or.inl k_1886⟩, k_1888, ks_107, by decide, TX10, CI10.1⟩
theorem cv_X10_416 : CVw RX10 416 M_X10_areTwo 2 10 40 := ⟨⟨k_1901, k_12, by decide +kernel, Or.inl k_1898⟩, k_1900, ks_108, by decide, TX10, CI10.1⟩
theorem cv_X10_419 : CVw RX10 419 M_X10_gainsBy 5 10 40 := ⟨⟨k_1905, k_12, by decide +kernel, Or.inl k_1902⟩, k_1904, ks_109, by decide, TX10, CI10.1⟩
theorem fp_X10_423 : FP RX10 423 10 33 40 := ⟨RX10, TX10, CI10, by decide, rfl, Or.inl k_1273⟩
theorem fp_X10_427 : FP RX10 427 10 34 40 := ⟨RX10, TX10, CI10, by decide, rfl, Or.inl k_1274⟩
theorem fp_X10_430 : FP RX10 430 10 35 40 := ⟨RX10, TX10, CI10, by decide, rfl, Or.inl k_1275⟩
theorem fg_X10_423 : FG RX10 423 10 33 40 := ⟨RX10, TX10, CI10, by decide, Or.inl k_1273⟩
theorem fg_X10_427 : FG RX10 427 10 34 40 := ⟨RX10, TX10, CI10, by decide, Or.inl k_1274⟩
theorem fg_X10_430 : FG RX10 430 10 35 40 := ⟨RX10, TX10, CI10, by decide, Or.inl k_1275⟩
theorem cv_X10_435 : CVw RX10 435 M_X10_asksMusic 3 10 40 := ⟨⟨k_1917, k_12, by decide +kernel, Or.inl k_1914⟩, k_1916, ks_110, by decide, TX10, CI10.1⟩
theorem cv_X10_440 : CVw RX10 440 M_X10_layMusic 3 10 40 := ⟨⟨k_1923, k_12, by decide +kernel, Or.inl k_1920⟩, k_1922, ks_111, by decide, TX10, CI10.1⟩
theorem cv_X10_446 : CVw RX10 446 M_X10_keepAct 1 10 40 := ⟨⟨k_1936, k_12, by decide +kernel, Or.inl k_1933⟩, k_1935, ks_112, by decide, TX10, CI10.1⟩
theorem cs_X10_461 : CSw RX10 461 M_X10_isSeed 1 := ⟨⟨k_1955, k_12, by decide +kernel, Or.inl k_1953⟩, k_1954⟩
theorem cv_X10_464 : CVw RX10 464 M_X10_goDrawn 2 10 40 := ⟨⟨k_1960, k_12, by decide +kernel, Or.inl k_1957⟩, k_1959, ks_113, by decide, TX10, CI10.1⟩
theorem fg_X10_67 : FG RX10 67 10 37 40 := ⟨RX10, TX10, CI10, by decide, Or.inl k_1277⟩
theorem cs_X10_472 : CSw RX10 472 M_X10_cut 2 := ⟨⟨k_1990, k_12, by decide +kernel, Or.inl k_1988⟩, k_1989⟩
theorem fg_X10_74 : FG RX10 74 10 39 40 := ⟨RX10, TX10, CI10, by decide, Or.inl k_1279⟩
