abbrev M_X9_appendFour : Mt := (yX9_appendFour, cX9_appendFour, 3, none)
abbrev M_X9_feed : Mt := (yX9_feed, cX9_feed, 6, some .int)
abbrev M_X9_end : Mt := (yX9_end, cX9_end, 2, some .int)
abbrev M_X9_fault : Mt := (yX9_fault, cX9_fault, 2, some .int)
abbrev M_X8_hasCell : Mt := (yX8_hasCell, cX8_hasCell, 3, some .boolean)
abbrev M_X8_cell : Mt := (yX8_cell, cX8_cell, 3, some .int)
abbrev M_X9_door : Mt := (yX9_door, cX9_door, 3, some .int)
abbrev M_X9_lady : Mt := (yX9_lady, cX9_lady, 3, some .int)
abbrev M_X9_minister : Mt := (yX9_minister, cX9_minister, 3, some .int)
abbrev M_X0_hasLady : Mt := (yX0_hasLady, cX0_hasLady, 2, some .boolean)
abbrev M_X8_has : Mt := (yX8_has, cX8_has, 2, some .boolean)
abbrev M_X0_hasRoom : Mt := (yX0_hasRoom, cX0_hasRoom, 2, some .boolean)
abbrev M_X2_distance : Mt := (yX2_distance, cX2_distance, 6, some .int)
abbrev M_X9_hasBit : Mt := (yX9_hasBit, cX9_hasBit, 2, some .boolean)
abbrev M_X2_spread : Mt := (yX2_spread, cX2_spread, 5, some .int)
abbrev M_X2_stepsFrom : Mt := (yX2_stepsFrom, cX2_stepsFrom, 3, some .int)
abbrev M_X9_way : Mt := (yX9_way, cX9_way, 4, some .int)
abbrev M_X2_reachable : Mt := (yX2_reachable, cX2_reachable, 5, some .int)
abbrev M_X9_reach : Mt := (yX9_reach, cX9_reach, 3, some .int)
abbrev M_X0_hasDance : Mt := (yX0_hasDance, cX0_hasDance, 2, some .boolean)
abbrev M_X0_isTold : Mt := (yX0_isTold, cX0_isTold, 1, some .boolean)
abbrev M_X2_goalOf : Mt := (yX2_goalOf, cX2_goalOf, 3, some .int)
abbrev M_X2_isHere : Mt := (yX2_isHere, cX2_isHere, 3, some .boolean)
abbrev M_X9_bidden : Mt := (yX9_bidden, cX9_bidden, 3, some .int)
abbrev M_X2_placeOf : Mt := (yX2_placeOf, cX2_placeOf, 3, some .int)
abbrev M_X9_at : Mt := (yX9_at, cX9_at, 3, some .int)
abbrev M_X2_ladiesIn : Mt := (yX2_ladiesIn, cX2_ladiesIn, 5, some .int)
abbrev M_X9_within : Mt := (yX9_within, cX9_within, 3, some .int)
abbrev M_X2_stepsOf : Mt := (yX2_stepsOf, cX2_stepsOf, 4, some .int)
abbrev M_X9_steps : Mt := (yX9_steps, cX9_steps, 2, some .int)
abbrev M_X9_sees : Mt := (yX9_sees, cX9_sees, 4, some .int)
abbrev M_X2_companyOf : Mt := (yX2_companyOf, cX2_companyOf, 3, some .int)
abbrev M_X9_meets : Mt := (yX9_meets, cX9_meets, 4, some .int)
abbrev M_X2_meetingsOf : Mt := (yX2_meetingsOf, cX2_meetingsOf, 5, some .int)
abbrev M_X9_often : Mt := (yX9_often, cX9_often, 3, some .int)
abbrev M_X2_friendsOf : Mt := (yX2_friendsOf, cX2_friendsOf, 4, some .int)
abbrev M_X9_friends : Mt := (yX9_friends, cX9_friends, 2, some .int)
abbrev M_X9_fullest : Mt := (yX9_fullest, cX9_fullest, 4, some .int)
abbrev M_J6_bitCount_0f7a4 : Mt := (yJ6_bitCount_0f7a4, cJ6_bitCount_0f7a4, 1, some .int)
abbrev M_X9_crush : Mt := (yX9_crush, cX9_crush, 3, some .int)
abbrev M_X9_crushed : Mt := (yX9_crushed, cX9_crushed, 3, some .int)
abbrev M_X2_dancesIn : Mt := (yX2_dancesIn, cX2_dancesIn, 5, some .int)
abbrev M_X9_likes : Mt := (yX9_likes, cX9_likes, 6, some .int)
abbrev M_X9_apart : Mt := (yX9_apart, cX9_apart, 4, some .int)
abbrev M_X9_alone : Mt := (yX9_alone, cX9_alone, 4, some .int)
abbrev M_X9_empty : Mt := (yX9_empty, cX9_empty, 4, some .int)
abbrev M_X9_late : Mt := (yX9_late, cX9_late, 3, some .int)
abbrev M_X9_waits : Mt := (yX9_waits, cX9_waits, 6, some .int)
abbrev M_X9_mate : Mt := (yX9_mate, cX9_mate, 6, some .int)
abbrev M_X9_passAsTold : Mt := (yX9_passAsTold, cX9_passAsTold, 1, none)
abbrev M_X5_prepare : Mt := (yX5_prepare, cX5_prepare, 6, none)
abbrev M_X0_seatsUnder : Mt := (yX0_seatsUnder, cX0_seatsUnder, 4, some .int)
abbrev M_X5_mayGive : Mt := (yX5_mayGive, cX5_mayGive, 5, some .boolean)
abbrev M_X9_inTheEnd : Mt := (yX9_inTheEnd, cX9_inTheEnd, 3, some .int)
abbrev M_X5_follow : Mt := (yX5_follow, cX5_follow, 6, none)
abbrev M_X5_passed : Mt := (yX5_passed, cX5_passed, 6, some .int)
abbrev M_X5_behind : Mt := (yX5_behind, cX5_behind, 2, some .int)
abbrev M_X9_hears : Mt := (yX9_hears, cX9_hears, 4, some .int)
abbrev M_X5_giverOf : Mt := (yX5_giverOf, cX5_giverOf, 5, some .int)
abbrev M_X5_gotAt : Mt := (yX5_gotAt, cX5_gotAt, 3, some .int)
abbrev M_X5_ahead : Mt := (yX5_ahead, cX5_ahead, 2, some .int)
abbrev M_X9_hands : Mt := (yX9_hands, cX9_hands, 5, some .int)
abbrev M_X3_tally : Mt := (yX3_tally, cX3_tally, 3, none)
abbrev M_X3_powerOf : Mt := (yX3_powerOf, cX3_powerOf, 4, some .int)
abbrev M_X3_isMajority : Mt := (yX3_isMajority, cX3_isMajority, 2, some .boolean)
abbrev M_X3_seatsOf : Mt := (yX3_seatsOf, cX3_seatsOf, 4, some .int)
abbrev M_X3_isMoreThanHalf : Mt := (yX3_isMoreThanHalf, cX3_isMoreThanHalf, 2, some .boolean)
abbrev M_X9_dummies : Mt := (yX9_dummies, cX9_dummies, 3, some .int)
abbrev M_X0_hasSet : Mt := (yX0_hasSet, cX0_hasSet, 2, some .boolean)
abbrev M_X0_everybody : Mt := (yX0_everybody, cX0_everybody, 1, some .int)
abbrev M_X9_blocks : Mt := (yX9_blocks, cX9_blocks, 2, some .int)
abbrev M_X9_strongest : Mt := (yX9_strongest, cX9_strongest, 5, some .int)
abbrev M_X9_have : Mt := (yX9_have, cX9_have, 3, some .int)
abbrev M_X9_gets : Mt := (yX9_gets, cX9_gets, 3, some .int)
abbrev M_X9_from : Mt := (yX9_from, cX9_from, 3, some .int)
abbrev M_X9_all : Mt := (yX9_all, cX9_all, 4, some .int)
abbrev M_X9_best : Mt := (yX9_best, cX9_best, 5, some .int)
abbrev M_X9_lasts : Mt := (yX9_lasts, cX9_lasts, 4, some .int)
abbrev M_X9_needed : Mt := (yX9_needed, cX9_needed, 6, some .int)
abbrev M_X9_by : Mt := (yX9_by, cX9_by, 3, some .int)
abbrev M_X1_prepare : Mt := (yX1_prepare, cX1_prepare, 6, none)
abbrev M_X1_roomsOf : Mt := (yX1_roomsOf, cX1_roomsOf, 5, some .int)
abbrev M_X1_soonest : Mt := (yX1_soonest, cX1_soonest, 4, some .int)
abbrev M_X1_lookBack : Mt := (yX1_lookBack, cX1_lookBack, 4, none)
abbrev M_X1_goodWithout : Mt := (yX1_goodWithout, cX1_goodWithout, 4, some .int)
abbrev M_X9_carry : Mt := (yX9_carry, cX9_carry, 4, some .int)
abbrev M_X1_roomAt : Mt := (yX1_roomAt, cX1_roomAt, 9, some .int)
abbrev M_X9_lowest : Mt := (yX9_lowest, cX9_lowest, 2, some .int)
abbrev M_X9_walk : Mt := (yX9_walk, cX9_walk, 6, some .int)
abbrev M_X2_settle : Mt := (yX2_settle, cX2_settle, 5, none)
abbrev M_X2_openDoors : Mt := (yX2_openDoors, cX2_openDoors, 6, none)
abbrev M_X2_openDoor : Mt := (yX2_openDoor, cX2_openDoor, 7, none)
abbrev M_X2_hearBids : Mt := (yX2_hearBids, cX2_hearBids, 3, none)
abbrev M_J7_fill_53178 : Mt := (yJ7_fill_53178, cJ7_fill_53178, 4, none)
abbrev M_X2_hearBid : Mt := (yX2_hearBid, cX2_hearBid, 5, none)
abbrev M_X2_gather : Mt := (yX2_gather, cX2_gather, 3, none)
abbrev M_X2_goAsBidden : Mt := (yX2_goAsBidden, cX2_goAsBidden, 5, none)
abbrev M_X2_nextRoom : Mt := (yX2_nextRoom, cX2_nextRoom, 7, some .int)
abbrev M_X9_widen : Mt := (yX9_widen, cX9_widen, 7, some .int)
abbrev M_X9_shut : Mt := (yX9_shut, cX9_shut, 3, some .int)
abbrev M_X9_bars : Mt := (yX9_bars, cX9_bars, 5, some .int)
abbrev M_X9_seenFault : Mt := (yX9_seenFault, cX9_seenFault, 4, some .int)
abbrev M_X9_isSlot : Mt := (yX9_isSlot, cX9_isSlot, 1, some .boolean)
abbrev M_X7_isBare : Mt := (yX7_isBare, cX7_isBare, 1, some .boolean)
abbrev M_X7_cell : Mt := (yX7_cell, cX7_cell, 2, some .long)
abbrev M_X9_isSighting : Mt := (yX9_isSighting, cX9_isSighting, 7, some .boolean)
abbrev M_X9_possibleFirsts : Mt := (yX9_possibleFirsts, cX9_possibleFirsts, 4, some .int)
abbrev M_X9_agrees : Mt := (yX9_agrees, cX9_agrees, 4, some .boolean)
abbrev M_X9_firsts : Mt := (yX9_firsts, cX9_firsts, 3, some .int)
abbrev M_X9_bestAsked : Mt := (yX9_bestAsked, cX9_bestAsked, 6, some .int)
abbrev M_X9_leftAtWorst : Mt := (yX9_leftAtWorst, cX9_leftAtWorst, 6, some .int)
abbrev M_X9_ask : Mt := (yX9_ask, cX9_ask, 3, some .int)
abbrev M_X9_leaves : Mt := (yX9_leaves, cX9_leaves, 5, some .int)
abbrev M_X9_seats : Mt := (yX9_seats, cX9_seats, 2, some .int)
abbrev M_X0_ministersUnder : Mt := (yX0_ministersUnder, cX0_ministersUnder, 4, some .int)
abbrev M_X9_under : Mt := (yX9_under, cX9_under, 2, some .int)
abbrev M_X9_holds : Mt := (yX9_holds, cX9_holds, 2, some .int)
abbrev M_X9_power : Mt := (yX9_power, cX9_power, 2, some .int)
abbrev M_X9_isPart : Mt := (yX9_isPart, cX9_isPart, 1, some .boolean)
abbrev M_X9_lowestTerms : Mt := (yX9_lowestTerms, cX9_lowestTerms, 12, some .long)
abbrev M_X9_part : Mt := (yX9_part, cX9_part, 3, some .int)
abbrev M_X9_cabinet : Mt := (yX9_cabinet, cX9_cabinet, 4, some .int)
abbrev M_X3_isLeastMajority : Mt := (yX3_isLeastMajority, cX3_isLeastMajority, 3, some .boolean)
abbrev M_X9_cabinets : Mt := (yX9_cabinets, cX9_cabinets, 3, some .int)
abbrev M_X9_makesOneHold : Mt := (yX9_makesOneHold, cX9_makesOneHold, 4, some .boolean)
abbrev M_X9_kingmaker : Mt := (yX9_kingmaker, cX9_kingmaker, 2, some .int)
abbrev M_X9_isContent : Mt := (yX9_isContent, cX9_isContent, 5, some .boolean)
abbrev M_X9_gainOf : Mt := (yX9_gainOf, cX9_gainOf, 5, some .int)
abbrev M_X2_copyFrom : Mt := (yX2_copyFrom, cX2_copyFrom, 2, none)
abbrev M_X2_keepStill : Mt := (yX2_keepStill, cX2_keepStill, 4, none)
abbrev M_X9_rests : Mt := (yX9_rests, cX9_rests, 7, some .int)
abbrev M_X9_gains : Mt := (yX9_gains, cX9_gains, 5, some .int)
abbrev M_X9_isChanceDance : Mt := (yX9_isChanceDance, cX9_isChanceDance, 2, some .boolean)
abbrev M_X4_play : Mt := (yX4_play, cX4_play, 7, none)
abbrev M_J7_fill_d0a16 : Mt := (yJ7_fill_d0a16, cJ7_fill_d0a16, 5, none)
abbrev M_X4_playOne : Mt := (yX4_playOne, cX4_playOne, 6, none)
abbrev M_X4_weightWith : Mt := (yX4_weightWith, cX4_weightWith, 5, some .long)
abbrev M_X9_chance : Mt := (yX9_chance, cX9_chance, 5, some .long)
abbrev M_X4_weightOfHolders : Mt := (yX4_weightOfHolders, cX4_weightOfHolders, 4, some .long)
abbrev M_X9_mean : Mt := (yX9_mean, cX9_mean, 4, some .long)
abbrev M_X8_isFull : Mt := (yX8_isFull, cX8_isFull, 1, some .boolean)
abbrev M_X0_actBid : Mt := (yX0_actBid, cX0_actBid, 4, none)
abbrev M_X8_add : Mt := (yX8_add, cX8_add, 5, none)
abbrev M_X8_put : Mt := (yX8_put, cX8_put, 4, none)
abbrev M_X9_settle : Mt := (yX9_settle, cX9_settle, 1, none)
abbrev M_X9_bid : Mt := (yX9_bid, cX9_bid, 4, some .int)
abbrev M_X0_actMove : Mt := (yX0_actMove, cX0_actMove, 3, none)
abbrev M_X9_move : Mt := (yX9_move, cX9_move, 4, some .int)
abbrev M_X0_takeBack : Mt := (yX0_takeBack, cX0_takeBack, 2, none)
abbrev M_X8_dropLast : Mt := (yX8_dropLast, cX8_dropLast, 1, none)
abbrev M_X9_undo : Mt := (yX9_undo, cX9_undo, 1, some .int)
abbrev M_X9_anew : Mt := (yX9_anew, cX9_anew, 3, some .int)
abbrev M_X9_isSeed : Mt := (yX9_isSeed, cX9_isSeed, 1, some .boolean)
abbrev M_X9_loudDances : Mt := (yX9_loudDances, cX9_loudDances, 6, some .int)
abbrev M_X9_drawnHolders : Mt := (yX9_drawnHolders, cX9_drawnHolders, 3, some .int)
abbrev M_X9_drawn : Mt := (yX9_drawn, cX9_drawn, 5, some .int)
abbrev M_X9_luck : Mt := (yX9_luck, cX9_luck, 7, some .int)
abbrev M_X9_hang : Mt := (yX9_hang, cX9_hang, 4, some .int)
abbrev M_X9_slotsWithRow : Mt := (yX9_slotsWithRow, cX9_slotsWithRow, 3, some .int)
abbrev M_X9_count : Mt := (yX9_count, cX9_count, 2, some .int)
abbrev M_X0_copyFrom : Mt := (yX0_copyFrom, cX0_copyFrom, 2, none)
abbrev M_X8_copyFrom : Mt := (yX8_copyFrom, cX8_copyFrom, 2, none)
abbrev M_X9_back : Mt := (yX9_back, cX9_back, 2, some .int)
abbrev M_X7_put : Mt := (yX7_put, cX7_put, 4, none)
abbrev M_X7_cut : Mt := (yX7_cut, cX7_cut, 3, some .long)
abbrev M_X9_write : Mt := (yX9_write, cX9_write, 5, some .int)
abbrev M_X7_hasStretch : Mt := (yX7_hasStretch, cX7_hasStretch, 3, some .boolean)
abbrev M_X9_paste : Mt := (yX9_paste, cX9_paste, 8, some .int)
theorem k_355 : (Jvm.Cond.code ({ cls := "HoopCabinet", name := "appendFour", desc := "(I)V" } : Jvm.MethodName) prog_1_method_3_code (3 : Nat) (Option.none : Option Jvm.ClassFile.FieldType)) ∈ lw_tbl := List.mem_append_right _ (List.mem_of_getElem? (i := 355) (by decide +kernel))
theorem k_1 : (Jvm.Cond.initialized "HoopCabinet") ∈ lw_tbl := List.mem_append_right _ (List.mem_of_getElem? (i := 1) (by decide +kernel))
theorem k_352 : (Jvm.Cond.methodLink "HoopCabinet" (93 : Nat) ({ cls := "HoopCabinet", name := "appendFour", desc := "(I)V" } : Jvm.MethodName)) ∈ lw_tbl := List.mem_append_right _ (List.mem_of_getElem? (i := 352) (by decide +kernel))
theorem k_354 : (Jvm.Cond.instanceMethod ({ cls := "HoopCabinet", name := "appendFour", desc := "(I)V" } : Jvm.MethodName)) ∈ lw_tbl := List.mem_append_right _ (List.mem_of_getElem? (i := 354) (by decide +kernel))
theorem ks_0 : Cond.selects "HoopCabinet" ({ cls := "HoopCabinet", name := "appendFour", desc := "(I)V" } : Jvm.MethodName) ({ cls := "HoopCabinet", name := "appendFour", desc := "(I)V" } : Jvm.MethodName) ∈ lw_tbl := List.mem_append_left _ (List.mem_of_getElem? (i := 0) (by decide +kernel))
theorem k_138 : (Jvm.Cond.fieldLinkNest "HoopCabinet" (113 : Nat) "HoopCabinet$Reader" "faultPlace" "I" "HoopCabinet") ∈ lw_tbl := List.mem_append_right _ (List.mem_of_getElem? (i := 138) (by decide +kernel))
theorem k_136 : (Jvm.Cond.fieldLinkNest "HoopCabinet" (100 : Nat) "HoopCabinet$Reader" "fault" "I" "HoopCabinet") ∈ lw_tbl := List.mem_append_right _ (List.mem_of_getElem? (i := 136) (by decide +kernel))
theorem k_85 : (Jvm.Cond.fieldLinkNest "HoopCabinet" (119 : Nat) "HoopCabinet$Ball" "doors" "LHoopCabinet$Table;" "HoopCabinet") ∈ lw_tbl := List.mem_append_right _ (List.mem_of_getElem? (i := 85) (by decide +kernel))
theorem k_507 : (Jvm.Cond.code ({ cls := "HoopCabinet$Table", name := "hasCell", desc := "(II)Z" } : Jvm.MethodName) prog_10_method_3_code (3 : Nat) (Option.some Jvm.ClassFile.FieldType.boolean)) ∈ lw_tbl := List.mem_append_right _ (List.mem_of_getElem? (i := 507) (by decide +kernel))
theorem k_625 : (Jvm.Cond.methodLink "HoopCabinet" (123 : Nat) ({ cls := "HoopCabinet$Table", name := "hasCell", desc := "(II)Z" } : Jvm.MethodName)) ∈ lw_tbl := List.mem_append_right _ (List.mem_of_getElem? (i := 625) (by decide +kernel))
theorem k_505 : (Jvm.Cond.instanceMethod ({ cls := "HoopCabinet$Table", name := "hasCell", desc := "(II)Z" } : Jvm.MethodName)) ∈ lw_tbl := List.mem_append_right _ (List.mem_of_getElem? (i := 505) (by decide +kernel))
theorem k_506 : (Jvm.Cond.selects "HoopCabinet$Table" ({ cls := "HoopCabinet$Table", name := "hasCell", desc := "(II)Z" } : Jvm.MethodName) ({ cls := "HoopCabinet$Table", name := "hasCell", desc := "(II)Z" } : Jvm.MethodName)) ∈ lw_tbl := List.mem_append_right _ (List.mem_of_getElem? (i := 506) (by decide +kernel))
theorem k_554 : (Jvm.Cond.code ({ cls := "HoopCabinet$Table", name := "cell", desc := "(II)I" } : Jvm.MethodName) prog_10_method_5_code (3 : Nat) (Option.some Jvm.ClassFile.FieldType.int)) ∈ lw_tbl := List.mem_append_right _ (List.mem_of_getElem? (i := 554) (by decide +kernel))
theorem k_626 : (Jvm.Cond.methodLink "HoopCabinet" (129 : Nat) ({ cls := "HoopCabinet$Table", name := "cell", desc := "(II)I" } : Jvm.MethodName)) ∈ lw_tbl := List.mem_append_right _ (List.mem_of_getElem? (i := 626) (by decide +kernel))
theorem k_552 : (Jvm.Cond.instanceMethod ({ cls := "HoopCabinet$Table", name := "cell", desc := "(II)I" } : Jvm.MethodName)) ∈ lw_tbl := List.mem_append_right _ (List.mem_of_getElem? (i := 552) (by decide +kernel))
theorem k_553 : (Jvm.Cond.selects "HoopCabinet$Table" ({ cls := "HoopCabinet$Table", name := "cell", desc := "(II)I" } : Jvm.MethodName) ({ cls := "HoopCabinet$Table", name := "cell", desc := "(II)I" } : Jvm.MethodName)) ∈ lw_tbl := List.mem_append_right _ (List.mem_of_getElem? (i := 553) (by decide +kernel))
theorem k_504 : (Jvm.Cond.methodLink "HoopCabinet$Table" (31 : Nat) ({ cls := "HoopCabinet$Table", name := "hasCell", desc := "(II)Z" } : Jvm.MethodName)) ∈ lw_tbl := List.mem_append_right _ (List.mem_of_getElem? (i := 504) (by decide +kernel))
theorem k_91 : (Jvm.Cond.fieldLinkNest "HoopCabinet" (133 : Nat) "HoopCabinet$Ball" "ladies" "LHoopCabinet$Table;" "HoopCabinet") ∈ lw_tbl := List.mem_append_right _ (List.mem_of_getElem? (i := 91) (by decide +kernel))
theorem k_94 : (Jvm.Cond.fieldLinkNest "HoopCabinet" (136 : Nat) "HoopCabinet$Ball" "ministers" "LHoopCabinet$Table;" "HoopCabinet") ∈ lw_tbl := List.mem_append_right _ (List.mem_of_getElem? (i := 94) (by decide +kernel))
theorem k_642 : (Jvm.Cond.code ({ cls := "HoopCabinet$Ball", name := "hasLady", desc := "(I)Z" } : Jvm.MethodName) prog_2_method_5_code (2 : Nat) (Option.some Jvm.ClassFile.FieldType.boolean)) ∈ lw_tbl := List.mem_append_right _ (List.mem_of_getElem? (i := 642) (by decide +kernel))
theorem k_639 : (Jvm.Cond.methodLink "HoopCabinet" (139 : Nat) ({ cls := "HoopCabinet$Ball", name := "hasLady", desc := "(I)Z" } : Jvm.MethodName)) ∈ lw_tbl := List.mem_append_right _ (List.mem_of_getElem? (i := 639) (by decide +kernel))
theorem k_640 : (Jvm.Cond.instanceMethod ({ cls := "HoopCabinet$Ball", name := "hasLady", desc := "(I)Z" } : Jvm.MethodName)) ∈ lw_tbl := List.mem_append_right _ (List.mem_of_getElem? (i := 640) (by decide +kernel))
theorem k_641 : (Jvm.Cond.selects "HoopCabinet$Ball" ({ cls := "HoopCabinet$Ball", name := "hasLady", desc := "(I)Z" } : Jvm.MethodName) ({ cls := "HoopCabinet$Ball", name := "hasLady", desc := "(I)Z" } : Jvm.MethodName)) ∈ lw_tbl := List.mem_append_right _ (List.mem_of_getElem? (i := 641) (by decide +kernel))
theorem k_646 : (Jvm.Cond.code ({ cls := "HoopCabinet$Table", name := "has", desc := "(I)Z" } : Jvm.MethodName) prog_10_method_2_code (2 : Nat) (Option.some Jvm.ClassFile.FieldType.boolean)) ∈ lw_tbl := List.mem_append_right _ (List.mem_of_getElem? (i := 646) (by decide +kernel))
theorem k_643 : (Jvm.Cond.methodLink "HoopCabinet$Ball" (55 : Nat) ({ cls := "HoopCabinet$Table", name := "has", desc := "(I)Z" } : Jvm.MethodName)) ∈ lw_tbl := List.mem_append_right _ (List.mem_of_getElem? (i := 643) (by decide +kernel))
theorem k_644 : (Jvm.Cond.instanceMethod ({ cls := "HoopCabinet$Table", name := "has", desc := "(I)Z" } : Jvm.MethodName)) ∈ lw_tbl := List.mem_append_right _ (List.mem_of_getElem? (i := 644) (by decide +kernel))
theorem k_645 : (Jvm.Cond.selects "HoopCabinet$Table" ({ cls := "HoopCabinet$Table", name := "has", desc := "(I)Z" } : Jvm.MethodName) ({ cls := "HoopCabinet$Table", name := "has", desc := "(I)Z" } : Jvm.MethodName)) ∈ lw_tbl := List.mem_append_right _ (List.mem_of_getElem? (i := 645) (by decide +kernel))
theorem k_562 : (Jvm.Cond.code ({ cls := "HoopCabinet$Ball", name := "hasRoom", desc := "(I)Z" } : Jvm.MethodName) prog_2_method_6_code (2 : Nat) (Option.some Jvm.ClassFile.FieldType.boolean)) ∈ lw_tbl := List.mem_append_right _ (List.mem_of_getElem? (i := 562) (by decide +kernel))
theorem k_647 : (Jvm.Cond.methodLink "HoopCabinet" (143 : Nat) ({ cls := "HoopCabinet$Ball", name := "hasRoom", desc := "(I)Z" } : Jvm.MethodName)) ∈ lw_tbl := List.mem_append_right _ (List.mem_of_getElem? (i := 647) (by decide +kernel))
theorem k_560 : (Jvm.Cond.instanceMethod ({ cls := "HoopCabinet$Ball", name := "hasRoom", desc := "(I)Z" } : Jvm.MethodName)) ∈ lw_tbl := List.mem_append_right _ (List.mem_of_getElem? (i := 560) (by decide +kernel))
theorem k_561 : (Jvm.Cond.selects "HoopCabinet$Ball" ({ cls := "HoopCabinet$Ball", name := "hasRoom", desc := "(I)Z" } : Jvm.MethodName) ({ cls := "HoopCabinet$Ball", name := "hasRoom", desc := "(I)Z" } : Jvm.MethodName)) ∈ lw_tbl := List.mem_append_right _ (List.mem_of_getElem? (i := 561) (by decide +kernel))
theorem k_67 : (Jvm.Cond.fieldLink "HoopCabinet$Ball" (36 : Nat) "HoopCabinet$Ball" "rooms" "I") ∈ lw_tbl := List.mem_append_right _ (List.mem_of_getElem? (i := 67) (by decide +kernel))
theorem k_651 : (Jvm.Cond.code ({ cls := "HoopCabinet$Floor", name := "distance", desc := "(III)I" } : Jvm.MethodName) prog_4_method_14_code (6 : Nat) (Option.some Jvm.ClassFile.FieldType.int)) ∈ lw_tbl := List.mem_append_right _ (List.mem_of_getElem? (i := 651) (by decide +kernel))
theorem k_648 : (Jvm.Cond.methodLink "HoopCabinet" (146 : Nat) ({ cls := "HoopCabinet$Floor", name := "distance", desc := "(III)I" } : Jvm.MethodName)) ∈ lw_tbl := List.mem_append_right _ (List.mem_of_getElem? (i := 648) (by decide +kernel))
theorem k_649 : (Jvm.Cond.instanceMethod ({ cls := "HoopCabinet$Floor", name := "distance", desc := "(III)I" } : Jvm.MethodName)) ∈ lw_tbl := List.mem_append_right _ (List.mem_of_getElem? (i := 649) (by decide +kernel))
theorem k_650 : (Jvm.Cond.selects "HoopCabinet$Floor" ({ cls := "HoopCabinet$Floor", name := "distance", desc := "(III)I" } : Jvm.MethodName) ({ cls := "HoopCabinet$Floor", name := "distance", desc := "(III)I" } : Jvm.MethodName)) ∈ lw_tbl := List.mem_append_right _ (List.mem_of_getElem? (i := 650) (by decide +kernel))
theorem k_191 : (Jvm.Cond.fieldLink "HoopCabinet$Floor" (63 : Nat) "HoopCabinet$Floor" "rooms" "I") ∈ lw_tbl := List.mem_append_right _ (List.mem_of_getElem? (i := 191) (by decide +kernel))
theorem k_599 : (Jvm.Cond.code ({ cls := "HoopCabinet", name := "hasBit", desc := "(II)Z" } : Jvm.MethodName) prog_1_method_95_code (2 : Nat) (Option.some Jvm.ClassFile.FieldType.boolean)) ∈ lw_tbl := List.mem_append_right _ (List.mem_of_getElem? (i := 599) (by decide +kernel))
theorem k_604 : (Jvm.Cond.methodLinkNest "HoopCabinet$Floor" (123 : Nat) ({ cls := "HoopCabinet", name := "hasBit", desc := "(II)Z" } : Jvm.MethodName) "HoopCabinet") ∈ lw_tbl := List.mem_append_right _ (List.mem_of_getElem? (i := 604) (by decide +kernel))
theorem k_598 : (Jvm.Cond.static ({ cls := "HoopCabinet", name := "hasBit", desc := "(II)Z" } : Jvm.MethodName)) ∈ lw_tbl := List.mem_append_right _ (List.mem_of_getElem? (i := 598) (by decide +kernel))
theorem k_603 : (Jvm.Cond.code ({ cls := "HoopCabinet$Floor", name := "spread", desc := "(II)I" } : Jvm.MethodName) prog_4_method_13_code (5 : Nat) (Option.some Jvm.ClassFile.FieldType.int)) ∈ lw_tbl := List.mem_append_right _ (List.mem_of_getElem? (i := 603) (by decide +kernel))
theorem k_600 : (Jvm.Cond.methodLink "HoopCabinet$Floor" (108 : Nat) ({ cls := "HoopCabinet$Floor", name := "spread", desc := "(II)I" } : Jvm.MethodName)) ∈ lw_tbl := List.mem_append_right _ (List.mem_of_getElem? (i := 600) (by decide +kernel))
theorem k_601 : (Jvm.Cond.instanceMethod ({ cls := "HoopCabinet$Floor", name := "spread", desc := "(II)I" } : Jvm.MethodName)) ∈ lw_tbl := List.mem_append_right _ (List.mem_of_getElem? (i := 601) (by decide +kernel))
theorem k_602 : (Jvm.Cond.selects "HoopCabinet$Floor" ({ cls := "HoopCabinet$Floor", name := "spread", desc := "(II)I" } : Jvm.MethodName) ({ cls := "HoopCabinet$Floor", name := "spread", desc := "(II)I" } : Jvm.MethodName)) ∈ lw_tbl := List.mem_append_right _ (List.mem_of_getElem? (i := 602) (by decide +kernel))
theorem k_593 : (Jvm.Cond.code ({ cls := "HoopCabinet$Floor", name := "stepsFrom", desc := "(II)I" } : Jvm.MethodName) prog_4_method_12_code (3 : Nat) (Option.some Jvm.ClassFile.FieldType.int)) ∈ lw_tbl := List.mem_append_right _ (List.mem_of_getElem? (i := 593) (by decide +kernel))
theorem k_590 : (Jvm.Cond.methodLink "HoopCabinet$Floor" (101 : Nat) ({ cls := "HoopCabinet$Floor", name := "stepsFrom", desc := "(II)I" } : Jvm.MethodName)) ∈ lw_tbl := List.mem_append_right _ (List.mem_of_getElem? (i := 590) (by decide +kernel))
theorem k_591 : (Jvm.Cond.instanceMethod ({ cls := "HoopCabinet$Floor", name := "stepsFrom", desc := "(II)I" } : Jvm.MethodName)) ∈ lw_tbl := List.mem_append_right _ (List.mem_of_getElem? (i := 591) (by decide +kernel))
theorem k_592 : (Jvm.Cond.selects "HoopCabinet$Floor" ({ cls := "HoopCabinet$Floor", name := "stepsFrom", desc := "(II)I" } : Jvm.MethodName) ({ cls := "HoopCabinet$Floor", name := "stepsFrom", desc := "(II)I" } : Jvm.MethodName)) ∈ lw_tbl := List.mem_append_right _ (List.mem_of_getElem? (i := 592) (by decide +kernel))
theorem k_190 : (Jvm.Cond.fieldLink "HoopCabinet$Floor" (35 : Nat) "HoopCabinet$Floor" "ladies" "I") ∈ lw_tbl := List.mem_append_right _ (List.mem_of_getElem? (i := 190) (by decide +kernel))
theorem k_659 : (Jvm.Cond.code ({ cls := "HoopCabinet$Floor", name := "reachable", desc := "(II)I" } : Jvm.MethodName) prog_4_method_15_code (5 : Nat) (Option.some Jvm.ClassFile.FieldType.int)) ∈ lw_tbl := List.mem_append_right _ (List.mem_of_getElem? (i := 659) (by decide +kernel))
theorem k_656 : (Jvm.Cond.methodLink "HoopCabinet" (150 : Nat) ({ cls := "HoopCabinet$Floor", name := "reachable", desc := "(II)I" } : Jvm.MethodName)) ∈ lw_tbl := List.mem_append_right _ (List.mem_of_getElem? (i := 656) (by decide +kernel))
theorem k_657 : (Jvm.Cond.instanceMethod ({ cls := "HoopCabinet$Floor", name := "reachable", desc := "(II)I" } : Jvm.MethodName)) ∈ lw_tbl := List.mem_append_right _ (List.mem_of_getElem? (i := 657) (by decide +kernel))
theorem k_658 : (Jvm.Cond.selects "HoopCabinet$Floor" ({ cls := "HoopCabinet$Floor", name := "reachable", desc := "(II)I" } : Jvm.MethodName) ({ cls := "HoopCabinet$Floor", name := "reachable", desc := "(II)I" } : Jvm.MethodName)) ∈ lw_tbl := List.mem_append_right _ (List.mem_of_getElem? (i := 658) (by decide +kernel))
theorem k_667 : (Jvm.Cond.code ({ cls := "HoopCabinet$Ball", name := "hasDance", desc := "(I)Z" } : Jvm.MethodName) prog_2_method_7_code (2 : Nat) (Option.some Jvm.ClassFile.FieldType.boolean)) ∈ lw_tbl := List.mem_append_right _ (List.mem_of_getElem? (i := 667) (by decide +kernel))
theorem k_664 : (Jvm.Cond.methodLink "HoopCabinet" (153 : Nat) ({ cls := "HoopCabinet$Ball", name := "hasDance", desc := "(I)Z" } : Jvm.MethodName)) ∈ lw_tbl := List.mem_append_right _ (List.mem_of_getElem? (i := 664) (by decide +kernel))
theorem k_665 : (Jvm.Cond.instanceMethod ({ cls := "HoopCabinet$Ball", name := "hasDance", desc := "(I)Z" } : Jvm.MethodName)) ∈ lw_tbl := List.mem_append_right _ (List.mem_of_getElem? (i := 665) (by decide +kernel))
theorem k_666 : (Jvm.Cond.selects "HoopCabinet$Ball" ({ cls := "HoopCabinet$Ball", name := "hasDance", desc := "(I)Z" } : Jvm.MethodName) ({ cls := "HoopCabinet$Ball", name := "hasDance", desc := "(I)Z" } : Jvm.MethodName)) ∈ lw_tbl := List.mem_append_right _ (List.mem_of_getElem? (i := 666) (by decide +kernel))
theorem k_671 : (Jvm.Cond.code ({ cls := "HoopCabinet$Ball", name := "isTold", desc := "()Z" } : Jvm.MethodName) prog_2_method_4_code (1 : Nat) (Option.some Jvm.ClassFile.FieldType.boolean)) ∈ lw_tbl := List.mem_append_right _ (List.mem_of_getElem? (i := 671) (by decide +kernel))
theorem k_668 : (Jvm.Cond.methodLink "HoopCabinet$Ball" (59 : Nat) ({ cls := "HoopCabinet$Ball", name := "isTold", desc := "()Z" } : Jvm.MethodName)) ∈ lw_tbl := List.mem_append_right _ (List.mem_of_getElem? (i := 668) (by decide +kernel))
theorem k_669 : (Jvm.Cond.instanceMethod ({ cls := "HoopCabinet$Ball", name := "isTold", desc := "()Z" } : Jvm.MethodName)) ∈ lw_tbl := List.mem_append_right _ (List.mem_of_getElem? (i := 669) (by decide +kernel))
theorem k_670 : (Jvm.Cond.selects "HoopCabinet$Ball" ({ cls := "HoopCabinet$Ball", name := "isTold", desc := "()Z" } : Jvm.MethodName) ({ cls := "HoopCabinet$Ball", name := "isTold", desc := "()Z" } : Jvm.MethodName)) ∈ lw_tbl := List.mem_append_right _ (List.mem_of_getElem? (i := 670) (by decide +kernel))
theorem k_64 : (Jvm.Cond.fieldLink "HoopCabinet$Ball" (32 : Nat) "HoopCabinet$Ball" "lines" "I") ∈ lw_tbl := List.mem_append_right _ (List.mem_of_getElem? (i := 64) (by decide +kernel))
theorem k_71 : (Jvm.Cond.fieldLink "HoopCabinet$Ball" (39 : Nat) "HoopCabinet$Ball" "dances" "I") ∈ lw_tbl := List.mem_append_right _ (List.mem_of_getElem? (i := 71) (by decide +kernel))
theorem k_581 : (Jvm.Cond.code ({ cls := "HoopCabinet$Floor", name := "goalOf", desc := "(II)I" } : Jvm.MethodName) prog_4_method_17_code (3 : Nat) (Option.some Jvm.ClassFile.FieldType.int)) ∈ lw_tbl := List.mem_append_right _ (List.mem_of_getElem? (i := 581) (by decide +kernel))
theorem k_672 : (Jvm.Cond.methodLink "HoopCabinet" (156 : Nat) ({ cls := "HoopCabinet$Floor", name := "goalOf", desc := "(II)I" } : Jvm.MethodName)) ∈ lw_tbl := List.mem_append_right _ (List.mem_of_getElem? (i := 672) (by decide +kernel))
theorem k_579 : (Jvm.Cond.instanceMethod ({ cls := "HoopCabinet$Floor", name := "goalOf", desc := "(II)I" } : Jvm.MethodName)) ∈ lw_tbl := List.mem_append_right _ (List.mem_of_getElem? (i := 579) (by decide +kernel))
theorem k_580 : (Jvm.Cond.selects "HoopCabinet$Floor" ({ cls := "HoopCabinet$Floor", name := "goalOf", desc := "(II)I" } : Jvm.MethodName) ({ cls := "HoopCabinet$Floor", name := "goalOf", desc := "(II)I" } : Jvm.MethodName)) ∈ lw_tbl := List.mem_append_right _ (List.mem_of_getElem? (i := 580) (by decide +kernel))
theorem k_585 : (Jvm.Cond.code ({ cls := "HoopCabinet$Floor", name := "isHere", desc := "(II)Z" } : Jvm.MethodName) prog_4_method_16_code (3 : Nat) (Option.some Jvm.ClassFile.FieldType.boolean)) ∈ lw_tbl := List.mem_append_right _ (List.mem_of_getElem? (i := 585) (by decide +kernel))
theorem k_582 : (Jvm.Cond.methodLink "HoopCabinet$Floor" (127 : Nat) ({ cls := "HoopCabinet$Floor", name := "isHere", desc := "(II)Z" } : Jvm.MethodName)) ∈ lw_tbl := List.mem_append_right _ (List.mem_of_getElem? (i := 582) (by decide +kernel))
theorem k_584 : (Jvm.Cond.instanceMethod ({ cls := "HoopCabinet$Floor", name := "isHere", desc := "(II)Z" } : Jvm.MethodName)) ∈ lw_tbl := List.mem_append_right _ (List.mem_of_getElem? (i := 584) (by decide +kernel))
theorem ks_21 : Cond.selects "HoopCabinet$Floor" ({ cls := "HoopCabinet$Floor", name := "isHere", desc := "(II)Z" } : Jvm.MethodName) ({ cls := "HoopCabinet$Floor", name := "isHere", desc := "(II)Z" } : Jvm.MethodName) ∈ lw_tbl := List.mem_append_left _ (List.mem_of_getElem? (i := 21) (by decide +kernel))
theorem k_192 : (Jvm.Cond.fieldLink "HoopCabinet$Floor" (67 : Nat) "HoopCabinet$Floor" "dances" "I") ∈ lw_tbl := List.mem_append_right _ (List.mem_of_getElem? (i := 192) (by decide +kernel))
theorem k_612 : (Jvm.Cond.code ({ cls := "HoopCabinet$Floor", name := "placeOf", desc := "(II)I" } : Jvm.MethodName) prog_4_method_18_code (3 : Nat) (Option.some Jvm.ClassFile.FieldType.int)) ∈ lw_tbl := List.mem_append_right _ (List.mem_of_getElem? (i := 612) (by decide +kernel))
theorem k_677 : (Jvm.Cond.methodLink "HoopCabinet" (159 : Nat) ({ cls := "HoopCabinet$Floor", name := "placeOf", desc := "(II)I" } : Jvm.MethodName)) ∈ lw_tbl := List.mem_append_right _ (List.mem_of_getElem? (i := 677) (by decide +kernel))
theorem k_610 : (Jvm.Cond.instanceMethod ({ cls := "HoopCabinet$Floor", name := "placeOf", desc := "(II)I" } : Jvm.MethodName)) ∈ lw_tbl := List.mem_append_right _ (List.mem_of_getElem? (i := 610) (by decide +kernel))
theorem k_611 : (Jvm.Cond.selects "HoopCabinet$Floor" ({ cls := "HoopCabinet$Floor", name := "placeOf", desc := "(II)I" } : Jvm.MethodName) ({ cls := "HoopCabinet$Floor", name := "placeOf", desc := "(II)I" } : Jvm.MethodName)) ∈ lw_tbl := List.mem_append_right _ (List.mem_of_getElem? (i := 611) (by decide +kernel))
theorem k_616 : (Jvm.Cond.code ({ cls := "HoopCabinet$Floor", name := "ladiesIn", desc := "(II)I" } : Jvm.MethodName) prog_4_method_20_code (5 : Nat) (Option.some Jvm.ClassFile.FieldType.int)) ∈ lw_tbl := List.mem_append_right _ (List.mem_of_getElem? (i := 616) (by decide +kernel))
theorem k_682 : (Jvm.Cond.methodLink "HoopCabinet" (162 : Nat) ({ cls := "HoopCabinet$Floor", name := "ladiesIn", desc := "(II)I" } : Jvm.MethodName)) ∈ lw_tbl := List.mem_append_right _ (List.mem_of_getElem? (i := 682) (by decide +kernel))
theorem k_614 : (Jvm.Cond.instanceMethod ({ cls := "HoopCabinet$Floor", name := "ladiesIn", desc := "(II)I" } : Jvm.MethodName)) ∈ lw_tbl := List.mem_append_right _ (List.mem_of_getElem? (i := 614) (by decide +kernel))
theorem k_615 : (Jvm.Cond.selects "HoopCabinet$Floor" ({ cls := "HoopCabinet$Floor", name := "ladiesIn", desc := "(II)I" } : Jvm.MethodName) ({ cls := "HoopCabinet$Floor", name := "ladiesIn", desc := "(II)I" } : Jvm.MethodName)) ∈ lw_tbl := List.mem_append_right _ (List.mem_of_getElem? (i := 615) (by decide +kernel))
theorem k_609 : (Jvm.Cond.methodLink "HoopCabinet$Floor" (111 : Nat) ({ cls := "HoopCabinet$Floor", name := "placeOf", desc := "(II)I" } : Jvm.MethodName)) ∈ lw_tbl := List.mem_append_right _ (List.mem_of_getElem? (i := 609) (by decide +kernel))
theorem k_690 : (Jvm.Cond.code ({ cls := "HoopCabinet$Floor", name := "stepsOf", desc := "(I)I" } : Jvm.MethodName) prog_4_method_22_code (4 : Nat) (Option.some Jvm.ClassFile.FieldType.int)) ∈ lw_tbl := List.mem_append_right _ (List.mem_of_getElem? (i := 690) (by decide +kernel))
theorem k_687 : (Jvm.Cond.methodLink "HoopCabinet" (165 : Nat) ({ cls := "HoopCabinet$Floor", name := "stepsOf", desc := "(I)I" } : Jvm.MethodName)) ∈ lw_tbl := List.mem_append_right _ (List.mem_of_getElem? (i := 687) (by decide +kernel))
theorem k_688 : (Jvm.Cond.instanceMethod ({ cls := "HoopCabinet$Floor", name := "stepsOf", desc := "(I)I" } : Jvm.MethodName)) ∈ lw_tbl := List.mem_append_right _ (List.mem_of_getElem? (i := 688) (by decide +kernel))
theorem k_689 : (Jvm.Cond.selects "HoopCabinet$Floor" ({ cls := "HoopCabinet$Floor", name := "stepsOf", desc := "(I)I" } : Jvm.MethodName) ({ cls := "HoopCabinet$Floor", name := "stepsOf", desc := "(I)I" } : Jvm.MethodName)) ∈ lw_tbl := List.mem_append_right _ (List.mem_of_getElem? (i := 689) (by decide +kernel))
theorem k_75 : (Jvm.Cond.fieldLinkNest "HoopCabinet" (169 : Nat) "HoopCabinet$Ball" "dances" "I" "HoopCabinet") ∈ lw_tbl := List.mem_append_right _ (List.mem_of_getElem? (i := 75) (by decide +kernel))
theorem k_702 : (Jvm.Cond.code ({ cls := "HoopCabinet$Floor", name := "companyOf", desc := "(II)I" } : Jvm.MethodName) prog_4_method_19_code (3 : Nat) (Option.some Jvm.ClassFile.FieldType.int)) ∈ lw_tbl := List.mem_append_right _ (List.mem_of_getElem? (i := 702) (by decide +kernel))
theorem k_699 : (Jvm.Cond.methodLink "HoopCabinet" (172 : Nat) ({ cls := "HoopCabinet$Floor", name := "companyOf", desc := "(II)I" } : Jvm.MethodName)) ∈ lw_tbl := List.mem_append_right _ (List.mem_of_getElem? (i := 699) (by decide +kernel))
theorem k_700 : (Jvm.Cond.instanceMethod ({ cls := "HoopCabinet$Floor", name := "companyOf", desc := "(II)I" } : Jvm.MethodName)) ∈ lw_tbl := List.mem_append_right _ (List.mem_of_getElem? (i := 700) (by decide +kernel))
theorem k_701 : (Jvm.Cond.selects "HoopCabinet$Floor" ({ cls := "HoopCabinet$Floor", name := "companyOf", desc := "(II)I" } : Jvm.MethodName) ({ cls := "HoopCabinet$Floor", name := "companyOf", desc := "(II)I" } : Jvm.MethodName)) ∈ lw_tbl := List.mem_append_right _ (List.mem_of_getElem? (i := 701) (by decide +kernel))
theorem k_597 : (Jvm.Cond.methodLink "HoopCabinet" (175 : Nat) ({ cls := "HoopCabinet", name := "hasBit", desc := "(II)Z" } : Jvm.MethodName)) ∈ lw_tbl := List.mem_append_right _ (List.mem_of_getElem? (i := 597) (by decide +kernel))
theorem k_710 : (Jvm.Cond.code ({ cls := "HoopCabinet$Floor", name := "meetingsOf", desc := "(II)I" } : Jvm.MethodName) prog_4_method_23_code (5 : Nat) (Option.some Jvm.ClassFile.FieldType.int)) ∈ lw_tbl := List.mem_append_right _ (List.mem_of_getElem? (i := 710) (by decide +kernel))
theorem k_707 : (Jvm.Cond.methodLink "HoopCabinet" (178 : Nat) ({ cls := "HoopCabinet$Floor", name := "meetingsOf", desc := "(II)I" } : Jvm.MethodName)) ∈ lw_tbl := List.mem_append_right _ (List.mem_of_getElem? (i := 707) (by decide +kernel))
theorem k_708 : (Jvm.Cond.instanceMethod ({ cls := "HoopCabinet$Floor", name := "meetingsOf", desc := "(II)I" } : Jvm.MethodName)) ∈ lw_tbl := List.mem_append_right _ (List.mem_of_getElem? (i := 708) (by decide +kernel))
theorem k_709 : (Jvm.Cond.selects "HoopCabinet$Floor" ({ cls := "HoopCabinet$Floor", name := "meetingsOf", desc := "(II)I" } : Jvm.MethodName) ({ cls := "HoopCabinet$Floor", name := "meetingsOf", desc := "(II)I" } : Jvm.MethodName)) ∈ lw_tbl := List.mem_append_right _ (List.mem_of_getElem? (i := 709) (by decide +kernel))
theorem k_711 : (Jvm.Cond.methodLink "HoopCabinet$Floor" (130 : Nat) ({ cls := "HoopCabinet$Floor", name := "companyOf", desc := "(II)I" } : Jvm.MethodName)) ∈ lw_tbl := List.mem_append_right _ (List.mem_of_getElem? (i := 711) (by decide +kernel))
theorem k_719 : (Jvm.Cond.code ({ cls := "HoopCabinet$Floor", name := "friendsOf", desc := "(I)I" } : Jvm.MethodName) prog_4_method_24_code (4 : Nat) (Option.some Jvm.ClassFile.FieldType.int)) ∈ lw_tbl := List.mem_append_right _ (List.mem_of_getElem? (i := 719) (by decide +kernel))
theorem k_716 : (Jvm.Cond.methodLink "HoopCabinet" (181 : Nat) ({ cls := "HoopCabinet$Floor", name := "friendsOf", desc := "(I)I" } : Jvm.MethodName)) ∈ lw_tbl := List.mem_append_right _ (List.mem_of_getElem? (i := 716) (by decide +kernel))
theorem k_717 : (Jvm.Cond.instanceMethod ({ cls := "HoopCabinet$Floor", name := "friendsOf", desc := "(I)I" } : Jvm.MethodName)) ∈ lw_tbl := List.mem_append_right _ (List.mem_of_getElem? (i := 717) (by decide +kernel))
theorem k_718 : (Jvm.Cond.selects "HoopCabinet$Floor" ({ cls := "HoopCabinet$Floor", name := "friendsOf", desc := "(I)I" } : Jvm.MethodName) ({ cls := "HoopCabinet$Floor", name := "friendsOf", desc := "(I)I" } : Jvm.MethodName)) ∈ lw_tbl := List.mem_append_right _ (List.mem_of_getElem? (i := 718) (by decide +kernel))
theorem k_724 : (Jvm.Cond.methodLink "HoopCabinet" (184 : Nat) ({ cls := "HoopCabinet$Ball", name := "isTold", desc := "()Z" } : Jvm.MethodName)) ∈ lw_tbl := List.mem_append_right _ (List.mem_of_getElem? (i := 724) (by decide +kernel))
theorem k_728 : (Jvm.Cond.code ({ cls := "HoopCabinet", name := "fullest", desc := "(I)I" } : Jvm.MethodName) prog_1_method_23_code (4 : Nat) (Option.some Jvm.ClassFile.FieldType.int)) ∈ lw_tbl := List.mem_append_right _ (List.mem_of_getElem? (i := 728) (by decide +kernel))
theorem k_725 : (Jvm.Cond.methodLink "HoopCabinet" (188 : Nat) ({ cls := "HoopCabinet", name := "fullest", desc := "(I)I" } : Jvm.MethodName)) ∈ lw_tbl := List.mem_append_right _ (List.mem_of_getElem? (i := 725) (by decide +kernel))
theorem k_727 : (Jvm.Cond.instanceMethod ({ cls := "HoopCabinet", name := "fullest", desc := "(I)I" } : Jvm.MethodName)) ∈ lw_tbl := List.mem_append_right _ (List.mem_of_getElem? (i := 727) (by decide +kernel))
theorem ks_23 : Cond.selects "HoopCabinet" ({ cls := "HoopCabinet", name := "fullest", desc := "(I)I" } : Jvm.MethodName) ({ cls := "HoopCabinet", name := "fullest", desc := "(I)I" } : Jvm.MethodName) ∈ lw_tbl := List.mem_append_left _ (List.mem_of_getElem? (i := 23) (by decide +kernel))
theorem k_52 : (Jvm.Cond.fieldLinkNest "HoopCabinet" (200 : Nat) "HoopCabinet$Table" "rows" "I" "HoopCabinet") ∈ lw_tbl := List.mem_append_right _ (List.mem_of_getElem? (i := 52) (by decide +kernel))
theorem k_731 : (Jvm.Cond.code ({ cls := "java/lang/Integer", name := "bitCount", desc := "(I)I" } : Jvm.MethodName) prog_13_method_49_code (1 : Nat) (Option.some Jvm.ClassFile.FieldType.int)) ∈ lw_tbl := List.mem_append_right _ (List.mem_of_getElem? (i := 731) (by decide +kernel))
theorem k_19 : (Jvm.Cond.initialized "java/lang/Integer") ∈ lw_tbl := List.mem_append_right _ (List.mem_of_getElem? (i := 19) (by decide +kernel))
theorem k_729 : (Jvm.Cond.methodLink "HoopCabinet" (203 : Nat) ({ cls := "java/lang/Integer", name := "bitCount", desc := "(I)I" } : Jvm.MethodName)) ∈ lw_tbl := List.mem_append_right _ (List.mem_of_getElem? (i := 729) (by decide +kernel))
theorem k_730 : (Jvm.Cond.static ({ cls := "java/lang/Integer", name := "bitCount", desc := "(I)I" } : Jvm.MethodName)) ∈ lw_tbl := List.mem_append_right _ (List.mem_of_getElem? (i := 730) (by decide +kernel))
theorem k_732 : (Jvm.Cond.constant "java/lang/Integer" (265 : Nat) (1431655765 : Int32)) ∈ lw_tbl := List.mem_append_right _ (List.mem_of_getElem? (i := 732) (by decide +kernel))
theorem k_733 : (Jvm.Cond.constant "java/lang/Integer" (266 : Nat) (858993459 : Int32)) ∈ lw_tbl := List.mem_append_right _ (List.mem_of_getElem? (i := 733) (by decide +kernel))
theorem k_734 : (Jvm.Cond.constant "java/lang/Integer" (267 : Nat) (252645135 : Int32)) ∈ lw_tbl := List.mem_append_right _ (List.mem_of_getElem? (i := 734) (by decide +kernel))
theorem k_735 : (Jvm.Cond.methodLink "HoopCabinet" (191 : Nat) ({ cls := "java/lang/Math", name := "max", desc := "(II)I" } : Jvm.MethodName)) ∈ lw_tbl := List.mem_append_right _ (List.mem_of_getElem? (i := 735) (by decide +kernel))
theorem k_723 : (Jvm.Cond.code ({ cls := "HoopCabinet", name := "crush", desc := "()I" } : Jvm.MethodName) prog_1_method_21_code (3 : Nat) (Option.some Jvm.ClassFile.FieldType.int)) ∈ lw_tbl := List.mem_append_right _ (List.mem_of_getElem? (i := 723) (by decide +kernel))
theorem k_740 : (Jvm.Cond.methodLink "HoopCabinet" (196 : Nat) ({ cls := "HoopCabinet", name := "crush", desc := "()I" } : Jvm.MethodName)) ∈ lw_tbl := List.mem_append_right _ (List.mem_of_getElem? (i := 740) (by decide +kernel))
theorem k_721 : (Jvm.Cond.instanceMethod ({ cls := "HoopCabinet", name := "crush", desc := "()I" } : Jvm.MethodName)) ∈ lw_tbl := List.mem_append_right _ (List.mem_of_getElem? (i := 721) (by decide +kernel))
theorem k_722 : (Jvm.Cond.selects "HoopCabinet" ({ cls := "HoopCabinet", name := "crush", desc := "()I" } : Jvm.MethodName) ({ cls := "HoopCabinet", name := "crush", desc := "()I" } : Jvm.MethodName)) ∈ lw_tbl := List.mem_append_right _ (List.mem_of_getElem? (i := 722) (by decide +kernel))
theorem k_70 : (Jvm.Cond.fieldLinkNest "HoopCabinet" (208 : Nat) "HoopCabinet$Ball" "rooms" "I" "HoopCabinet") ∈ lw_tbl := List.mem_append_right _ (List.mem_of_getElem? (i := 70) (by decide +kernel))
theorem k_748 : (Jvm.Cond.code ({ cls := "HoopCabinet$Floor", name := "dancesIn", desc := "(II)I" } : Jvm.MethodName) prog_4_method_21_code (5 : Nat) (Option.some Jvm.ClassFile.FieldType.int)) ∈ lw_tbl := List.mem_append_right _ (List.mem_of_getElem? (i := 748) (by decide +kernel))
theorem k_745 : (Jvm.Cond.methodLink "HoopCabinet" (211 : Nat) ({ cls := "HoopCabinet$Floor", name := "dancesIn", desc := "(II)I" } : Jvm.MethodName)) ∈ lw_tbl := List.mem_append_right _ (List.mem_of_getElem? (i := 745) (by decide +kernel))
theorem k_746 : (Jvm.Cond.instanceMethod ({ cls := "HoopCabinet$Floor", name := "dancesIn", desc := "(II)I" } : Jvm.MethodName)) ∈ lw_tbl := List.mem_append_right _ (List.mem_of_getElem? (i := 746) (by decide +kernel))
theorem k_747 : (Jvm.Cond.selects "HoopCabinet$Floor" ({ cls := "HoopCabinet$Floor", name := "dancesIn", desc := "(II)I" } : Jvm.MethodName) ({ cls := "HoopCabinet$Floor", name := "dancesIn", desc := "(II)I" } : Jvm.MethodName)) ∈ lw_tbl := List.mem_append_right _ (List.mem_of_getElem? (i := 747) (by decide +kernel))
theorem k_780 : (Jvm.Cond.code ({ cls := "HoopCabinet", name := "passAsTold", desc := "()V" } : Jvm.MethodName) prog_1_method_31_code (1 : Nat) (Option.none : Option Jvm.ClassFile.FieldType)) ∈ lw_tbl := List.mem_append_right _ (List.mem_of_getElem? (i := 780) (by decide +kernel))
theorem k_777 : (Jvm.Cond.methodLink "HoopCabinet" (227 : Nat) ({ cls := "HoopCabinet", name := "passAsTold", desc := "()V" } : Jvm.MethodName)) ∈ lw_tbl := List.mem_append_right _ (List.mem_of_getElem? (i := 777) (by decide +kernel))
theorem k_779 : (Jvm.Cond.instanceMethod ({ cls := "HoopCabinet", name := "passAsTold", desc := "()V" } : Jvm.MethodName)) ∈ lw_tbl := List.mem_append_right _ (List.mem_of_getElem? (i := 779) (by decide +kernel))
theorem ks_24 : Cond.selects "HoopCabinet" ({ cls := "HoopCabinet", name := "passAsTold", desc := "()V" } : Jvm.MethodName) ({ cls := "HoopCabinet", name := "passAsTold", desc := "()V" } : Jvm.MethodName) ∈ lw_tbl := List.mem_append_left _ (List.mem_of_getElem? (i := 24) (by decide +kernel))
theorem k_78 : (Jvm.Cond.fieldLinkNest "HoopCabinet" (214 : Nat) "HoopCabinet$Ball" "law" "I" "HoopCabinet") ∈ lw_tbl := List.mem_append_right _ (List.mem_of_getElem? (i := 78) (by decide +kernel))
theorem k_784 : (Jvm.Cond.code ({ cls := "HoopCabinet$Notes", name := "prepare", desc := "(LHoopCabinet$Ball;II)V" } : Jvm.MethodName) prog_7_method_2_code (6 : Nat) (Option.none : Option Jvm.ClassFile.FieldType)) ∈ lw_tbl := List.mem_append_right _ (List.mem_of_getElem? (i := 784) (by decide +kernel))
theorem k_781 : (Jvm.Cond.methodLink "HoopCabinet" (217 : Nat) ({ cls := "HoopCabinet$Notes", name := "prepare", desc := "(LHoopCabinet$Ball;II)V" } : Jvm.MethodName)) ∈ lw_tbl := List.mem_append_right _ (List.mem_of_getElem? (i := 781) (by decide +kernel))
theorem k_782 : (Jvm.Cond.instanceMethod ({ cls := "HoopCabinet$Notes", name := "prepare", desc := "(LHoopCabinet$Ball;II)V" } : Jvm.MethodName)) ∈ lw_tbl := List.mem_append_right _ (List.mem_of_getElem? (i := 782) (by decide +kernel))
theorem k_783 : (Jvm.Cond.selects "HoopCabinet$Notes" ({ cls := "HoopCabinet$Notes", name := "prepare", desc := "(LHoopCabinet$Ball;II)V" } : Jvm.MethodName) ({ cls := "HoopCabinet$Notes", name := "prepare", desc := "(LHoopCabinet$Ball;II)V" } : Jvm.MethodName)) ∈ lw_tbl := List.mem_append_right _ (List.mem_of_getElem? (i := 783) (by decide +kernel))
theorem k_87 : (Jvm.Cond.fieldLinkNest "HoopCabinet$Notes" (21 : Nat) "HoopCabinet$Ball" "ladies" "LHoopCabinet$Table;" "HoopCabinet") ∈ lw_tbl := List.mem_append_right _ (List.mem_of_getElem? (i := 87) (by decide +kernel))
theorem k_47 : (Jvm.Cond.fieldLinkNest "HoopCabinet$Notes" (27 : Nat) "HoopCabinet$Table" "rows" "I" "HoopCabinet") ∈ lw_tbl := List.mem_append_right _ (List.mem_of_getElem? (i := 47) (by decide +kernel))
theorem k_219 : (Jvm.Cond.fieldLink "HoopCabinet$Notes" (33 : Nat) "HoopCabinet$Notes" "ladies" "I") ∈ lw_tbl := List.mem_append_right _ (List.mem_of_getElem? (i := 219) (by decide +kernel))
theorem k_72 : (Jvm.Cond.fieldLinkNest "HoopCabinet$Notes" (35 : Nat) "HoopCabinet$Ball" "dances" "I" "HoopCabinet") ∈ lw_tbl := List.mem_append_right _ (List.mem_of_getElem? (i := 72) (by decide +kernel))
theorem k_221 : (Jvm.Cond.fieldLink "HoopCabinet$Notes" (38 : Nat) "HoopCabinet$Notes" "dances" "I") ∈ lw_tbl := List.mem_append_right _ (List.mem_of_getElem? (i := 221) (by decide +kernel))
theorem k_788 : (Jvm.Cond.code ({ cls := "HoopCabinet$Ball", name := "seatsUnder", desc := "(I)I" } : Jvm.MethodName) prog_2_method_11_code (4 : Nat) (Option.some Jvm.ClassFile.FieldType.int)) ∈ lw_tbl := List.mem_append_right _ (List.mem_of_getElem? (i := 788) (by decide +kernel))
theorem k_785 : (Jvm.Cond.methodLink "HoopCabinet$Notes" (39 : Nat) ({ cls := "HoopCabinet$Ball", name := "seatsUnder", desc := "(I)I" } : Jvm.MethodName)) ∈ lw_tbl := List.mem_append_right _ (List.mem_of_getElem? (i := 785) (by decide +kernel))
theorem k_786 : (Jvm.Cond.instanceMethod ({ cls := "HoopCabinet$Ball", name := "seatsUnder", desc := "(I)I" } : Jvm.MethodName)) ∈ lw_tbl := List.mem_append_right _ (List.mem_of_getElem? (i := 786) (by decide +kernel))
theorem k_787 : (Jvm.Cond.selects "HoopCabinet$Ball" ({ cls := "HoopCabinet$Ball", name := "seatsUnder", desc := "(I)I" } : Jvm.MethodName) ({ cls := "HoopCabinet$Ball", name := "seatsUnder", desc := "(I)I" } : Jvm.MethodName)) ∈ lw_tbl := List.mem_append_right _ (List.mem_of_getElem? (i := 787) (by decide +kernel))
theorem k_51 : (Jvm.Cond.fieldLinkNest "HoopCabinet$Ball" (67 : Nat) "HoopCabinet$Table" "rows" "I" "HoopCabinet") ∈ lw_tbl := List.mem_append_right _ (List.mem_of_getElem? (i := 51) (by decide +kernel))
theorem k_789 : (Jvm.Cond.methodLink "HoopCabinet$Ball" (70 : Nat) ({ cls := "HoopCabinet$Table", name := "cell", desc := "(II)I" } : Jvm.MethodName)) ∈ lw_tbl := List.mem_append_right _ (List.mem_of_getElem? (i := 789) (by decide +kernel))
theorem k_793 : (Jvm.Cond.code ({ cls := "HoopCabinet$Notes", name := "mayGive", desc := "(LHoopCabinet$Ball;III)Z" } : Jvm.MethodName) prog_7_method_3_code (5 : Nat) (Option.some Jvm.ClassFile.FieldType.boolean)) ∈ lw_tbl := List.mem_append_right _ (List.mem_of_getElem? (i := 793) (by decide +kernel))
theorem k_790 : (Jvm.Cond.methodLink "HoopCabinet$Notes" (42 : Nat) ({ cls := "HoopCabinet$Notes", name := "mayGive", desc := "(LHoopCabinet$Ball;III)Z" } : Jvm.MethodName)) ∈ lw_tbl := List.mem_append_right _ (List.mem_of_getElem? (i := 790) (by decide +kernel))
theorem k_792 : (Jvm.Cond.instanceMethod ({ cls := "HoopCabinet$Notes", name := "mayGive", desc := "(LHoopCabinet$Ball;III)Z" } : Jvm.MethodName)) ∈ lw_tbl := List.mem_append_right _ (List.mem_of_getElem? (i := 792) (by decide +kernel))
theorem ks_25 : Cond.selects "HoopCabinet$Notes" ({ cls := "HoopCabinet$Notes", name := "mayGive", desc := "(LHoopCabinet$Ball;III)Z" } : Jvm.MethodName) ({ cls := "HoopCabinet$Notes", name := "mayGive", desc := "(LHoopCabinet$Ball;III)Z" } : Jvm.MethodName) ∈ lw_tbl := List.mem_append_left _ (List.mem_of_getElem? (i := 25) (by decide +kernel))
theorem k_794 : (Jvm.Cond.methodLink "HoopCabinet$Notes" (46 : Nat) ({ cls := "HoopCabinet$Table", name := "cell", desc := "(II)I" } : Jvm.MethodName)) ∈ lw_tbl := List.mem_append_right _ (List.mem_of_getElem? (i := 794) (by decide +kernel))
theorem k_798 : (Jvm.Cond.code ({ cls := "HoopCabinet", name := "inTheEnd", desc := "(LHoopCabinet$Floor;I)I" } : Jvm.MethodName) prog_1_method_32_code (3 : Nat) (Option.some Jvm.ClassFile.FieldType.int)) ∈ lw_tbl := List.mem_append_right _ (List.mem_of_getElem? (i := 798) (by decide +kernel))
theorem k_795 : (Jvm.Cond.methodLink "HoopCabinet" (230 : Nat) ({ cls := "HoopCabinet", name := "inTheEnd", desc := "(LHoopCabinet$Floor;I)I" } : Jvm.MethodName)) ∈ lw_tbl := List.mem_append_right _ (List.mem_of_getElem? (i := 795) (by decide +kernel))
theorem k_797 : (Jvm.Cond.instanceMethod ({ cls := "HoopCabinet", name := "inTheEnd", desc := "(LHoopCabinet$Floor;I)I" } : Jvm.MethodName)) ∈ lw_tbl := List.mem_append_right _ (List.mem_of_getElem? (i := 797) (by decide +kernel))
theorem ks_26 : Cond.selects "HoopCabinet" ({ cls := "HoopCabinet", name := "inTheEnd", desc := "(LHoopCabinet$Floor;I)I" } : Jvm.MethodName) ({ cls := "HoopCabinet", name := "inTheEnd", desc := "(LHoopCabinet$Floor;I)I" } : Jvm.MethodName) ∈ lw_tbl := List.mem_append_left _ (List.mem_of_getElem? (i := 26) (by decide +kernel))
theorem k_802 : (Jvm.Cond.code ({ cls := "HoopCabinet$Notes", name := "follow", desc := "(LHoopCabinet$Floor;II)V" } : Jvm.MethodName) prog_7_method_5_code (6 : Nat) (Option.none : Option Jvm.ClassFile.FieldType)) ∈ lw_tbl := List.mem_append_right _ (List.mem_of_getElem? (i := 802) (by decide +kernel))
theorem k_799 : (Jvm.Cond.methodLink "HoopCabinet" (220 : Nat) ({ cls := "HoopCabinet$Notes", name := "follow", desc := "(LHoopCabinet$Floor;II)V" } : Jvm.MethodName)) ∈ lw_tbl := List.mem_append_right _ (List.mem_of_getElem? (i := 799) (by decide +kernel))
theorem k_800 : (Jvm.Cond.instanceMethod ({ cls := "HoopCabinet$Notes", name := "follow", desc := "(LHoopCabinet$Floor;II)V" } : Jvm.MethodName)) ∈ lw_tbl := List.mem_append_right _ (List.mem_of_getElem? (i := 800) (by decide +kernel))
theorem k_801 : (Jvm.Cond.selects "HoopCabinet$Notes" ({ cls := "HoopCabinet$Notes", name := "follow", desc := "(LHoopCabinet$Floor;II)V" } : Jvm.MethodName) ({ cls := "HoopCabinet$Notes", name := "follow", desc := "(LHoopCabinet$Floor;II)V" } : Jvm.MethodName)) ∈ lw_tbl := List.mem_append_right _ (List.mem_of_getElem? (i := 801) (by decide +kernel))
theorem k_223 : (Jvm.Cond.fieldLink "HoopCabinet$Notes" (59 : Nat) "HoopCabinet$Notes" "first" "I") ∈ lw_tbl := List.mem_append_right _ (List.mem_of_getElem? (i := 223) (by decide +kernel))
theorem k_803 : (Jvm.Cond.methodLinkNest "HoopCabinet$Notes" (50 : Nat) ({ cls := "HoopCabinet", name := "hasBit", desc := "(II)Z" } : Jvm.MethodName) "HoopCabinet") ∈ lw_tbl := List.mem_append_right _ (List.mem_of_getElem? (i := 803) (by decide +kernel))
theorem k_807 : (Jvm.Cond.code ({ cls := "HoopCabinet$Notes", name := "passed", desc := "(LHoopCabinet$Floor;II)I" } : Jvm.MethodName) prog_7_method_4_code (6 : Nat) (Option.some Jvm.ClassFile.FieldType.int)) ∈ lw_tbl := List.mem_append_right _ (List.mem_of_getElem? (i := 807) (by decide +kernel))
theorem k_804 : (Jvm.Cond.methodLink "HoopCabinet$Notes" (62 : Nat) ({ cls := "HoopCabinet$Notes", name := "passed", desc := "(LHoopCabinet$Floor;II)I" } : Jvm.MethodName)) ∈ lw_tbl := List.mem_append_right _ (List.mem_of_getElem? (i := 804) (by decide +kernel))
theorem k_805 : (Jvm.Cond.instanceMethod ({ cls := "HoopCabinet$Notes", name := "passed", desc := "(LHoopCabinet$Floor;II)I" } : Jvm.MethodName)) ∈ lw_tbl := List.mem_append_right _ (List.mem_of_getElem? (i := 805) (by decide +kernel))
theorem k_806 : (Jvm.Cond.selects "HoopCabinet$Notes" ({ cls := "HoopCabinet$Notes", name := "passed", desc := "(LHoopCabinet$Floor;II)I" } : Jvm.MethodName) ({ cls := "HoopCabinet$Notes", name := "passed", desc := "(LHoopCabinet$Floor;II)I" } : Jvm.MethodName)) ∈ lw_tbl := List.mem_append_right _ (List.mem_of_getElem? (i := 806) (by decide +kernel))
theorem k_808 : (Jvm.Cond.methodLink "HoopCabinet$Notes" (54 : Nat) ({ cls := "HoopCabinet$Floor", name := "companyOf", desc := "(II)I" } : Jvm.MethodName)) ∈ lw_tbl := List.mem_append_right _ (List.mem_of_getElem? (i := 808) (by decide +kernel))
theorem k_812 : (Jvm.Cond.code ({ cls := "HoopCabinet$Notes", name := "behind", desc := "(I)I" } : Jvm.MethodName) prog_7_method_6_code (2 : Nat) (Option.some Jvm.ClassFile.FieldType.int)) ∈ lw_tbl := List.mem_append_right _ (List.mem_of_getElem? (i := 812) (by decide +kernel))
theorem k_809 : (Jvm.Cond.methodLink "HoopCabinet" (224 : Nat) ({ cls := "HoopCabinet$Notes", name := "behind", desc := "(I)I" } : Jvm.MethodName)) ∈ lw_tbl := List.mem_append_right _ (List.mem_of_getElem? (i := 809) (by decide +kernel))
theorem k_810 : (Jvm.Cond.instanceMethod ({ cls := "HoopCabinet$Notes", name := "behind", desc := "(I)I" } : Jvm.MethodName)) ∈ lw_tbl := List.mem_append_right _ (List.mem_of_getElem? (i := 810) (by decide +kernel))
theorem k_811 : (Jvm.Cond.selects "HoopCabinet$Notes" ({ cls := "HoopCabinet$Notes", name := "behind", desc := "(I)I" } : Jvm.MethodName) ({ cls := "HoopCabinet$Notes", name := "behind", desc := "(I)I" } : Jvm.MethodName)) ∈ lw_tbl := List.mem_append_right _ (List.mem_of_getElem? (i := 811) (by decide +kernel))
theorem k_820 : (Jvm.Cond.code ({ cls := "HoopCabinet$Notes", name := "giverOf", desc := "(LHoopCabinet$Floor;I)I" } : Jvm.MethodName) prog_7_method_9_code (5 : Nat) (Option.some Jvm.ClassFile.FieldType.int)) ∈ lw_tbl := List.mem_append_right _ (List.mem_of_getElem? (i := 820) (by decide +kernel))
theorem k_817 : (Jvm.Cond.methodLink "HoopCabinet" (234 : Nat) ({ cls := "HoopCabinet$Notes", name := "giverOf", desc := "(LHoopCabinet$Floor;I)I" } : Jvm.MethodName)) ∈ lw_tbl := List.mem_append_right _ (List.mem_of_getElem? (i := 817) (by decide +kernel))
theorem k_818 : (Jvm.Cond.instanceMethod ({ cls := "HoopCabinet$Notes", name := "giverOf", desc := "(LHoopCabinet$Floor;I)I" } : Jvm.MethodName)) ∈ lw_tbl := List.mem_append_right _ (List.mem_of_getElem? (i := 818) (by decide +kernel))
theorem k_819 : (Jvm.Cond.selects "HoopCabinet$Notes" ({ cls := "HoopCabinet$Notes", name := "giverOf", desc := "(LHoopCabinet$Floor;I)I" } : Jvm.MethodName) ({ cls := "HoopCabinet$Notes", name := "giverOf", desc := "(LHoopCabinet$Floor;I)I" } : Jvm.MethodName)) ∈ lw_tbl := List.mem_append_right _ (List.mem_of_getElem? (i := 819) (by decide +kernel))
theorem k_824 : (Jvm.Cond.code ({ cls := "HoopCabinet$Notes", name := "gotAt", desc := "(I)I" } : Jvm.MethodName) prog_7_method_8_code (3 : Nat) (Option.some Jvm.ClassFile.FieldType.int)) ∈ lw_tbl := List.mem_append_right _ (List.mem_of_getElem? (i := 824) (by decide +kernel))
theorem k_821 : (Jvm.Cond.methodLink "HoopCabinet$Notes" (69 : Nat) ({ cls := "HoopCabinet$Notes", name := "gotAt", desc := "(I)I" } : Jvm.MethodName)) ∈ lw_tbl := List.mem_append_right _ (List.mem_of_getElem? (i := 821) (by decide +kernel))
theorem k_822 : (Jvm.Cond.instanceMethod ({ cls := "HoopCabinet$Notes", name := "gotAt", desc := "(I)I" } : Jvm.MethodName)) ∈ lw_tbl := List.mem_append_right _ (List.mem_of_getElem? (i := 822) (by decide +kernel))
theorem k_823 : (Jvm.Cond.selects "HoopCabinet$Notes" ({ cls := "HoopCabinet$Notes", name := "gotAt", desc := "(I)I" } : Jvm.MethodName) ({ cls := "HoopCabinet$Notes", name := "gotAt", desc := "(I)I" } : Jvm.MethodName)) ∈ lw_tbl := List.mem_append_right _ (List.mem_of_getElem? (i := 823) (by decide +kernel))
theorem k_828 : (Jvm.Cond.code ({ cls := "HoopCabinet$Notes", name := "ahead", desc := "(I)I" } : Jvm.MethodName) prog_7_method_7_code (2 : Nat) (Option.some Jvm.ClassFile.FieldType.int)) ∈ lw_tbl := List.mem_append_right _ (List.mem_of_getElem? (i := 828) (by decide +kernel))
theorem k_825 : (Jvm.Cond.methodLink "HoopCabinet$Notes" (72 : Nat) ({ cls := "HoopCabinet$Notes", name := "ahead", desc := "(I)I" } : Jvm.MethodName)) ∈ lw_tbl := List.mem_append_right _ (List.mem_of_getElem? (i := 825) (by decide +kernel))
theorem k_826 : (Jvm.Cond.instanceMethod ({ cls := "HoopCabinet$Notes", name := "ahead", desc := "(I)I" } : Jvm.MethodName)) ∈ lw_tbl := List.mem_append_right _ (List.mem_of_getElem? (i := 826) (by decide +kernel))
theorem k_827 : (Jvm.Cond.selects "HoopCabinet$Notes" ({ cls := "HoopCabinet$Notes", name := "ahead", desc := "(I)I" } : Jvm.MethodName) ({ cls := "HoopCabinet$Notes", name := "ahead", desc := "(I)I" } : Jvm.MethodName)) ∈ lw_tbl := List.mem_append_right _ (List.mem_of_getElem? (i := 827) (by decide +kernel))
theorem k_829 : (Jvm.Cond.methodLink "HoopCabinet$Notes" (66 : Nat) ({ cls := "HoopCabinet$Notes", name := "behind", desc := "(I)I" } : Jvm.MethodName)) ∈ lw_tbl := List.mem_append_right _ (List.mem_of_getElem? (i := 829) (by decide +kernel))
theorem k_993 : (Jvm.Cond.code ({ cls := "HoopCabinet$House", name := "tally", desc := "(LHoopCabinet$Ball;)V" } : Jvm.MethodName) prog_5_method_2_code (3 : Nat) (Option.none : Option Jvm.ClassFile.FieldType)) ∈ lw_tbl := List.mem_append_right _ (List.mem_of_getElem? (i := 993) (by decide +kernel))
theorem k_990 : (Jvm.Cond.methodLink "HoopCabinet" (311 : Nat) ({ cls := "HoopCabinet$House", name := "tally", desc := "(LHoopCabinet$Ball;)V" } : Jvm.MethodName)) ∈ lw_tbl := List.mem_append_right _ (List.mem_of_getElem? (i := 990) (by decide +kernel))
theorem k_991 : (Jvm.Cond.instanceMethod ({ cls := "HoopCabinet$House", name := "tally", desc := "(LHoopCabinet$Ball;)V" } : Jvm.MethodName)) ∈ lw_tbl := List.mem_append_right _ (List.mem_of_getElem? (i := 991) (by decide +kernel))
theorem k_992 : (Jvm.Cond.selects "HoopCabinet$House" ({ cls := "HoopCabinet$House", name := "tally", desc := "(LHoopCabinet$Ball;)V" } : Jvm.MethodName) ({ cls := "HoopCabinet$House", name := "tally", desc := "(LHoopCabinet$Ball;)V" } : Jvm.MethodName)) ∈ lw_tbl := List.mem_append_right _ (List.mem_of_getElem? (i := 992) (by decide +kernel))
theorem k_88 : (Jvm.Cond.fieldLinkNest "HoopCabinet$House" (15 : Nat) "HoopCabinet$Ball" "ladies" "LHoopCabinet$Table;" "HoopCabinet") ∈ lw_tbl := List.mem_append_right _ (List.mem_of_getElem? (i := 88) (by decide +kernel))
theorem k_48 : (Jvm.Cond.fieldLinkNest "HoopCabinet$House" (21 : Nat) "HoopCabinet$Table" "rows" "I" "HoopCabinet") ∈ lw_tbl := List.mem_append_right _ (List.mem_of_getElem? (i := 48) (by decide +kernel))
theorem k_275 : (Jvm.Cond.fieldLink "HoopCabinet$House" (27 : Nat) "HoopCabinet$House" "ladies" "I") ∈ lw_tbl := List.mem_append_right _ (List.mem_of_getElem? (i := 275) (by decide +kernel))
theorem k_276 : (Jvm.Cond.fieldLink "HoopCabinet$House" (29 : Nat) "HoopCabinet$House" "total" "I") ∈ lw_tbl := List.mem_append_right _ (List.mem_of_getElem? (i := 276) (by decide +kernel))
theorem k_994 : (Jvm.Cond.methodLink "HoopCabinet$House" (32 : Nat) ({ cls := "HoopCabinet$Ball", name := "seatsUnder", desc := "(I)I" } : Jvm.MethodName)) ∈ lw_tbl := List.mem_append_right _ (List.mem_of_getElem? (i := 994) (by decide +kernel))
theorem k_1019 : (Jvm.Cond.code ({ cls := "HoopCabinet$House", name := "powerOf", desc := "(I)I" } : Jvm.MethodName) prog_5_method_7_code (4 : Nat) (Option.some Jvm.ClassFile.FieldType.int)) ∈ lw_tbl := List.mem_append_right _ (List.mem_of_getElem? (i := 1019) (by decide +kernel))
theorem k_1016 : (Jvm.Cond.methodLink "HoopCabinet" (317 : Nat) ({ cls := "HoopCabinet$House", name := "powerOf", desc := "(I)I" } : Jvm.MethodName)) ∈ lw_tbl := List.mem_append_right _ (List.mem_of_getElem? (i := 1016) (by decide +kernel))
theorem k_1017 : (Jvm.Cond.instanceMethod ({ cls := "HoopCabinet$House", name := "powerOf", desc := "(I)I" } : Jvm.MethodName)) ∈ lw_tbl := List.mem_append_right _ (List.mem_of_getElem? (i := 1017) (by decide +kernel))
theorem k_1018 : (Jvm.Cond.selects "HoopCabinet$House" ({ cls := "HoopCabinet$House", name := "powerOf", desc := "(I)I" } : Jvm.MethodName) ({ cls := "HoopCabinet$House", name := "powerOf", desc := "(I)I" } : Jvm.MethodName)) ∈ lw_tbl := List.mem_append_right _ (List.mem_of_getElem? (i := 1018) (by decide +kernel))
theorem k_1003 : (Jvm.Cond.methodLinkNest "HoopCabinet$House" (35 : Nat) ({ cls := "HoopCabinet", name := "hasBit", desc := "(II)Z" } : Jvm.MethodName) "HoopCabinet") ∈ lw_tbl := List.mem_append_right _ (List.mem_of_getElem? (i := 1003) (by decide +kernel))
theorem k_998 : (Jvm.Cond.code ({ cls := "HoopCabinet$House", name := "isMajority", desc := "(I)Z" } : Jvm.MethodName) prog_5_method_5_code (2 : Nat) (Option.some Jvm.ClassFile.FieldType.boolean)) ∈ lw_tbl := List.mem_append_right _ (List.mem_of_getElem? (i := 998) (by decide +kernel))
theorem k_1020 : (Jvm.Cond.methodLink "HoopCabinet$House" (46 : Nat) ({ cls := "HoopCabinet$House", name := "isMajority", desc := "(I)Z" } : Jvm.MethodName)) ∈ lw_tbl := List.mem_append_right _ (List.mem_of_getElem? (i := 1020) (by decide +kernel))
theorem k_996 : (Jvm.Cond.instanceMethod ({ cls := "HoopCabinet$House", name := "isMajority", desc := "(I)Z" } : Jvm.MethodName)) ∈ lw_tbl := List.mem_append_right _ (List.mem_of_getElem? (i := 996) (by decide +kernel))
theorem k_997 : (Jvm.Cond.selects "HoopCabinet$House" ({ cls := "HoopCabinet$House", name := "isMajority", desc := "(I)Z" } : Jvm.MethodName) ({ cls := "HoopCabinet$House", name := "isMajority", desc := "(I)Z" } : Jvm.MethodName)) ∈ lw_tbl := List.mem_append_right _ (List.mem_of_getElem? (i := 997) (by decide +kernel))
theorem k_1002 : (Jvm.Cond.code ({ cls := "HoopCabinet$House", name := "seatsOf", desc := "(I)I" } : Jvm.MethodName) prog_5_method_3_code (4 : Nat) (Option.some Jvm.ClassFile.FieldType.int)) ∈ lw_tbl := List.mem_append_right _ (List.mem_of_getElem? (i := 1002) (by decide +kernel))
theorem k_999 : (Jvm.Cond.methodLink "HoopCabinet$House" (39 : Nat) ({ cls := "HoopCabinet$House", name := "seatsOf", desc := "(I)I" } : Jvm.MethodName)) ∈ lw_tbl := List.mem_append_right _ (List.mem_of_getElem? (i := 999) (by decide +kernel))
theorem k_1000 : (Jvm.Cond.instanceMethod ({ cls := "HoopCabinet$House", name := "seatsOf", desc := "(I)I" } : Jvm.MethodName)) ∈ lw_tbl := List.mem_append_right _ (List.mem_of_getElem? (i := 1000) (by decide +kernel))
theorem k_1001 : (Jvm.Cond.selects "HoopCabinet$House" ({ cls := "HoopCabinet$House", name := "seatsOf", desc := "(I)I" } : Jvm.MethodName) ({ cls := "HoopCabinet$House", name := "seatsOf", desc := "(I)I" } : Jvm.MethodName)) ∈ lw_tbl := List.mem_append_right _ (List.mem_of_getElem? (i := 1001) (by decide +kernel))
theorem k_1007 : (Jvm.Cond.code ({ cls := "HoopCabinet$House", name := "isMoreThanHalf", desc := "(I)Z" } : Jvm.MethodName) prog_5_method_4_code (2 : Nat) (Option.some Jvm.ClassFile.FieldType.boolean)) ∈ lw_tbl := List.mem_append_right _ (List.mem_of_getElem? (i := 1007) (by decide +kernel))
theorem k_1004 : (Jvm.Cond.methodLink "HoopCabinet$House" (42 : Nat) ({ cls := "HoopCabinet$House", name := "isMoreThanHalf", desc := "(I)Z" } : Jvm.MethodName)) ∈ lw_tbl := List.mem_append_right _ (List.mem_of_getElem? (i := 1004) (by decide +kernel))
theorem k_1005 : (Jvm.Cond.instanceMethod ({ cls := "HoopCabinet$House", name := "isMoreThanHalf", desc := "(I)Z" } : Jvm.MethodName)) ∈ lw_tbl := List.mem_append_right _ (List.mem_of_getElem? (i := 1005) (by decide +kernel))
theorem k_1006 : (Jvm.Cond.selects "HoopCabinet$House" ({ cls := "HoopCabinet$House", name := "isMoreThanHalf", desc := "(I)Z" } : Jvm.MethodName) ({ cls := "HoopCabinet$House", name := "isMoreThanHalf", desc := "(I)Z" } : Jvm.MethodName)) ∈ lw_tbl := List.mem_append_right _ (List.mem_of_getElem? (i := 1006) (by decide +kernel))
theorem k_988 : (Jvm.Cond.code ({ cls := "HoopCabinet$Ball", name := "hasSet", desc := "(I)Z" } : Jvm.MethodName) prog_2_method_8_code (2 : Nat) (Option.some Jvm.ClassFile.FieldType.boolean)) ∈ lw_tbl := List.mem_append_right _ (List.mem_of_getElem? (i := 988) (by decide +kernel))
theorem k_985 : (Jvm.Cond.methodLink "HoopCabinet" (308 : Nat) ({ cls := "HoopCabinet$Ball", name := "hasSet", desc := "(I)Z" } : Jvm.MethodName)) ∈ lw_tbl := List.mem_append_right _ (List.mem_of_getElem? (i := 985) (by decide +kernel))
theorem k_986 : (Jvm.Cond.instanceMethod ({ cls := "HoopCabinet$Ball", name := "hasSet", desc := "(I)Z" } : Jvm.MethodName)) ∈ lw_tbl := List.mem_append_right _ (List.mem_of_getElem? (i := 986) (by decide +kernel))
theorem k_987 : (Jvm.Cond.selects "HoopCabinet$Ball" ({ cls := "HoopCabinet$Ball", name := "hasSet", desc := "(I)Z" } : Jvm.MethodName) ({ cls := "HoopCabinet$Ball", name := "hasSet", desc := "(I)Z" } : Jvm.MethodName)) ∈ lw_tbl := List.mem_append_right _ (List.mem_of_getElem? (i := 987) (by decide +kernel))
theorem k_850 : (Jvm.Cond.code ({ cls := "HoopCabinet$Ball", name := "everybody", desc := "()I" } : Jvm.MethodName) prog_2_method_9_code (1 : Nat) (Option.some Jvm.ClassFile.FieldType.int)) ∈ lw_tbl := List.mem_append_right _ (List.mem_of_getElem? (i := 850) (by decide +kernel))
theorem k_989 : (Jvm.Cond.methodLink "HoopCabinet$Ball" (63 : Nat) ({ cls := "HoopCabinet$Ball", name := "everybody", desc := "()I" } : Jvm.MethodName)) ∈ lw_tbl := List.mem_append_right _ (List.mem_of_getElem? (i := 989) (by decide +kernel))
theorem k_848 : (Jvm.Cond.instanceMethod ({ cls := "HoopCabinet$Ball", name := "everybody", desc := "()I" } : Jvm.MethodName)) ∈ lw_tbl := List.mem_append_right _ (List.mem_of_getElem? (i := 848) (by decide +kernel))
theorem k_849 : (Jvm.Cond.selects "HoopCabinet$Ball" ({ cls := "HoopCabinet$Ball", name := "everybody", desc := "()I" } : Jvm.MethodName) ({ cls := "HoopCabinet$Ball", name := "everybody", desc := "()I" } : Jvm.MethodName)) ∈ lw_tbl := List.mem_append_right _ (List.mem_of_getElem? (i := 849) (by decide +kernel))
theorem k_847 : (Jvm.Cond.methodLink "HoopCabinet" (240 : Nat) ({ cls := "HoopCabinet$Ball", name := "everybody", desc := "()I" } : Jvm.MethodName)) ∈ lw_tbl := List.mem_append_right _ (List.mem_of_getElem? (i := 847) (by decide +kernel))
theorem k_995 : (Jvm.Cond.methodLink "HoopCabinet" (314 : Nat) ({ cls := "HoopCabinet$House", name := "isMajority", desc := "(I)Z" } : Jvm.MethodName)) ∈ lw_tbl := List.mem_append_right _ (List.mem_of_getElem? (i := 995) (by decide +kernel))
theorem k_838 : (Jvm.Cond.methodLink "HoopCabinet" (237 : Nat) ({ cls := "HoopCabinet$Notes", name := "gotAt", desc := "(I)I" } : Jvm.MethodName)) ∈ lw_tbl := List.mem_append_right _ (List.mem_of_getElem? (i := 838) (by decide +kernel))
theorem k_874 : (Jvm.Cond.code ({ cls := "HoopCabinet$Carrier", name := "prepare", desc := "(LHoopCabinet$Floor;LHoopCabinet$Notes;II)V" } : Jvm.MethodName) prog_3_method_2_code (6 : Nat) (Option.none : Option Jvm.ClassFile.FieldType)) ∈ lw_tbl := List.mem_append_right _ (List.mem_of_getElem? (i := 874) (by decide +kernel))
theorem k_871 : (Jvm.Cond.methodLink "HoopCabinet" (243 : Nat) ({ cls := "HoopCabinet$Carrier", name := "prepare", desc := "(LHoopCabinet$Floor;LHoopCabinet$Notes;II)V" } : Jvm.MethodName)) ∈ lw_tbl := List.mem_append_right _ (List.mem_of_getElem? (i := 871) (by decide +kernel))
theorem k_872 : (Jvm.Cond.instanceMethod ({ cls := "HoopCabinet$Carrier", name := "prepare", desc := "(LHoopCabinet$Floor;LHoopCabinet$Notes;II)V" } : Jvm.MethodName)) ∈ lw_tbl := List.mem_append_right _ (List.mem_of_getElem? (i := 872) (by decide +kernel))
theorem k_873 : (Jvm.Cond.selects "HoopCabinet$Carrier" ({ cls := "HoopCabinet$Carrier", name := "prepare", desc := "(LHoopCabinet$Floor;LHoopCabinet$Notes;II)V" } : Jvm.MethodName) ({ cls := "HoopCabinet$Carrier", name := "prepare", desc := "(LHoopCabinet$Floor;LHoopCabinet$Notes;II)V" } : Jvm.MethodName)) ∈ lw_tbl := List.mem_append_right _ (List.mem_of_getElem? (i := 873) (by decide +kernel))
theorem k_246 : (Jvm.Cond.fieldLink "HoopCabinet$Carrier" (21 : Nat) "HoopCabinet$Carrier" "lady" "I") ∈ lw_tbl := List.mem_append_right _ (List.mem_of_getElem? (i := 246) (by decide +kernel))
theorem k_247 : (Jvm.Cond.fieldLink "HoopCabinet$Carrier" (25 : Nat) "HoopCabinet$Carrier" "other" "I") ∈ lw_tbl := List.mem_append_right _ (List.mem_of_getElem? (i := 247) (by decide +kernel))
theorem k_220 : (Jvm.Cond.fieldLinkNest "HoopCabinet$Carrier" (28 : Nat) "HoopCabinet$Notes" "dances" "I" "HoopCabinet") ∈ lw_tbl := List.mem_append_right _ (List.mem_of_getElem? (i := 220) (by decide +kernel))
theorem k_248 : (Jvm.Cond.fieldLink "HoopCabinet$Carrier" (33 : Nat) "HoopCabinet$Carrier" "dances" "I") ∈ lw_tbl := List.mem_append_right _ (List.mem_of_getElem? (i := 248) (by decide +kernel))
theorem k_875 : (Jvm.Cond.methodLink "HoopCabinet$Carrier" (34 : Nat) ({ cls := "HoopCabinet$Notes", name := "ahead", desc := "(I)I" } : Jvm.MethodName)) ∈ lw_tbl := List.mem_append_right _ (List.mem_of_getElem? (i := 875) (by decide +kernel))
theorem k_878 : (Jvm.Cond.code ({ cls := "HoopCabinet$Carrier", name := "roomsOf", desc := "(LHoopCabinet$Floor;II)I" } : Jvm.MethodName) prog_3_method_3_code (5 : Nat) (Option.some Jvm.ClassFile.FieldType.int)) ∈ lw_tbl := List.mem_append_right _ (List.mem_of_getElem? (i := 878) (by decide +kernel))
theorem k_876 : (Jvm.Cond.methodLink "HoopCabinet$Carrier" (38 : Nat) ({ cls := "HoopCabinet$Carrier", name := "roomsOf", desc := "(LHoopCabinet$Floor;II)I" } : Jvm.MethodName)) ∈ lw_tbl := List.mem_append_right _ (List.mem_of_getElem? (i := 876) (by decide +kernel))
theorem k_877 : (Jvm.Cond.static ({ cls := "HoopCabinet$Carrier", name := "roomsOf", desc := "(LHoopCabinet$Floor;II)I" } : Jvm.MethodName)) ∈ lw_tbl := List.mem_append_right _ (List.mem_of_getElem? (i := 877) (by decide +kernel))
theorem k_879 : (Jvm.Cond.methodLinkNest "HoopCabinet$Carrier" (51 : Nat) ({ cls := "HoopCabinet", name := "hasBit", desc := "(II)Z" } : Jvm.MethodName) "HoopCabinet") ∈ lw_tbl := List.mem_append_right _ (List.mem_of_getElem? (i := 879) (by decide +kernel))
theorem k_880 : (Jvm.Cond.methodLink "HoopCabinet$Carrier" (45 : Nat) ({ cls := "HoopCabinet$Floor", name := "placeOf", desc := "(II)I" } : Jvm.MethodName)) ∈ lw_tbl := List.mem_append_right _ (List.mem_of_getElem? (i := 880) (by decide +kernel))
theorem k_222 : (Jvm.Cond.fieldLinkNest "HoopCabinet$Carrier" (42 : Nat) "HoopCabinet$Notes" "first" "I" "HoopCabinet") ∈ lw_tbl := List.mem_append_right _ (List.mem_of_getElem? (i := 222) (by decide +kernel))
theorem k_249 : (Jvm.Cond.fieldLink "HoopCabinet$Carrier" (55 : Nat) "HoopCabinet$Carrier" "startsWithIt" "Z") ∈ lw_tbl := List.mem_append_right _ (List.mem_of_getElem? (i := 249) (by decide +kernel))
theorem k_250 : (Jvm.Cond.fieldLink "HoopCabinet$Carrier" (59 : Nat) "HoopCabinet$Carrier" "givesAtOnce" "Z") ∈ lw_tbl := List.mem_append_right _ (List.mem_of_getElem? (i := 250) (by decide +kernel))
theorem k_884 : (Jvm.Cond.code ({ cls := "HoopCabinet$Carrier", name := "soonest", desc := "(LHoopCabinet$Floor;)I" } : Jvm.MethodName) prog_3_method_4_code (4 : Nat) (Option.some Jvm.ClassFile.FieldType.int)) ∈ lw_tbl := List.mem_append_right _ (List.mem_of_getElem? (i := 884) (by decide +kernel))
theorem k_881 : (Jvm.Cond.methodLink "HoopCabinet" (246 : Nat) ({ cls := "HoopCabinet$Carrier", name := "soonest", desc := "(LHoopCabinet$Floor;)I" } : Jvm.MethodName)) ∈ lw_tbl := List.mem_append_right _ (List.mem_of_getElem? (i := 881) (by decide +kernel))
theorem k_882 : (Jvm.Cond.instanceMethod ({ cls := "HoopCabinet$Carrier", name := "soonest", desc := "(LHoopCabinet$Floor;)I" } : Jvm.MethodName)) ∈ lw_tbl := List.mem_append_right _ (List.mem_of_getElem? (i := 882) (by decide +kernel))
theorem k_883 : (Jvm.Cond.selects "HoopCabinet$Carrier" ({ cls := "HoopCabinet$Carrier", name := "soonest", desc := "(LHoopCabinet$Floor;)I" } : Jvm.MethodName) ({ cls := "HoopCabinet$Carrier", name := "soonest", desc := "(LHoopCabinet$Floor;)I" } : Jvm.MethodName)) ∈ lw_tbl := List.mem_append_right _ (List.mem_of_getElem? (i := 883) (by decide +kernel))
theorem k_888 : (Jvm.Cond.code ({ cls := "HoopCabinet$Carrier", name := "lookBack", desc := "(LHoopCabinet$Floor;I)V" } : Jvm.MethodName) prog_3_method_5_code (4 : Nat) (Option.none : Option Jvm.ClassFile.FieldType)) ∈ lw_tbl := List.mem_append_right _ (List.mem_of_getElem? (i := 888) (by decide +kernel))
theorem k_885 : (Jvm.Cond.methodLink "HoopCabinet$Carrier" (62 : Nat) ({ cls := "HoopCabinet$Carrier", name := "lookBack", desc := "(LHoopCabinet$Floor;I)V" } : Jvm.MethodName)) ∈ lw_tbl := List.mem_append_right _ (List.mem_of_getElem? (i := 885) (by decide +kernel))
theorem k_887 : (Jvm.Cond.instanceMethod ({ cls := "HoopCabinet$Carrier", name := "lookBack", desc := "(LHoopCabinet$Floor;I)V" } : Jvm.MethodName)) ∈ lw_tbl := List.mem_append_right _ (List.mem_of_getElem? (i := 887) (by decide +kernel))
theorem ks_27 : Cond.selects "HoopCabinet$Carrier" ({ cls := "HoopCabinet$Carrier", name := "lookBack", desc := "(LHoopCabinet$Floor;I)V" } : Jvm.MethodName) ({ cls := "HoopCabinet$Carrier", name := "lookBack", desc := "(LHoopCabinet$Floor;I)V" } : Jvm.MethodName) ∈ lw_tbl := List.mem_append_left _ (List.mem_of_getElem? (i := 27) (by decide +kernel))
theorem k_889 : (Jvm.Cond.methodLink "HoopCabinet$Carrier" (66 : Nat) ({ cls := "HoopCabinet$Floor", name := "spread", desc := "(II)I" } : Jvm.MethodName)) ∈ lw_tbl := List.mem_append_right _ (List.mem_of_getElem? (i := 889) (by decide +kernel))
theorem k_893 : (Jvm.Cond.code ({ cls := "HoopCabinet$Carrier", name := "goodWithout", desc := "(II)I" } : Jvm.MethodName) prog_3_method_6_code (4 : Nat) (Option.some Jvm.ClassFile.FieldType.int)) ∈ lw_tbl := List.mem_append_right _ (List.mem_of_getElem? (i := 893) (by decide +kernel))
theorem k_890 : (Jvm.Cond.methodLink "HoopCabinet$Carrier" (69 : Nat) ({ cls := "HoopCabinet$Carrier", name := "goodWithout", desc := "(II)I" } : Jvm.MethodName)) ∈ lw_tbl := List.mem_append_right _ (List.mem_of_getElem? (i := 890) (by decide +kernel))
theorem k_892 : (Jvm.Cond.instanceMethod ({ cls := "HoopCabinet$Carrier", name := "goodWithout", desc := "(II)I" } : Jvm.MethodName)) ∈ lw_tbl := List.mem_append_right _ (List.mem_of_getElem? (i := 892) (by decide +kernel))
theorem ks_28 : Cond.selects "HoopCabinet$Carrier" ({ cls := "HoopCabinet$Carrier", name := "goodWithout", desc := "(II)I" } : Jvm.MethodName) ({ cls := "HoopCabinet$Carrier", name := "goodWithout", desc := "(II)I" } : Jvm.MethodName) ∈ lw_tbl := List.mem_append_left _ (List.mem_of_getElem? (i := 28) (by decide +kernel))
theorem k_870 : (Jvm.Cond.code ({ cls := "HoopCabinet", name := "carry", desc := "(III)I" } : Jvm.MethodName) prog_1_method_43_code (4 : Nat) (Option.some Jvm.ClassFile.FieldType.int)) ∈ lw_tbl := List.mem_append_right _ (List.mem_of_getElem? (i := 870) (by decide +kernel))
theorem k_898 : (Jvm.Cond.methodLink "HoopCabinet" (250 : Nat) ({ cls := "HoopCabinet", name := "carry", desc := "(III)I" } : Jvm.MethodName)) ∈ lw_tbl := List.mem_append_right _ (List.mem_of_getElem? (i := 898) (by decide +kernel))
theorem k_868 : (Jvm.Cond.instanceMethod ({ cls := "HoopCabinet", name := "carry", desc := "(III)I" } : Jvm.MethodName)) ∈ lw_tbl := List.mem_append_right _ (List.mem_of_getElem? (i := 868) (by decide +kernel))
theorem k_869 : (Jvm.Cond.selects "HoopCabinet" ({ cls := "HoopCabinet", name := "carry", desc := "(III)I" } : Jvm.MethodName) ({ cls := "HoopCabinet", name := "carry", desc := "(III)I" } : Jvm.MethodName)) ∈ lw_tbl := List.mem_append_right _ (List.mem_of_getElem? (i := 869) (by decide +kernel))
theorem k_902 : (Jvm.Cond.code ({ cls := "HoopCabinet$Carrier", name := "roomAt", desc := "(LHoopCabinet$Floor;II)I" } : Jvm.MethodName) prog_3_method_7_code (9 : Nat) (Option.some Jvm.ClassFile.FieldType.int)) ∈ lw_tbl := List.mem_append_right _ (List.mem_of_getElem? (i := 902) (by decide +kernel))
theorem k_899 : (Jvm.Cond.methodLink "HoopCabinet" (253 : Nat) ({ cls := "HoopCabinet$Carrier", name := "roomAt", desc := "(LHoopCabinet$Floor;II)I" } : Jvm.MethodName)) ∈ lw_tbl := List.mem_append_right _ (List.mem_of_getElem? (i := 899) (by decide +kernel))
theorem k_900 : (Jvm.Cond.instanceMethod ({ cls := "HoopCabinet$Carrier", name := "roomAt", desc := "(LHoopCabinet$Floor;II)I" } : Jvm.MethodName)) ∈ lw_tbl := List.mem_append_right _ (List.mem_of_getElem? (i := 900) (by decide +kernel))
theorem k_901 : (Jvm.Cond.selects "HoopCabinet$Carrier" ({ cls := "HoopCabinet$Carrier", name := "roomAt", desc := "(LHoopCabinet$Floor;II)I" } : Jvm.MethodName) ({ cls := "HoopCabinet$Carrier", name := "roomAt", desc := "(LHoopCabinet$Floor;II)I" } : Jvm.MethodName)) ∈ lw_tbl := List.mem_append_right _ (List.mem_of_getElem? (i := 901) (by decide +kernel))
theorem k_903 : (Jvm.Cond.methodLink "HoopCabinet$Carrier" (72 : Nat) ({ cls := "HoopCabinet$Floor", name := "stepsFrom", desc := "(II)I" } : Jvm.MethodName)) ∈ lw_tbl := List.mem_append_right _ (List.mem_of_getElem? (i := 903) (by decide +kernel))
theorem k_596 : (Jvm.Cond.code ({ cls := "HoopCabinet", name := "lowest", desc := "(I)I" } : Jvm.MethodName) prog_1_method_96_code (2 : Nat) (Option.some Jvm.ClassFile.FieldType.int)) ∈ lw_tbl := List.mem_append_right _ (List.mem_of_getElem? (i := 596) (by decide +kernel))
theorem k_904 : (Jvm.Cond.methodLinkNest "HoopCabinet$Carrier" (75 : Nat) ({ cls := "HoopCabinet", name := "lowest", desc := "(I)I" } : Jvm.MethodName) "HoopCabinet") ∈ lw_tbl := List.mem_append_right _ (List.mem_of_getElem? (i := 904) (by decide +kernel))
theorem k_595 : (Jvm.Cond.static ({ cls := "HoopCabinet", name := "lowest", desc := "(I)I" } : Jvm.MethodName)) ∈ lw_tbl := List.mem_append_right _ (List.mem_of_getElem? (i := 595) (by decide +kernel))
theorem k_909 : (Jvm.Cond.methodLink "HoopCabinet" (257 : Nat) ({ cls := "HoopCabinet$Table", name := "has", desc := "(I)Z" } : Jvm.MethodName)) ∈ lw_tbl := List.mem_append_right _ (List.mem_of_getElem? (i := 909) (by decide +kernel))
theorem k_546 : (Jvm.Cond.code ({ cls := "HoopCabinet$Floor", name := "settle", desc := "(LHoopCabinet$Ball;II)V" } : Jvm.MethodName) prog_4_method_2_code (5 : Nat) (Option.none : Option Jvm.ClassFile.FieldType)) ∈ lw_tbl := List.mem_append_right _ (List.mem_of_getElem? (i := 546) (by decide +kernel))
theorem k_543 : (Jvm.Cond.methodLink "HoopCabinet" (116 : Nat) ({ cls := "HoopCabinet$Floor", name := "settle", desc := "(LHoopCabinet$Ball;II)V" } : Jvm.MethodName)) ∈ lw_tbl := List.mem_append_right _ (List.mem_of_getElem? (i := 543) (by decide +kernel))
theorem k_544 : (Jvm.Cond.instanceMethod ({ cls := "HoopCabinet$Floor", name := "settle", desc := "(LHoopCabinet$Ball;II)V" } : Jvm.MethodName)) ∈ lw_tbl := List.mem_append_right _ (List.mem_of_getElem? (i := 544) (by decide +kernel))
theorem k_545 : (Jvm.Cond.selects "HoopCabinet$Floor" ({ cls := "HoopCabinet$Floor", name := "settle", desc := "(LHoopCabinet$Ball;II)V" } : Jvm.MethodName) ({ cls := "HoopCabinet$Floor", name := "settle", desc := "(LHoopCabinet$Ball;II)V" } : Jvm.MethodName)) ∈ lw_tbl := List.mem_append_right _ (List.mem_of_getElem? (i := 545) (by decide +kernel))
theorem k_550 : (Jvm.Cond.code ({ cls := "HoopCabinet$Floor", name := "openDoors", desc := "(LHoopCabinet$Ball;II)V" } : Jvm.MethodName) prog_4_method_3_code (6 : Nat) (Option.none : Option Jvm.ClassFile.FieldType)) ∈ lw_tbl := List.mem_append_right _ (List.mem_of_getElem? (i := 550) (by decide +kernel))
theorem k_547 : (Jvm.Cond.methodLink "HoopCabinet$Floor" (27 : Nat) ({ cls := "HoopCabinet$Floor", name := "openDoors", desc := "(LHoopCabinet$Ball;II)V" } : Jvm.MethodName)) ∈ lw_tbl := List.mem_append_right _ (List.mem_of_getElem? (i := 547) (by decide +kernel))
theorem k_548 : (Jvm.Cond.instanceMethod ({ cls := "HoopCabinet$Floor", name := "openDoors", desc := "(LHoopCabinet$Ball;II)V" } : Jvm.MethodName)) ∈ lw_tbl := List.mem_append_right _ (List.mem_of_getElem? (i := 548) (by decide +kernel))
theorem k_549 : (Jvm.Cond.selects "HoopCabinet$Floor" ({ cls := "HoopCabinet$Floor", name := "openDoors", desc := "(LHoopCabinet$Ball;II)V" } : Jvm.MethodName) ({ cls := "HoopCabinet$Floor", name := "openDoors", desc := "(LHoopCabinet$Ball;II)V" } : Jvm.MethodName)) ∈ lw_tbl := List.mem_append_right _ (List.mem_of_getElem? (i := 549) (by decide +kernel))
theorem k_89 : (Jvm.Cond.fieldLinkNest "HoopCabinet$Floor" (39 : Nat) "HoopCabinet$Ball" "ladies" "LHoopCabinet$Table;" "HoopCabinet") ∈ lw_tbl := List.mem_append_right _ (List.mem_of_getElem? (i := 89) (by decide +kernel))
theorem k_49 : (Jvm.Cond.fieldLinkNest "HoopCabinet$Floor" (57 : Nat) "HoopCabinet$Table" "rows" "I" "HoopCabinet") ∈ lw_tbl := List.mem_append_right _ (List.mem_of_getElem? (i := 49) (by decide +kernel))
theorem k_68 : (Jvm.Cond.fieldLinkNest "HoopCabinet$Floor" (60 : Nat) "HoopCabinet$Ball" "rooms" "I" "HoopCabinet") ∈ lw_tbl := List.mem_append_right _ (List.mem_of_getElem? (i := 68) (by decide +kernel))
theorem k_73 : (Jvm.Cond.fieldLinkNest "HoopCabinet$Floor" (64 : Nat) "HoopCabinet$Ball" "dances" "I" "HoopCabinet") ∈ lw_tbl := List.mem_append_right _ (List.mem_of_getElem? (i := 73) (by decide +kernel))
theorem k_83 : (Jvm.Cond.fieldLinkNest "HoopCabinet$Floor" (68 : Nat) "HoopCabinet$Ball" "doors" "LHoopCabinet$Table;" "HoopCabinet") ∈ lw_tbl := List.mem_append_right _ (List.mem_of_getElem? (i := 83) (by decide +kernel))
theorem k_558 : (Jvm.Cond.code ({ cls := "HoopCabinet$Floor", name := "openDoor", desc := "(LHoopCabinet$Ball;II)V" } : Jvm.MethodName) prog_4_method_4_code (7 : Nat) (Option.none : Option Jvm.ClassFile.FieldType)) ∈ lw_tbl := List.mem_append_right _ (List.mem_of_getElem? (i := 558) (by decide +kernel))
theorem k_555 : (Jvm.Cond.methodLink "HoopCabinet$Floor" (71 : Nat) ({ cls := "HoopCabinet$Floor", name := "openDoor", desc := "(LHoopCabinet$Ball;II)V" } : Jvm.MethodName)) ∈ lw_tbl := List.mem_append_right _ (List.mem_of_getElem? (i := 555) (by decide +kernel))
theorem k_557 : (Jvm.Cond.instanceMethod ({ cls := "HoopCabinet$Floor", name := "openDoor", desc := "(LHoopCabinet$Ball;II)V" } : Jvm.MethodName)) ∈ lw_tbl := List.mem_append_right _ (List.mem_of_getElem? (i := 557) (by decide +kernel))
theorem ks_17 : Cond.selects "HoopCabinet$Floor" ({ cls := "HoopCabinet$Floor", name := "openDoor", desc := "(LHoopCabinet$Ball;II)V" } : Jvm.MethodName) ({ cls := "HoopCabinet$Floor", name := "openDoor", desc := "(LHoopCabinet$Ball;II)V" } : Jvm.MethodName) ∈ lw_tbl := List.mem_append_left _ (List.mem_of_getElem? (i := 17) (by decide +kernel))
theorem k_551 : (Jvm.Cond.methodLink "HoopCabinet$Floor" (44 : Nat) ({ cls := "HoopCabinet$Table", name := "cell", desc := "(II)I" } : Jvm.MethodName)) ∈ lw_tbl := List.mem_append_right _ (List.mem_of_getElem? (i := 551) (by decide +kernel))
theorem k_559 : (Jvm.Cond.methodLink "HoopCabinet$Floor" (74 : Nat) ({ cls := "HoopCabinet$Ball", name := "hasRoom", desc := "(I)Z" } : Jvm.MethodName)) ∈ lw_tbl := List.mem_append_right _ (List.mem_of_getElem? (i := 559) (by decide +kernel))
theorem k_566 : (Jvm.Cond.code ({ cls := "HoopCabinet$Floor", name := "hearBids", desc := "(LHoopCabinet$Ball;)V" } : Jvm.MethodName) prog_4_method_5_code (3 : Nat) (Option.none : Option Jvm.ClassFile.FieldType)) ∈ lw_tbl := List.mem_append_right _ (List.mem_of_getElem? (i := 566) (by decide +kernel))
theorem k_563 : (Jvm.Cond.methodLink "HoopCabinet$Floor" (31 : Nat) ({ cls := "HoopCabinet$Floor", name := "hearBids", desc := "(LHoopCabinet$Ball;)V" } : Jvm.MethodName)) ∈ lw_tbl := List.mem_append_right _ (List.mem_of_getElem? (i := 563) (by decide +kernel))
theorem k_565 : (Jvm.Cond.instanceMethod ({ cls := "HoopCabinet$Floor", name := "hearBids", desc := "(LHoopCabinet$Ball;)V" } : Jvm.MethodName)) ∈ lw_tbl := List.mem_append_right _ (List.mem_of_getElem? (i := 565) (by decide +kernel))
theorem ks_18 : Cond.selects "HoopCabinet$Floor" ({ cls := "HoopCabinet$Floor", name := "hearBids", desc := "(LHoopCabinet$Ball;)V" } : Jvm.MethodName) ({ cls := "HoopCabinet$Floor", name := "hearBids", desc := "(LHoopCabinet$Ball;)V" } : Jvm.MethodName) ∈ lw_tbl := List.mem_append_left _ (List.mem_of_getElem? (i := 18) (by decide +kernel))
theorem k_569 : (Jvm.Cond.code ({ cls := "java/util/Arrays", name := "fill", desc := "([II)V" } : Jvm.MethodName) prog_19_method_103_code (4 : Nat) (Option.none : Option Jvm.ClassFile.FieldType)) ∈ lw_tbl := List.mem_append_right _ (List.mem_of_getElem? (i := 569) (by decide +kernel))
theorem k_18 : (Jvm.Cond.initialized "java/util/Arrays") ∈ lw_tbl := List.mem_append_right _ (List.mem_of_getElem? (i := 18) (by decide +kernel))
theorem k_567 : (Jvm.Cond.methodLink "HoopCabinet$Floor" (78 : Nat) ({ cls := "java/util/Arrays", name := "fill", desc := "([II)V" } : Jvm.MethodName)) ∈ lw_tbl := List.mem_append_right _ (List.mem_of_getElem? (i := 567) (by decide +kernel))
theorem k_568 : (Jvm.Cond.static ({ cls := "java/util/Arrays", name := "fill", desc := "([II)V" } : Jvm.MethodName)) ∈ lw_tbl := List.mem_append_right _ (List.mem_of_getElem? (i := 568) (by decide +kernel))
theorem k_96 : (Jvm.Cond.fieldLinkNest "HoopCabinet$Floor" (84 : Nat) "HoopCabinet$Ball" "bids" "LHoopCabinet$Table;" "HoopCabinet") ∈ lw_tbl := List.mem_append_right _ (List.mem_of_getElem? (i := 96) (by decide +kernel))
theorem k_100 : (Jvm.Cond.fieldLinkNest "HoopCabinet$Floor" (91 : Nat) "HoopCabinet$Ball" "acts" "LHoopCabinet$Table;" "HoopCabinet") ∈ lw_tbl := List.mem_append_right _ (List.mem_of_getElem? (i := 100) (by decide +kernel))
theorem k_573 : (Jvm.Cond.code ({ cls := "HoopCabinet$Floor", name := "hearBid", desc := "(III)V" } : Jvm.MethodName) prog_4_method_6_code (5 : Nat) (Option.none : Option Jvm.ClassFile.FieldType)) ∈ lw_tbl := List.mem_append_right _ (List.mem_of_getElem? (i := 573) (by decide +kernel))
theorem k_570 : (Jvm.Cond.methodLink "HoopCabinet$Floor" (87 : Nat) ({ cls := "HoopCabinet$Floor", name := "hearBid", desc := "(III)V" } : Jvm.MethodName)) ∈ lw_tbl := List.mem_append_right _ (List.mem_of_getElem? (i := 570) (by decide +kernel))
theorem k_572 : (Jvm.Cond.instanceMethod ({ cls := "HoopCabinet$Floor", name := "hearBid", desc := "(III)V" } : Jvm.MethodName)) ∈ lw_tbl := List.mem_append_right _ (List.mem_of_getElem? (i := 572) (by decide +kernel))
theorem ks_19 : Cond.selects "HoopCabinet$Floor" ({ cls := "HoopCabinet$Floor", name := "hearBid", desc := "(III)V" } : Jvm.MethodName) ({ cls := "HoopCabinet$Floor", name := "hearBid", desc := "(III)V" } : Jvm.MethodName) ∈ lw_tbl := List.mem_append_left _ (List.mem_of_getElem? (i := 19) (by decide +kernel))
theorem k_608 : (Jvm.Cond.code ({ cls := "HoopCabinet$Floor", name := "gather", desc := "()V" } : Jvm.MethodName) prog_4_method_9_code (3 : Nat) (Option.none : Option Jvm.ClassFile.FieldType)) ∈ lw_tbl := List.mem_append_right _ (List.mem_of_getElem? (i := 608) (by decide +kernel))
theorem k_605 : (Jvm.Cond.methodLink "HoopCabinet$Floor" (54 : Nat) ({ cls := "HoopCabinet$Floor", name := "gather", desc := "()V" } : Jvm.MethodName)) ∈ lw_tbl := List.mem_append_right _ (List.mem_of_getElem? (i := 605) (by decide +kernel))
theorem k_606 : (Jvm.Cond.instanceMethod ({ cls := "HoopCabinet$Floor", name := "gather", desc := "()V" } : Jvm.MethodName)) ∈ lw_tbl := List.mem_append_right _ (List.mem_of_getElem? (i := 606) (by decide +kernel))
theorem k_607 : (Jvm.Cond.selects "HoopCabinet$Floor" ({ cls := "HoopCabinet$Floor", name := "gather", desc := "()V" } : Jvm.MethodName) ({ cls := "HoopCabinet$Floor", name := "gather", desc := "()V" } : Jvm.MethodName)) ∈ lw_tbl := List.mem_append_right _ (List.mem_of_getElem? (i := 607) (by decide +kernel))
theorem k_613 : (Jvm.Cond.methodLink "HoopCabinet$Floor" (114 : Nat) ({ cls := "HoopCabinet$Floor", name := "ladiesIn", desc := "(II)I" } : Jvm.MethodName)) ∈ lw_tbl := List.mem_append_right _ (List.mem_of_getElem? (i := 613) (by decide +kernel))
theorem k_577 : (Jvm.Cond.code ({ cls := "HoopCabinet$Floor", name := "goAsBidden", desc := "(II)V" } : Jvm.MethodName) prog_4_method_7_code (5 : Nat) (Option.none : Option Jvm.ClassFile.FieldType)) ∈ lw_tbl := List.mem_append_right _ (List.mem_of_getElem? (i := 577) (by decide +kernel))
theorem k_574 : (Jvm.Cond.methodLink "HoopCabinet$Floor" (50 : Nat) ({ cls := "HoopCabinet$Floor", name := "goAsBidden", desc := "(II)V" } : Jvm.MethodName)) ∈ lw_tbl := List.mem_append_right _ (List.mem_of_getElem? (i := 574) (by decide +kernel))
theorem k_576 : (Jvm.Cond.instanceMethod ({ cls := "HoopCabinet$Floor", name := "goAsBidden", desc := "(II)V" } : Jvm.MethodName)) ∈ lw_tbl := List.mem_append_right _ (List.mem_of_getElem? (i := 576) (by decide +kernel))
theorem ks_20 : Cond.selects "HoopCabinet$Floor" ({ cls := "HoopCabinet$Floor", name := "goAsBidden", desc := "(II)V" } : Jvm.MethodName) ({ cls := "HoopCabinet$Floor", name := "goAsBidden", desc := "(II)V" } : Jvm.MethodName) ∈ lw_tbl := List.mem_append_left _ (List.mem_of_getElem? (i := 20) (by decide +kernel))
theorem k_578 : (Jvm.Cond.methodLink "HoopCabinet$Floor" (94 : Nat) ({ cls := "HoopCabinet$Floor", name := "goalOf", desc := "(II)I" } : Jvm.MethodName)) ∈ lw_tbl := List.mem_append_right _ (List.mem_of_getElem? (i := 578) (by decide +kernel))
theorem k_589 : (Jvm.Cond.code ({ cls := "HoopCabinet$Floor", name := "nextRoom", desc := "(III)I" } : Jvm.MethodName) prog_4_method_8_code (7 : Nat) (Option.some Jvm.ClassFile.FieldType.int)) ∈ lw_tbl := List.mem_append_right _ (List.mem_of_getElem? (i := 589) (by decide +kernel))
theorem k_586 : (Jvm.Cond.methodLink "HoopCabinet$Floor" (97 : Nat) ({ cls := "HoopCabinet$Floor", name := "nextRoom", desc := "(III)I" } : Jvm.MethodName)) ∈ lw_tbl := List.mem_append_right _ (List.mem_of_getElem? (i := 586) (by decide +kernel))
theorem k_588 : (Jvm.Cond.instanceMethod ({ cls := "HoopCabinet$Floor", name := "nextRoom", desc := "(III)I" } : Jvm.MethodName)) ∈ lw_tbl := List.mem_append_right _ (List.mem_of_getElem? (i := 588) (by decide +kernel))
theorem ks_22 : Cond.selects "HoopCabinet$Floor" ({ cls := "HoopCabinet$Floor", name := "nextRoom", desc := "(III)I" } : Jvm.MethodName) ({ cls := "HoopCabinet$Floor", name := "nextRoom", desc := "(III)I" } : Jvm.MethodName) ∈ lw_tbl := List.mem_append_left _ (List.mem_of_getElem? (i := 22) (by decide +kernel))
theorem k_594 : (Jvm.Cond.methodLinkNest "HoopCabinet$Floor" (104 : Nat) ({ cls := "HoopCabinet", name := "lowest", desc := "(I)I" } : Jvm.MethodName) "HoopCabinet") ∈ lw_tbl := List.mem_append_right _ (List.mem_of_getElem? (i := 594) (by decide +kernel))
theorem k_918 : (Jvm.Cond.methodLink "HoopCabinet" (260 : Nat) ({ cls := "HoopCabinet$Floor", name := "openDoors", desc := "(LHoopCabinet$Ball;II)V" } : Jvm.MethodName)) ∈ lw_tbl := List.mem_append_right _ (List.mem_of_getElem? (i := 918) (by decide +kernel))
theorem k_926 : (Jvm.Cond.code ({ cls := "HoopCabinet", name := "seenFault", desc := "(I)I" } : Jvm.MethodName) prog_1_method_51_code (4 : Nat) (Option.some Jvm.ClassFile.FieldType.int)) ∈ lw_tbl := List.mem_append_right _ (List.mem_of_getElem? (i := 926) (by decide +kernel))
theorem k_923 : (Jvm.Cond.methodLink "HoopCabinet" (263 : Nat) ({ cls := "HoopCabinet", name := "seenFault", desc := "(I)I" } : Jvm.MethodName)) ∈ lw_tbl := List.mem_append_right _ (List.mem_of_getElem? (i := 923) (by decide +kernel))
theorem k_925 : (Jvm.Cond.instanceMethod ({ cls := "HoopCabinet", name := "seenFault", desc := "(I)I" } : Jvm.MethodName)) ∈ lw_tbl := List.mem_append_right _ (List.mem_of_getElem? (i := 925) (by decide +kernel))
theorem ks_29 : Cond.selects "HoopCabinet" ({ cls := "HoopCabinet", name := "seenFault", desc := "(I)I" } : Jvm.MethodName) ({ cls := "HoopCabinet", name := "seenFault", desc := "(I)I" } : Jvm.MethodName) ∈ lw_tbl := List.mem_append_left _ (List.mem_of_getElem? (i := 29) (by decide +kernel))
theorem k_929 : (Jvm.Cond.code ({ cls := "HoopCabinet", name := "isSlot", desc := "(I)Z" } : Jvm.MethodName) prog_1_method_92_code (1 : Nat) (Option.some Jvm.ClassFile.FieldType.boolean)) ∈ lw_tbl := List.mem_append_right _ (List.mem_of_getElem? (i := 929) (by decide +kernel))
theorem k_927 : (Jvm.Cond.methodLink "HoopCabinet" (276 : Nat) ({ cls := "HoopCabinet", name := "isSlot", desc := "(I)Z" } : Jvm.MethodName)) ∈ lw_tbl := List.mem_append_right _ (List.mem_of_getElem? (i := 927) (by decide +kernel))
theorem k_928 : (Jvm.Cond.static ({ cls := "HoopCabinet", name := "isSlot", desc := "(I)Z" } : Jvm.MethodName)) ∈ lw_tbl := List.mem_append_right _ (List.mem_of_getElem? (i := 928) (by decide +kernel))
theorem k_933 : (Jvm.Cond.code ({ cls := "HoopCabinet$Slot", name := "isBare", desc := "()Z" } : Jvm.MethodName) prog_9_method_2_code (1 : Nat) (Option.some Jvm.ClassFile.FieldType.boolean)) ∈ lw_tbl := List.mem_append_right _ (List.mem_of_getElem? (i := 933) (by decide +kernel))
theorem k_930 : (Jvm.Cond.methodLink "HoopCabinet" (279 : Nat) ({ cls := "HoopCabinet$Slot", name := "isBare", desc := "()Z" } : Jvm.MethodName)) ∈ lw_tbl := List.mem_append_right _ (List.mem_of_getElem? (i := 930) (by decide +kernel))
theorem k_931 : (Jvm.Cond.instanceMethod ({ cls := "HoopCabinet$Slot", name := "isBare", desc := "()Z" } : Jvm.MethodName)) ∈ lw_tbl := List.mem_append_right _ (List.mem_of_getElem? (i := 931) (by decide +kernel))
theorem k_932 : (Jvm.Cond.selects "HoopCabinet$Slot" ({ cls := "HoopCabinet$Slot", name := "isBare", desc := "()Z" } : Jvm.MethodName) ({ cls := "HoopCabinet$Slot", name := "isBare", desc := "()Z" } : Jvm.MethodName)) ∈ lw_tbl := List.mem_append_right _ (List.mem_of_getElem? (i := 932) (by decide +kernel))
theorem k_169 : (Jvm.Cond.fieldLinkNest "HoopCabinet" (282 : Nat) "HoopCabinet$Slot" "size" "I" "HoopCabinet") ∈ lw_tbl := List.mem_append_right _ (List.mem_of_getElem? (i := 169) (by decide +kernel))
theorem k_937 : (Jvm.Cond.code ({ cls := "HoopCabinet$Slot", name := "cell", desc := "(I)J" } : Jvm.MethodName) prog_9_method_4_code (2 : Nat) (Option.some Jvm.ClassFile.FieldType.long)) ∈ lw_tbl := List.mem_append_right _ (List.mem_of_getElem? (i := 937) (by decide +kernel))
theorem k_934 : (Jvm.Cond.methodLink "HoopCabinet" (285 : Nat) ({ cls := "HoopCabinet$Slot", name := "cell", desc := "(I)J" } : Jvm.MethodName)) ∈ lw_tbl := List.mem_append_right _ (List.mem_of_getElem? (i := 934) (by decide +kernel))
theorem k_935 : (Jvm.Cond.instanceMethod ({ cls := "HoopCabinet$Slot", name := "cell", desc := "(I)J" } : Jvm.MethodName)) ∈ lw_tbl := List.mem_append_right _ (List.mem_of_getElem? (i := 935) (by decide +kernel))
theorem k_936 : (Jvm.Cond.selects "HoopCabinet$Slot" ({ cls := "HoopCabinet$Slot", name := "cell", desc := "(I)J" } : Jvm.MethodName) ({ cls := "HoopCabinet$Slot", name := "cell", desc := "(I)J" } : Jvm.MethodName)) ∈ lw_tbl := List.mem_append_right _ (List.mem_of_getElem? (i := 936) (by decide +kernel))
theorem k_938 : (Jvm.Cond.constantLong "HoopCabinet$Slot" (34 : Nat) (-1 : Int64)) ∈ lw_tbl := List.mem_append_right _ (List.mem_of_getElem? (i := 938) (by decide +kernel))
theorem k_942 : (Jvm.Cond.code ({ cls := "HoopCabinet", name := "isSighting", desc := "(JJJ)Z" } : Jvm.MethodName) prog_1_method_52_code (7 : Nat) (Option.some Jvm.ClassFile.FieldType.boolean)) ∈ lw_tbl := List.mem_append_right _ (List.mem_of_getElem? (i := 942) (by decide +kernel))
theorem k_939 : (Jvm.Cond.methodLink "HoopCabinet" (288 : Nat) ({ cls := "HoopCabinet", name := "isSighting", desc := "(JJJ)Z" } : Jvm.MethodName)) ∈ lw_tbl := List.mem_append_right _ (List.mem_of_getElem? (i := 939) (by decide +kernel))
theorem k_941 : (Jvm.Cond.instanceMethod ({ cls := "HoopCabinet", name := "isSighting", desc := "(JJJ)Z" } : Jvm.MethodName)) ∈ lw_tbl := List.mem_append_right _ (List.mem_of_getElem? (i := 941) (by decide +kernel))
theorem ks_30 : Cond.selects "HoopCabinet" ({ cls := "HoopCabinet", name := "isSighting", desc := "(JJJ)Z" } : Jvm.MethodName) ({ cls := "HoopCabinet", name := "isSighting", desc := "(JJJ)Z" } : Jvm.MethodName) ∈ lw_tbl := List.mem_append_left _ (List.mem_of_getElem? (i := 30) (by decide +kernel))
theorem k_946 : (Jvm.Cond.code ({ cls := "HoopCabinet", name := "possibleFirsts", desc := "(LHoopCabinet$Slot;)I" } : Jvm.MethodName) prog_1_method_53_code (4 : Nat) (Option.some Jvm.ClassFile.FieldType.int)) ∈ lw_tbl := List.mem_append_right _ (List.mem_of_getElem? (i := 946) (by decide +kernel))
theorem k_943 : (Jvm.Cond.methodLink "HoopCabinet" (266 : Nat) ({ cls := "HoopCabinet", name := "possibleFirsts", desc := "(LHoopCabinet$Slot;)I" } : Jvm.MethodName)) ∈ lw_tbl := List.mem_append_right _ (List.mem_of_getElem? (i := 943) (by decide +kernel))
theorem k_945 : (Jvm.Cond.instanceMethod ({ cls := "HoopCabinet", name := "possibleFirsts", desc := "(LHoopCabinet$Slot;)I" } : Jvm.MethodName)) ∈ lw_tbl := List.mem_append_right _ (List.mem_of_getElem? (i := 945) (by decide +kernel))
theorem ks_31 : Cond.selects "HoopCabinet" ({ cls := "HoopCabinet", name := "possibleFirsts", desc := "(LHoopCabinet$Slot;)I" } : Jvm.MethodName) ({ cls := "HoopCabinet", name := "possibleFirsts", desc := "(LHoopCabinet$Slot;)I" } : Jvm.MethodName) ∈ lw_tbl := List.mem_append_left _ (List.mem_of_getElem? (i := 31) (by decide +kernel))
theorem k_950 : (Jvm.Cond.code ({ cls := "HoopCabinet", name := "agrees", desc := "(LHoopCabinet$Slot;)Z" } : Jvm.MethodName) prog_1_method_54_code (4 : Nat) (Option.some Jvm.ClassFile.FieldType.boolean)) ∈ lw_tbl := List.mem_append_right _ (List.mem_of_getElem? (i := 950) (by decide +kernel))
theorem k_947 : (Jvm.Cond.methodLink "HoopCabinet" (292 : Nat) ({ cls := "HoopCabinet", name := "agrees", desc := "(LHoopCabinet$Slot;)Z" } : Jvm.MethodName)) ∈ lw_tbl := List.mem_append_right _ (List.mem_of_getElem? (i := 947) (by decide +kernel))
theorem k_949 : (Jvm.Cond.instanceMethod ({ cls := "HoopCabinet", name := "agrees", desc := "(LHoopCabinet$Slot;)Z" } : Jvm.MethodName)) ∈ lw_tbl := List.mem_append_right _ (List.mem_of_getElem? (i := 949) (by decide +kernel))
theorem ks_32 : Cond.selects "HoopCabinet" ({ cls := "HoopCabinet", name := "agrees", desc := "(LHoopCabinet$Slot;)Z" } : Jvm.MethodName) ({ cls := "HoopCabinet", name := "agrees", desc := "(LHoopCabinet$Slot;)Z" } : Jvm.MethodName) ∈ lw_tbl := List.mem_append_left _ (List.mem_of_getElem? (i := 32) (by decide +kernel))
theorem k_958 : (Jvm.Cond.code ({ cls := "HoopCabinet", name := "bestAsked", desc := "(I)I" } : Jvm.MethodName) prog_1_method_55_code (6 : Nat) (Option.some Jvm.ClassFile.FieldType.int)) ∈ lw_tbl := List.mem_append_right _ (List.mem_of_getElem? (i := 958) (by decide +kernel))
theorem k_955 : (Jvm.Cond.methodLink "HoopCabinet" (270 : Nat) ({ cls := "HoopCabinet", name := "bestAsked", desc := "(I)I" } : Jvm.MethodName)) ∈ lw_tbl := List.mem_append_right _ (List.mem_of_getElem? (i := 955) (by decide +kernel))
theorem k_957 : (Jvm.Cond.instanceMethod ({ cls := "HoopCabinet", name := "bestAsked", desc := "(I)I" } : Jvm.MethodName)) ∈ lw_tbl := List.mem_append_right _ (List.mem_of_getElem? (i := 957) (by decide +kernel))
theorem ks_33 : Cond.selects "HoopCabinet" ({ cls := "HoopCabinet", name := "bestAsked", desc := "(I)I" } : Jvm.MethodName) ({ cls := "HoopCabinet", name := "bestAsked", desc := "(I)I" } : Jvm.MethodName) ∈ lw_tbl := List.mem_append_left _ (List.mem_of_getElem? (i := 33) (by decide +kernel))
theorem k_962 : (Jvm.Cond.code ({ cls := "HoopCabinet", name := "leftAtWorst", desc := "(II)I" } : Jvm.MethodName) prog_1_method_56_code (6 : Nat) (Option.some Jvm.ClassFile.FieldType.int)) ∈ lw_tbl := List.mem_append_right _ (List.mem_of_getElem? (i := 962) (by decide +kernel))
theorem k_959 : (Jvm.Cond.methodLink "HoopCabinet" (273 : Nat) ({ cls := "HoopCabinet", name := "leftAtWorst", desc := "(II)I" } : Jvm.MethodName)) ∈ lw_tbl := List.mem_append_right _ (List.mem_of_getElem? (i := 959) (by decide +kernel))
theorem k_961 : (Jvm.Cond.instanceMethod ({ cls := "HoopCabinet", name := "leftAtWorst", desc := "(II)I" } : Jvm.MethodName)) ∈ lw_tbl := List.mem_append_right _ (List.mem_of_getElem? (i := 961) (by decide +kernel))
theorem ks_34 : Cond.selects "HoopCabinet" ({ cls := "HoopCabinet", name := "leftAtWorst", desc := "(II)I" } : Jvm.MethodName) ({ cls := "HoopCabinet", name := "leftAtWorst", desc := "(II)I" } : Jvm.MethodName) ∈ lw_tbl := List.mem_append_left _ (List.mem_of_getElem? (i := 34) (by decide +kernel))
theorem k_963 : (Jvm.Cond.methodLink "HoopCabinet" (296 : Nat) ({ cls := "java/util/Arrays", name := "fill", desc := "([II)V" } : Jvm.MethodName)) ∈ lw_tbl := List.mem_append_right _ (List.mem_of_getElem? (i := 963) (by decide +kernel))
theorem k_972 : (Jvm.Cond.methodLink "HoopCabinet" (302 : Nat) ({ cls := "HoopCabinet$Ball", name := "seatsUnder", desc := "(I)I" } : Jvm.MethodName)) ∈ lw_tbl := List.mem_append_right _ (List.mem_of_getElem? (i := 972) (by decide +kernel))
theorem k_980 : (Jvm.Cond.code ({ cls := "HoopCabinet$Ball", name := "ministersUnder", desc := "(I)I" } : Jvm.MethodName) prog_2_method_10_code (4 : Nat) (Option.some Jvm.ClassFile.FieldType.int)) ∈ lw_tbl := List.mem_append_right _ (List.mem_of_getElem? (i := 980) (by decide +kernel))
theorem k_977 : (Jvm.Cond.methodLink "HoopCabinet" (305 : Nat) ({ cls := "HoopCabinet$Ball", name := "ministersUnder", desc := "(I)I" } : Jvm.MethodName)) ∈ lw_tbl := List.mem_append_right _ (List.mem_of_getElem? (i := 977) (by decide +kernel))
theorem k_978 : (Jvm.Cond.instanceMethod ({ cls := "HoopCabinet$Ball", name := "ministersUnder", desc := "(I)I" } : Jvm.MethodName)) ∈ lw_tbl := List.mem_append_right _ (List.mem_of_getElem? (i := 978) (by decide +kernel))
theorem k_979 : (Jvm.Cond.selects "HoopCabinet$Ball" ({ cls := "HoopCabinet$Ball", name := "ministersUnder", desc := "(I)I" } : Jvm.MethodName) ({ cls := "HoopCabinet$Ball", name := "ministersUnder", desc := "(I)I" } : Jvm.MethodName)) ∈ lw_tbl := List.mem_append_right _ (List.mem_of_getElem? (i := 979) (by decide +kernel))
theorem k_1035 : (Jvm.Cond.code ({ cls := "HoopCabinet", name := "isPart", desc := "(I)Z" } : Jvm.MethodName) prog_1_method_94_code (1 : Nat) (Option.some Jvm.ClassFile.FieldType.boolean)) ∈ lw_tbl := List.mem_append_right _ (List.mem_of_getElem? (i := 1035) (by decide +kernel))
theorem k_1033 : (Jvm.Cond.methodLink "HoopCabinet" (320 : Nat) ({ cls := "HoopCabinet", name := "isPart", desc := "(I)Z" } : Jvm.MethodName)) ∈ lw_tbl := List.mem_append_right _ (List.mem_of_getElem? (i := 1033) (by decide +kernel))
theorem k_1034 : (Jvm.Cond.static ({ cls := "HoopCabinet", name := "isPart", desc := "(I)Z" } : Jvm.MethodName)) ∈ lw_tbl := List.mem_append_right _ (List.mem_of_getElem? (i := 1034) (by decide +kernel))
theorem k_1036 : (Jvm.Cond.methodLink "HoopCabinet" (323 : Nat) ({ cls := "HoopCabinet$House", name := "seatsOf", desc := "(I)I" } : Jvm.MethodName)) ∈ lw_tbl := List.mem_append_right _ (List.mem_of_getElem? (i := 1036) (by decide +kernel))
theorem k_277 : (Jvm.Cond.fieldLinkNest "HoopCabinet" (326 : Nat) "HoopCabinet$House" "total" "I" "HoopCabinet") ∈ lw_tbl := List.mem_append_right _ (List.mem_of_getElem? (i := 277) (by decide +kernel))
theorem k_1039 : (Jvm.Cond.code ({ cls := "HoopCabinet", name := "lowestTerms", desc := "(JJI)J" } : Jvm.MethodName) prog_1_method_97_code (12 : Nat) (Option.some Jvm.ClassFile.FieldType.long)) ∈ lw_tbl := List.mem_append_right _ (List.mem_of_getElem? (i := 1039) (by decide +kernel))
theorem k_1037 : (Jvm.Cond.methodLink "HoopCabinet" (329 : Nat) ({ cls := "HoopCabinet", name := "lowestTerms", desc := "(JJI)J" } : Jvm.MethodName)) ∈ lw_tbl := List.mem_append_right _ (List.mem_of_getElem? (i := 1037) (by decide +kernel))
theorem k_1038 : (Jvm.Cond.static ({ cls := "HoopCabinet", name := "lowestTerms", desc := "(JJI)J" } : Jvm.MethodName)) ∈ lw_tbl := List.mem_append_right _ (List.mem_of_getElem? (i := 1038) (by decide +kernel))
theorem k_1051 : (Jvm.Cond.code ({ cls := "HoopCabinet$House", name := "isLeastMajority", desc := "(I)Z" } : Jvm.MethodName) prog_5_method_6_code (3 : Nat) (Option.some Jvm.ClassFile.FieldType.boolean)) ∈ lw_tbl := List.mem_append_right _ (List.mem_of_getElem? (i := 1051) (by decide +kernel))
theorem k_1048 : (Jvm.Cond.methodLink "HoopCabinet" (333 : Nat) ({ cls := "HoopCabinet$House", name := "isLeastMajority", desc := "(I)Z" } : Jvm.MethodName)) ∈ lw_tbl := List.mem_append_right _ (List.mem_of_getElem? (i := 1048) (by decide +kernel))
theorem k_1049 : (Jvm.Cond.instanceMethod ({ cls := "HoopCabinet$House", name := "isLeastMajority", desc := "(I)Z" } : Jvm.MethodName)) ∈ lw_tbl := List.mem_append_right _ (List.mem_of_getElem? (i := 1049) (by decide +kernel))
theorem k_1050 : (Jvm.Cond.selects "HoopCabinet$House" ({ cls := "HoopCabinet$House", name := "isLeastMajority", desc := "(I)Z" } : Jvm.MethodName) ({ cls := "HoopCabinet$House", name := "isLeastMajority", desc := "(I)Z" } : Jvm.MethodName)) ∈ lw_tbl := List.mem_append_right _ (List.mem_of_getElem? (i := 1050) (by decide +kernel))
theorem k_1059 : (Jvm.Cond.code ({ cls := "HoopCabinet", name := "makesOneHold", desc := "(I)Z" } : Jvm.MethodName) prog_1_method_68_code (4 : Nat) (Option.some Jvm.ClassFile.FieldType.boolean)) ∈ lw_tbl := List.mem_append_right _ (List.mem_of_getElem? (i := 1059) (by decide +kernel))
theorem k_1056 : (Jvm.Cond.methodLink "HoopCabinet" (336 : Nat) ({ cls := "HoopCabinet", name := "makesOneHold", desc := "(I)Z" } : Jvm.MethodName)) ∈ lw_tbl := List.mem_append_right _ (List.mem_of_getElem? (i := 1056) (by decide +kernel))
theorem k_1058 : (Jvm.Cond.instanceMethod ({ cls := "HoopCabinet", name := "makesOneHold", desc := "(I)Z" } : Jvm.MethodName)) ∈ lw_tbl := List.mem_append_right _ (List.mem_of_getElem? (i := 1058) (by decide +kernel))
theorem ks_35 : Cond.selects "HoopCabinet" ({ cls := "HoopCabinet", name := "makesOneHold", desc := "(I)Z" } : Jvm.MethodName) ({ cls := "HoopCabinet", name := "makesOneHold", desc := "(I)Z" } : Jvm.MethodName) ∈ lw_tbl := List.mem_append_left _ (List.mem_of_getElem? (i := 35) (by decide +kernel))
theorem k_1060 : (Jvm.Cond.methodLink "HoopCabinet" (339 : Nat) ({ cls := "HoopCabinet$House", name := "isMoreThanHalf", desc := "(I)Z" } : Jvm.MethodName)) ∈ lw_tbl := List.mem_append_right _ (List.mem_of_getElem? (i := 1060) (by decide +kernel))
theorem k_1068 : (Jvm.Cond.code ({ cls := "HoopCabinet", name := "isContent", desc := "(IIII)Z" } : Jvm.MethodName) prog_1_method_71_code (5 : Nat) (Option.some Jvm.ClassFile.FieldType.boolean)) ∈ lw_tbl := List.mem_append_right _ (List.mem_of_getElem? (i := 1068) (by decide +kernel))
theorem k_1065 : (Jvm.Cond.methodLink "HoopCabinet" (342 : Nat) ({ cls := "HoopCabinet", name := "isContent", desc := "(IIII)Z" } : Jvm.MethodName)) ∈ lw_tbl := List.mem_append_right _ (List.mem_of_getElem? (i := 1065) (by decide +kernel))
theorem k_1067 : (Jvm.Cond.instanceMethod ({ cls := "HoopCabinet", name := "isContent", desc := "(IIII)Z" } : Jvm.MethodName)) ∈ lw_tbl := List.mem_append_right _ (List.mem_of_getElem? (i := 1067) (by decide +kernel))
theorem ks_36 : Cond.selects "HoopCabinet" ({ cls := "HoopCabinet", name := "isContent", desc := "(IIII)Z" } : Jvm.MethodName) ({ cls := "HoopCabinet", name := "isContent", desc := "(IIII)Z" } : Jvm.MethodName) ∈ lw_tbl := List.mem_append_left _ (List.mem_of_getElem? (i := 36) (by decide +kernel))
theorem k_1072 : (Jvm.Cond.code ({ cls := "HoopCabinet", name := "gainOf", desc := "(IIII)I" } : Jvm.MethodName) prog_1_method_72_code (5 : Nat) (Option.some Jvm.ClassFile.FieldType.int)) ∈ lw_tbl := List.mem_append_right _ (List.mem_of_getElem? (i := 1072) (by decide +kernel))
theorem k_1069 : (Jvm.Cond.methodLink "HoopCabinet" (346 : Nat) ({ cls := "HoopCabinet", name := "gainOf", desc := "(IIII)I" } : Jvm.MethodName)) ∈ lw_tbl := List.mem_append_right _ (List.mem_of_getElem? (i := 1069) (by decide +kernel))
theorem k_1071 : (Jvm.Cond.instanceMethod ({ cls := "HoopCabinet", name := "gainOf", desc := "(IIII)I" } : Jvm.MethodName)) ∈ lw_tbl := List.mem_append_right _ (List.mem_of_getElem? (i := 1071) (by decide +kernel))
theorem ks_37 : Cond.selects "HoopCabinet" ({ cls := "HoopCabinet", name := "gainOf", desc := "(IIII)I" } : Jvm.MethodName) ({ cls := "HoopCabinet", name := "gainOf", desc := "(IIII)I" } : Jvm.MethodName) ∈ lw_tbl := List.mem_append_left _ (List.mem_of_getElem? (i := 37) (by decide +kernel))
theorem k_1076 : (Jvm.Cond.code ({ cls := "HoopCabinet$Floor", name := "copyFrom", desc := "(LHoopCabinet$Floor;)V" } : Jvm.MethodName) prog_4_method_11_code (2 : Nat) (Option.none : Option Jvm.ClassFile.FieldType)) ∈ lw_tbl := List.mem_append_right _ (List.mem_of_getElem? (i := 1076) (by decide +kernel))
theorem k_1073 : (Jvm.Cond.methodLink "HoopCabinet" (350 : Nat) ({ cls := "HoopCabinet$Floor", name := "copyFrom", desc := "(LHoopCabinet$Floor;)V" } : Jvm.MethodName)) ∈ lw_tbl := List.mem_append_right _ (List.mem_of_getElem? (i := 1073) (by decide +kernel))
theorem k_1074 : (Jvm.Cond.instanceMethod ({ cls := "HoopCabinet$Floor", name := "copyFrom", desc := "(LHoopCabinet$Floor;)V" } : Jvm.MethodName)) ∈ lw_tbl := List.mem_append_right _ (List.mem_of_getElem? (i := 1074) (by decide +kernel))
theorem k_1075 : (Jvm.Cond.selects "HoopCabinet$Floor" ({ cls := "HoopCabinet$Floor", name := "copyFrom", desc := "(LHoopCabinet$Floor;)V" } : Jvm.MethodName) ({ cls := "HoopCabinet$Floor", name := "copyFrom", desc := "(LHoopCabinet$Floor;)V" } : Jvm.MethodName)) ∈ lw_tbl := List.mem_append_right _ (List.mem_of_getElem? (i := 1075) (by decide +kernel))
theorem k_1077 : (Jvm.Cond.methodLink "HoopCabinet$Floor" (117 : Nat) ({ cls := "java/lang/System", name := "arraycopy", desc := "(Ljava/lang/Object;ILjava/lang/Object;II)V" } : Jvm.MethodName)) ∈ lw_tbl := List.mem_append_right _ (List.mem_of_getElem? (i := 1077) (by decide +kernel))
theorem k_538 : (Jvm.Cond.native ({ cls := "java/lang/System", name := "arraycopy", desc := "(Ljava/lang/Object;ILjava/lang/Object;II)V" } : Jvm.MethodName)) ∈ lw_tbl := List.mem_append_right _ (List.mem_of_getElem? (i := 538) (by decide +kernel))
theorem k_537 : (Jvm.Cond.static ({ cls := "java/lang/System", name := "arraycopy", desc := "(Ljava/lang/Object;ILjava/lang/Object;II)V" } : Jvm.MethodName)) ∈ lw_tbl := List.mem_append_right _ (List.mem_of_getElem? (i := 537) (by decide +kernel))
theorem k_17 : (Jvm.Cond.initialized "java/lang/System") ∈ lw_tbl := List.mem_append_right _ (List.mem_of_getElem? (i := 17) (by decide +kernel))
theorem k_1082 : (Jvm.Cond.methodLink "HoopCabinet" (356 : Nat) ({ cls := "HoopCabinet$Floor", name := "gather", desc := "()V" } : Jvm.MethodName)) ∈ lw_tbl := List.mem_append_right _ (List.mem_of_getElem? (i := 1082) (by decide +kernel))
theorem k_1081 : (Jvm.Cond.code ({ cls := "HoopCabinet$Floor", name := "keepStill", desc := "(I)V" } : Jvm.MethodName) prog_4_method_10_code (4 : Nat) (Option.none : Option Jvm.ClassFile.FieldType)) ∈ lw_tbl := List.mem_append_right _ (List.mem_of_getElem? (i := 1081) (by decide +kernel))
theorem k_1078 : (Jvm.Cond.methodLink "HoopCabinet" (353 : Nat) ({ cls := "HoopCabinet$Floor", name := "keepStill", desc := "(I)V" } : Jvm.MethodName)) ∈ lw_tbl := List.mem_append_right _ (List.mem_of_getElem? (i := 1078) (by decide +kernel))
theorem k_1079 : (Jvm.Cond.instanceMethod ({ cls := "HoopCabinet$Floor", name := "keepStill", desc := "(I)V" } : Jvm.MethodName)) ∈ lw_tbl := List.mem_append_right _ (List.mem_of_getElem? (i := 1079) (by decide +kernel))
theorem k_1080 : (Jvm.Cond.selects "HoopCabinet$Floor" ({ cls := "HoopCabinet$Floor", name := "keepStill", desc := "(I)V" } : Jvm.MethodName) ({ cls := "HoopCabinet$Floor", name := "keepStill", desc := "(I)V" } : Jvm.MethodName)) ∈ lw_tbl := List.mem_append_right _ (List.mem_of_getElem? (i := 1080) (by decide +kernel))
theorem k_1095 : (Jvm.Cond.constantLong "HoopCabinet" (362 : Nat) (-2 : Int64)) ∈ lw_tbl := List.mem_append_right _ (List.mem_of_getElem? (i := 1095) (by decide +kernel))
theorem k_1094 : (Jvm.Cond.code ({ cls := "HoopCabinet", name := "isChanceDance", desc := "(I)Z" } : Jvm.MethodName) prog_1_method_75_code (2 : Nat) (Option.some Jvm.ClassFile.FieldType.boolean)) ∈ lw_tbl := List.mem_append_right _ (List.mem_of_getElem? (i := 1094) (by decide +kernel))
theorem k_1091 : (Jvm.Cond.methodLink "HoopCabinet" (359 : Nat) ({ cls := "HoopCabinet", name := "isChanceDance", desc := "(I)Z" } : Jvm.MethodName)) ∈ lw_tbl := List.mem_append_right _ (List.mem_of_getElem? (i := 1091) (by decide +kernel))
theorem k_1093 : (Jvm.Cond.instanceMethod ({ cls := "HoopCabinet", name := "isChanceDance", desc := "(I)Z" } : Jvm.MethodName)) ∈ lw_tbl := List.mem_append_right _ (List.mem_of_getElem? (i := 1093) (by decide +kernel))
theorem ks_38 : Cond.selects "HoopCabinet" ({ cls := "HoopCabinet", name := "isChanceDance", desc := "(I)Z" } : Jvm.MethodName) ({ cls := "HoopCabinet", name := "isChanceDance", desc := "(I)Z" } : Jvm.MethodName) ∈ lw_tbl := List.mem_append_left _ (List.mem_of_getElem? (i := 38) (by decide +kernel))
theorem k_81 : (Jvm.Cond.fieldLinkNest "HoopCabinet" (364 : Nat) "HoopCabinet$Ball" "odds" "I" "HoopCabinet") ∈ lw_tbl := List.mem_append_right _ (List.mem_of_getElem? (i := 81) (by decide +kernel))
theorem k_1099 : (Jvm.Cond.code ({ cls := "HoopCabinet$Music", name := "play", desc := "(LHoopCabinet$Floor;LHoopCabinet$Notes;III)V" } : Jvm.MethodName) prog_6_method_2_code (7 : Nat) (Option.none : Option Jvm.ClassFile.FieldType)) ∈ lw_tbl := List.mem_append_right _ (List.mem_of_getElem? (i := 1099) (by decide +kernel))
theorem k_1096 : (Jvm.Cond.methodLink "HoopCabinet" (367 : Nat) ({ cls := "HoopCabinet$Music", name := "play", desc := "(LHoopCabinet$Floor;LHoopCabinet$Notes;III)V" } : Jvm.MethodName)) ∈ lw_tbl := List.mem_append_right _ (List.mem_of_getElem? (i := 1096) (by decide +kernel))
theorem k_1097 : (Jvm.Cond.instanceMethod ({ cls := "HoopCabinet$Music", name := "play", desc := "(LHoopCabinet$Floor;LHoopCabinet$Notes;III)V" } : Jvm.MethodName)) ∈ lw_tbl := List.mem_append_right _ (List.mem_of_getElem? (i := 1097) (by decide +kernel))
theorem k_1098 : (Jvm.Cond.selects "HoopCabinet$Music" ({ cls := "HoopCabinet$Music", name := "play", desc := "(LHoopCabinet$Floor;LHoopCabinet$Notes;III)V" } : Jvm.MethodName) ({ cls := "HoopCabinet$Music", name := "play", desc := "(LHoopCabinet$Floor;LHoopCabinet$Notes;III)V" } : Jvm.MethodName)) ∈ lw_tbl := List.mem_append_right _ (List.mem_of_getElem? (i := 1098) (by decide +kernel))
theorem k_1102 : (Jvm.Cond.code ({ cls := "java/util/Arrays", name := "fill", desc := "([JJ)V" } : Jvm.MethodName) prog_19_method_101_code (5 : Nat) (Option.none : Option Jvm.ClassFile.FieldType)) ∈ lw_tbl := List.mem_append_right _ (List.mem_of_getElem? (i := 1102) (by decide +kernel))
theorem k_1100 : (Jvm.Cond.methodLink "HoopCabinet$Music" (18 : Nat) ({ cls := "java/util/Arrays", name := "fill", desc := "([JJ)V" } : Jvm.MethodName)) ∈ lw_tbl := List.mem_append_right _ (List.mem_of_getElem? (i := 1100) (by decide +kernel))
theorem k_1101 : (Jvm.Cond.static ({ cls := "java/util/Arrays", name := "fill", desc := "([JJ)V" } : Jvm.MethodName)) ∈ lw_tbl := List.mem_append_right _ (List.mem_of_getElem? (i := 1101) (by decide +kernel))
theorem k_293 : (Jvm.Cond.fieldLink "HoopCabinet$Music" (24 : Nat) "HoopCabinet$Music" "total" "J") ∈ lw_tbl := List.mem_append_right _ (List.mem_of_getElem? (i := 293) (by decide +kernel))
theorem k_1106 : (Jvm.Cond.code ({ cls := "HoopCabinet$Music", name := "playOne", desc := "(LHoopCabinet$Floor;LHoopCabinet$Notes;II)V" } : Jvm.MethodName) prog_6_method_3_code (6 : Nat) (Option.none : Option Jvm.ClassFile.FieldType)) ∈ lw_tbl := List.mem_append_right _ (List.mem_of_getElem? (i := 1106) (by decide +kernel))
theorem k_1103 : (Jvm.Cond.methodLink "HoopCabinet$Music" (28 : Nat) ({ cls := "HoopCabinet$Music", name := "playOne", desc := "(LHoopCabinet$Floor;LHoopCabinet$Notes;II)V" } : Jvm.MethodName)) ∈ lw_tbl := List.mem_append_right _ (List.mem_of_getElem? (i := 1103) (by decide +kernel))
theorem k_1105 : (Jvm.Cond.instanceMethod ({ cls := "HoopCabinet$Music", name := "playOne", desc := "(LHoopCabinet$Floor;LHoopCabinet$Notes;II)V" } : Jvm.MethodName)) ∈ lw_tbl := List.mem_append_right _ (List.mem_of_getElem? (i := 1105) (by decide +kernel))
theorem ks_39 : Cond.selects "HoopCabinet$Music" ({ cls := "HoopCabinet$Music", name := "playOne", desc := "(LHoopCabinet$Floor;LHoopCabinet$Notes;II)V" } : Jvm.MethodName) ({ cls := "HoopCabinet$Music", name := "playOne", desc := "(LHoopCabinet$Floor;LHoopCabinet$Notes;II)V" } : Jvm.MethodName) ∈ lw_tbl := List.mem_append_left _ (List.mem_of_getElem? (i := 39) (by decide +kernel))
theorem k_1107 : (Jvm.Cond.methodLink "HoopCabinet$Music" (34 : Nat) ({ cls := "HoopCabinet$Notes", name := "passed", desc := "(LHoopCabinet$Floor;II)I" } : Jvm.MethodName)) ∈ lw_tbl := List.mem_append_right _ (List.mem_of_getElem? (i := 1107) (by decide +kernel))
theorem k_1108 : (Jvm.Cond.constantLong "HoopCabinet$Music" (32 : Nat) (10 : Int64)) ∈ lw_tbl := List.mem_append_right _ (List.mem_of_getElem? (i := 1108) (by decide +kernel))
theorem k_1112 : (Jvm.Cond.code ({ cls := "HoopCabinet$Music", name := "weightWith", desc := "(I)J" } : Jvm.MethodName) prog_6_method_4_code (5 : Nat) (Option.some Jvm.ClassFile.FieldType.long)) ∈ lw_tbl := List.mem_append_right _ (List.mem_of_getElem? (i := 1112) (by decide +kernel))
theorem k_1109 : (Jvm.Cond.methodLink "HoopCabinet" (371 : Nat) ({ cls := "HoopCabinet$Music", name := "weightWith", desc := "(I)J" } : Jvm.MethodName)) ∈ lw_tbl := List.mem_append_right _ (List.mem_of_getElem? (i := 1109) (by decide +kernel))
theorem k_1110 : (Jvm.Cond.instanceMethod ({ cls := "HoopCabinet$Music", name := "weightWith", desc := "(I)J" } : Jvm.MethodName)) ∈ lw_tbl := List.mem_append_right _ (List.mem_of_getElem? (i := 1110) (by decide +kernel))
theorem k_1111 : (Jvm.Cond.selects "HoopCabinet$Music" ({ cls := "HoopCabinet$Music", name := "weightWith", desc := "(I)J" } : Jvm.MethodName) ({ cls := "HoopCabinet$Music", name := "weightWith", desc := "(I)J" } : Jvm.MethodName)) ∈ lw_tbl := List.mem_append_right _ (List.mem_of_getElem? (i := 1111) (by decide +kernel))
theorem k_1113 : (Jvm.Cond.methodLinkNest "HoopCabinet$Music" (40 : Nat) ({ cls := "HoopCabinet", name := "hasBit", desc := "(II)Z" } : Jvm.MethodName) "HoopCabinet") ∈ lw_tbl := List.mem_append_right _ (List.mem_of_getElem? (i := 1113) (by decide +kernel))
theorem k_294 : (Jvm.Cond.fieldLinkNest "HoopCabinet" (374 : Nat) "HoopCabinet$Music" "total" "J" "HoopCabinet") ∈ lw_tbl := List.mem_append_right _ (List.mem_of_getElem? (i := 294) (by decide +kernel))
theorem k_1121 : (Jvm.Cond.code ({ cls := "HoopCabinet$Music", name := "weightOfHolders", desc := "()J" } : Jvm.MethodName) prog_6_method_5_code (4 : Nat) (Option.some Jvm.ClassFile.FieldType.long)) ∈ lw_tbl := List.mem_append_right _ (List.mem_of_getElem? (i := 1121) (by decide +kernel))
theorem k_1118 : (Jvm.Cond.methodLink "HoopCabinet" (377 : Nat) ({ cls := "HoopCabinet$Music", name := "weightOfHolders", desc := "()J" } : Jvm.MethodName)) ∈ lw_tbl := List.mem_append_right _ (List.mem_of_getElem? (i := 1118) (by decide +kernel))
theorem k_1119 : (Jvm.Cond.instanceMethod ({ cls := "HoopCabinet$Music", name := "weightOfHolders", desc := "()J" } : Jvm.MethodName)) ∈ lw_tbl := List.mem_append_right _ (List.mem_of_getElem? (i := 1119) (by decide +kernel))
theorem k_1120 : (Jvm.Cond.selects "HoopCabinet$Music" ({ cls := "HoopCabinet$Music", name := "weightOfHolders", desc := "()J" } : Jvm.MethodName) ({ cls := "HoopCabinet$Music", name := "weightOfHolders", desc := "()J" } : Jvm.MethodName)) ∈ lw_tbl := List.mem_append_right _ (List.mem_of_getElem? (i := 1120) (by decide +kernel))
theorem k_1122 : (Jvm.Cond.methodLink "HoopCabinet$Music" (44 : Nat) ({ cls := "java/lang/Integer", name := "bitCount", desc := "(I)I" } : Jvm.MethodName)) ∈ lw_tbl := List.mem_append_right _ (List.mem_of_getElem? (i := 1122) (by decide +kernel))
theorem k_101 : (Jvm.Cond.fieldLinkNest "HoopCabinet" (400 : Nat) "HoopCabinet$Ball" "acts" "LHoopCabinet$Table;" "HoopCabinet") ∈ lw_tbl := List.mem_append_right _ (List.mem_of_getElem? (i := 101) (by decide +kernel))
theorem k_492 : (Jvm.Cond.code ({ cls := "HoopCabinet$Table", name := "isFull", desc := "()Z" } : Jvm.MethodName) prog_10_method_4_code (1 : Nat) (Option.some Jvm.ClassFile.FieldType.boolean)) ∈ lw_tbl := List.mem_append_right _ (List.mem_of_getElem? (i := 492) (by decide +kernel))
theorem k_1152 : (Jvm.Cond.methodLink "HoopCabinet" (403 : Nat) ({ cls := "HoopCabinet$Table", name := "isFull", desc := "()Z" } : Jvm.MethodName)) ∈ lw_tbl := List.mem_append_right _ (List.mem_of_getElem? (i := 1152) (by decide +kernel))
theorem k_490 : (Jvm.Cond.instanceMethod ({ cls := "HoopCabinet$Table", name := "isFull", desc := "()Z" } : Jvm.MethodName)) ∈ lw_tbl := List.mem_append_right _ (List.mem_of_getElem? (i := 490) (by decide +kernel))
theorem k_491 : (Jvm.Cond.selects "HoopCabinet$Table" ({ cls := "HoopCabinet$Table", name := "isFull", desc := "()Z" } : Jvm.MethodName) ({ cls := "HoopCabinet$Table", name := "isFull", desc := "()Z" } : Jvm.MethodName)) ∈ lw_tbl := List.mem_append_right _ (List.mem_of_getElem? (i := 491) (by decide +kernel))
theorem k_1156 : (Jvm.Cond.code ({ cls := "HoopCabinet$Ball", name := "actBid", desc := "(III)V" } : Jvm.MethodName) prog_2_method_12_code (4 : Nat) (Option.none : Option Jvm.ClassFile.FieldType)) ∈ lw_tbl := List.mem_append_right _ (List.mem_of_getElem? (i := 1156) (by decide +kernel))
theorem k_1153 : (Jvm.Cond.methodLink "HoopCabinet" (406 : Nat) ({ cls := "HoopCabinet$Ball", name := "actBid", desc := "(III)V" } : Jvm.MethodName)) ∈ lw_tbl := List.mem_append_right _ (List.mem_of_getElem? (i := 1153) (by decide +kernel))
theorem k_1154 : (Jvm.Cond.instanceMethod ({ cls := "HoopCabinet$Ball", name := "actBid", desc := "(III)V" } : Jvm.MethodName)) ∈ lw_tbl := List.mem_append_right _ (List.mem_of_getElem? (i := 1154) (by decide +kernel))
theorem k_1155 : (Jvm.Cond.selects "HoopCabinet$Ball" ({ cls := "HoopCabinet$Ball", name := "actBid", desc := "(III)V" } : Jvm.MethodName) ({ cls := "HoopCabinet$Ball", name := "actBid", desc := "(III)V" } : Jvm.MethodName)) ∈ lw_tbl := List.mem_append_right _ (List.mem_of_getElem? (i := 1155) (by decide +kernel))
theorem k_498 : (Jvm.Cond.code ({ cls := "HoopCabinet$Table", name := "add", desc := "(IIII)V" } : Jvm.MethodName) prog_10_method_7_code (5 : Nat) (Option.none : Option Jvm.ClassFile.FieldType)) ∈ lw_tbl := List.mem_append_right _ (List.mem_of_getElem? (i := 498) (by decide +kernel))
theorem k_1157 : (Jvm.Cond.methodLink "HoopCabinet$Ball" (74 : Nat) ({ cls := "HoopCabinet$Table", name := "add", desc := "(IIII)V" } : Jvm.MethodName)) ∈ lw_tbl := List.mem_append_right _ (List.mem_of_getElem? (i := 1157) (by decide +kernel))
theorem k_496 : (Jvm.Cond.instanceMethod ({ cls := "HoopCabinet$Table", name := "add", desc := "(IIII)V" } : Jvm.MethodName)) ∈ lw_tbl := List.mem_append_right _ (List.mem_of_getElem? (i := 496) (by decide +kernel))
theorem k_497 : (Jvm.Cond.selects "HoopCabinet$Table" ({ cls := "HoopCabinet$Table", name := "add", desc := "(IIII)V" } : Jvm.MethodName) ({ cls := "HoopCabinet$Table", name := "add", desc := "(IIII)V" } : Jvm.MethodName)) ∈ lw_tbl := List.mem_append_right _ (List.mem_of_getElem? (i := 497) (by decide +kernel))
theorem k_499 : (Jvm.Cond.methodLink "HoopCabinet$Table" (35 : Nat) ({ cls := "HoopCabinet$Table", name := "isFull", desc := "()Z" } : Jvm.MethodName)) ∈ lw_tbl := List.mem_append_right _ (List.mem_of_getElem? (i := 499) (by decide +kernel))
theorem k_503 : (Jvm.Cond.code ({ cls := "HoopCabinet$Table", name := "put", desc := "(III)V" } : Jvm.MethodName) prog_10_method_6_code (4 : Nat) (Option.none : Option Jvm.ClassFile.FieldType)) ∈ lw_tbl := List.mem_append_right _ (List.mem_of_getElem? (i := 503) (by decide +kernel))
theorem k_500 : (Jvm.Cond.methodLink "HoopCabinet$Table" (39 : Nat) ({ cls := "HoopCabinet$Table", name := "put", desc := "(III)V" } : Jvm.MethodName)) ∈ lw_tbl := List.mem_append_right _ (List.mem_of_getElem? (i := 500) (by decide +kernel))
theorem k_501 : (Jvm.Cond.instanceMethod ({ cls := "HoopCabinet$Table", name := "put", desc := "(III)V" } : Jvm.MethodName)) ∈ lw_tbl := List.mem_append_right _ (List.mem_of_getElem? (i := 501) (by decide +kernel))
theorem k_502 : (Jvm.Cond.selects "HoopCabinet$Table" ({ cls := "HoopCabinet$Table", name := "put", desc := "(III)V" } : Jvm.MethodName) ({ cls := "HoopCabinet$Table", name := "put", desc := "(III)V" } : Jvm.MethodName)) ∈ lw_tbl := List.mem_append_right _ (List.mem_of_getElem? (i := 502) (by decide +kernel))
theorem k_542 : (Jvm.Cond.code ({ cls := "HoopCabinet", name := "settle", desc := "()V" } : Jvm.MethodName) prog_1_method_7_code (1 : Nat) (Option.none : Option Jvm.ClassFile.FieldType)) ∈ lw_tbl := List.mem_append_right _ (List.mem_of_getElem? (i := 542) (by decide +kernel))
theorem k_539 : (Jvm.Cond.methodLink "HoopCabinet" (107 : Nat) ({ cls := "HoopCabinet", name := "settle", desc := "()V" } : Jvm.MethodName)) ∈ lw_tbl := List.mem_append_right _ (List.mem_of_getElem? (i := 539) (by decide +kernel))
theorem k_541 : (Jvm.Cond.instanceMethod ({ cls := "HoopCabinet", name := "settle", desc := "()V" } : Jvm.MethodName)) ∈ lw_tbl := List.mem_append_right _ (List.mem_of_getElem? (i := 541) (by decide +kernel))
theorem ks_16 : Cond.selects "HoopCabinet" ({ cls := "HoopCabinet", name := "settle", desc := "()V" } : Jvm.MethodName) ({ cls := "HoopCabinet", name := "settle", desc := "()V" } : Jvm.MethodName) ∈ lw_tbl := List.mem_append_left _ (List.mem_of_getElem? (i := 16) (by decide +kernel))
theorem k_1165 : (Jvm.Cond.code ({ cls := "HoopCabinet$Ball", name := "actMove", desc := "(II)V" } : Jvm.MethodName) prog_2_method_13_code (3 : Nat) (Option.none : Option Jvm.ClassFile.FieldType)) ∈ lw_tbl := List.mem_append_right _ (List.mem_of_getElem? (i := 1165) (by decide +kernel))
theorem k_1162 : (Jvm.Cond.methodLink "HoopCabinet" (410 : Nat) ({ cls := "HoopCabinet$Ball", name := "actMove", desc := "(II)V" } : Jvm.MethodName)) ∈ lw_tbl := List.mem_append_right _ (List.mem_of_getElem? (i := 1162) (by decide +kernel))
theorem k_1163 : (Jvm.Cond.instanceMethod ({ cls := "HoopCabinet$Ball", name := "actMove", desc := "(II)V" } : Jvm.MethodName)) ∈ lw_tbl := List.mem_append_right _ (List.mem_of_getElem? (i := 1163) (by decide +kernel))
theorem k_1164 : (Jvm.Cond.selects "HoopCabinet$Ball" ({ cls := "HoopCabinet$Ball", name := "actMove", desc := "(II)V" } : Jvm.MethodName) ({ cls := "HoopCabinet$Ball", name := "actMove", desc := "(II)V" } : Jvm.MethodName)) ∈ lw_tbl := List.mem_append_right _ (List.mem_of_getElem? (i := 1164) (by decide +kernel))
theorem k_1166 : (Jvm.Cond.methodLink "HoopCabinet$Ball" (78 : Nat) ({ cls := "HoopCabinet$Table", name := "put", desc := "(III)V" } : Jvm.MethodName)) ∈ lw_tbl := List.mem_append_right _ (List.mem_of_getElem? (i := 1166) (by decide +kernel))
theorem k_1174 : (Jvm.Cond.code ({ cls := "HoopCabinet$Ball", name := "takeBack", desc := "()V" } : Jvm.MethodName) prog_2_method_14_code (2 : Nat) (Option.none : Option Jvm.ClassFile.FieldType)) ∈ lw_tbl := List.mem_append_right _ (List.mem_of_getElem? (i := 1174) (by decide +kernel))
theorem k_1171 : (Jvm.Cond.methodLink "HoopCabinet" (414 : Nat) ({ cls := "HoopCabinet$Ball", name := "takeBack", desc := "()V" } : Jvm.MethodName)) ∈ lw_tbl := List.mem_append_right _ (List.mem_of_getElem? (i := 1171) (by decide +kernel))
theorem k_1172 : (Jvm.Cond.instanceMethod ({ cls := "HoopCabinet$Ball", name := "takeBack", desc := "()V" } : Jvm.MethodName)) ∈ lw_tbl := List.mem_append_right _ (List.mem_of_getElem? (i := 1172) (by decide +kernel))
theorem k_1173 : (Jvm.Cond.selects "HoopCabinet$Ball" ({ cls := "HoopCabinet$Ball", name := "takeBack", desc := "()V" } : Jvm.MethodName) ({ cls := "HoopCabinet$Ball", name := "takeBack", desc := "()V" } : Jvm.MethodName)) ∈ lw_tbl := List.mem_append_right _ (List.mem_of_getElem? (i := 1173) (by decide +kernel))
theorem k_1178 : (Jvm.Cond.code ({ cls := "HoopCabinet$Table", name := "dropLast", desc := "()V" } : Jvm.MethodName) prog_10_method_8_code (1 : Nat) (Option.none : Option Jvm.ClassFile.FieldType)) ∈ lw_tbl := List.mem_append_right _ (List.mem_of_getElem? (i := 1178) (by decide +kernel))
theorem k_1175 : (Jvm.Cond.methodLink "HoopCabinet$Ball" (82 : Nat) ({ cls := "HoopCabinet$Table", name := "dropLast", desc := "()V" } : Jvm.MethodName)) ∈ lw_tbl := List.mem_append_right _ (List.mem_of_getElem? (i := 1175) (by decide +kernel))
theorem k_1176 : (Jvm.Cond.instanceMethod ({ cls := "HoopCabinet$Table", name := "dropLast", desc := "()V" } : Jvm.MethodName)) ∈ lw_tbl := List.mem_append_right _ (List.mem_of_getElem? (i := 1176) (by decide +kernel))
theorem k_1177 : (Jvm.Cond.selects "HoopCabinet$Table" ({ cls := "HoopCabinet$Table", name := "dropLast", desc := "()V" } : Jvm.MethodName) ({ cls := "HoopCabinet$Table", name := "dropLast", desc := "()V" } : Jvm.MethodName)) ∈ lw_tbl := List.mem_append_right _ (List.mem_of_getElem? (i := 1177) (by decide +kernel))
theorem k_1129 : (Jvm.Cond.code ({ cls := "HoopCabinet", name := "isSeed", desc := "(I)Z" } : Jvm.MethodName) prog_1_method_93_code (1 : Nat) (Option.some Jvm.ClassFile.FieldType.boolean)) ∈ lw_tbl := List.mem_append_right _ (List.mem_of_getElem? (i := 1129) (by decide +kernel))
theorem k_1127 : (Jvm.Cond.methodLink "HoopCabinet" (381 : Nat) ({ cls := "HoopCabinet", name := "isSeed", desc := "(I)Z" } : Jvm.MethodName)) ∈ lw_tbl := List.mem_append_right _ (List.mem_of_getElem? (i := 1127) (by decide +kernel))
theorem k_1128 : (Jvm.Cond.static ({ cls := "HoopCabinet", name := "isSeed", desc := "(I)Z" } : Jvm.MethodName)) ∈ lw_tbl := List.mem_append_right _ (List.mem_of_getElem? (i := 1128) (by decide +kernel))
theorem k_1130 : (Jvm.Cond.constant "HoopCabinet" (448 : Nat) (2000000000 : Int32)) ∈ lw_tbl := List.mem_append_right _ (List.mem_of_getElem? (i := 1130) (by decide +kernel))
theorem k_1134 : (Jvm.Cond.code ({ cls := "HoopCabinet", name := "loudDances", desc := "(I)I" } : Jvm.MethodName) prog_1_method_79_code (6 : Nat) (Option.some Jvm.ClassFile.FieldType.int)) ∈ lw_tbl := List.mem_append_right _ (List.mem_of_getElem? (i := 1134) (by decide +kernel))
theorem k_1131 : (Jvm.Cond.methodLink "HoopCabinet" (384 : Nat) ({ cls := "HoopCabinet", name := "loudDances", desc := "(I)I" } : Jvm.MethodName)) ∈ lw_tbl := List.mem_append_right _ (List.mem_of_getElem? (i := 1131) (by decide +kernel))
theorem k_1133 : (Jvm.Cond.instanceMethod ({ cls := "HoopCabinet", name := "loudDances", desc := "(I)I" } : Jvm.MethodName)) ∈ lw_tbl := List.mem_append_right _ (List.mem_of_getElem? (i := 1133) (by decide +kernel))
theorem ks_40 : Cond.selects "HoopCabinet" ({ cls := "HoopCabinet", name := "loudDances", desc := "(I)I" } : Jvm.MethodName) ({ cls := "HoopCabinet", name := "loudDances", desc := "(I)I" } : Jvm.MethodName) ∈ lw_tbl := List.mem_append_left _ (List.mem_of_getElem? (i := 40) (by decide +kernel))
theorem k_1135 : (Jvm.Cond.constantLong "HoopCabinet" (390 : Nat) (1103515245 : Int64)) ∈ lw_tbl := List.mem_append_right _ (List.mem_of_getElem? (i := 1135) (by decide +kernel))
theorem k_1136 : (Jvm.Cond.constantLong "HoopCabinet" (392 : Nat) (12345 : Int64)) ∈ lw_tbl := List.mem_append_right _ (List.mem_of_getElem? (i := 1136) (by decide +kernel))
theorem k_1137 : (Jvm.Cond.constantLong "HoopCabinet" (394 : Nat) (2147483648 : Int64)) ∈ lw_tbl := List.mem_append_right _ (List.mem_of_getElem? (i := 1137) (by decide +kernel))
theorem k_1138 : (Jvm.Cond.constantLong "HoopCabinet" (396 : Nat) (65536 : Int64)) ∈ lw_tbl := List.mem_append_right _ (List.mem_of_getElem? (i := 1138) (by decide +kernel))
theorem k_1139 : (Jvm.Cond.constantLong "HoopCabinet" (398 : Nat) (10 : Int64)) ∈ lw_tbl := List.mem_append_right _ (List.mem_of_getElem? (i := 1139) (by decide +kernel))
theorem k_1143 : (Jvm.Cond.code ({ cls := "HoopCabinet", name := "drawnHolders", desc := "(II)I" } : Jvm.MethodName) prog_1_method_78_code (3 : Nat) (Option.some Jvm.ClassFile.FieldType.int)) ∈ lw_tbl := List.mem_append_right _ (List.mem_of_getElem? (i := 1143) (by decide +kernel))
theorem k_1140 : (Jvm.Cond.methodLink "HoopCabinet" (387 : Nat) ({ cls := "HoopCabinet", name := "drawnHolders", desc := "(II)I" } : Jvm.MethodName)) ∈ lw_tbl := List.mem_append_right _ (List.mem_of_getElem? (i := 1140) (by decide +kernel))
theorem k_1142 : (Jvm.Cond.instanceMethod ({ cls := "HoopCabinet", name := "drawnHolders", desc := "(II)I" } : Jvm.MethodName)) ∈ lw_tbl := List.mem_append_right _ (List.mem_of_getElem? (i := 1142) (by decide +kernel))
theorem ks_41 : Cond.selects "HoopCabinet" ({ cls := "HoopCabinet", name := "drawnHolders", desc := "(II)I" } : Jvm.MethodName) ({ cls := "HoopCabinet", name := "drawnHolders", desc := "(II)I" } : Jvm.MethodName) ∈ lw_tbl := List.mem_append_left _ (List.mem_of_getElem? (i := 41) (by decide +kernel))
theorem k_1187 : (Jvm.Cond.methodLink "HoopCabinet" (417 : Nat) ({ cls := "HoopCabinet$Table", name := "put", desc := "(III)V" } : Jvm.MethodName)) ∈ lw_tbl := List.mem_append_right _ (List.mem_of_getElem? (i := 1187) (by decide +kernel))
theorem k_98 : (Jvm.Cond.fieldLinkNest "HoopCabinet" (420 : Nat) "HoopCabinet$Ball" "bids" "LHoopCabinet$Table;" "HoopCabinet") ∈ lw_tbl := List.mem_append_right _ (List.mem_of_getElem? (i := 98) (by decide +kernel))
theorem k_66 : (Jvm.Cond.fieldLinkNest "HoopCabinet" (110 : Nat) "HoopCabinet$Ball" "lines" "I" "HoopCabinet") ∈ lw_tbl := List.mem_append_right _ (List.mem_of_getElem? (i := 66) (by decide +kernel))
theorem k_1195 : (Jvm.Cond.code ({ cls := "HoopCabinet", name := "slotsWithRow", desc := "()I" } : Jvm.MethodName) prog_1_method_86_code (3 : Nat) (Option.some Jvm.ClassFile.FieldType.int)) ∈ lw_tbl := List.mem_append_right _ (List.mem_of_getElem? (i := 1195) (by decide +kernel))
theorem k_1192 : (Jvm.Cond.methodLink "HoopCabinet" (423 : Nat) ({ cls := "HoopCabinet", name := "slotsWithRow", desc := "()I" } : Jvm.MethodName)) ∈ lw_tbl := List.mem_append_right _ (List.mem_of_getElem? (i := 1192) (by decide +kernel))
theorem k_1194 : (Jvm.Cond.instanceMethod ({ cls := "HoopCabinet", name := "slotsWithRow", desc := "()I" } : Jvm.MethodName)) ∈ lw_tbl := List.mem_append_right _ (List.mem_of_getElem? (i := 1194) (by decide +kernel))
theorem ks_42 : Cond.selects "HoopCabinet" ({ cls := "HoopCabinet", name := "slotsWithRow", desc := "()I" } : Jvm.MethodName) ({ cls := "HoopCabinet", name := "slotsWithRow", desc := "()I" } : Jvm.MethodName) ∈ lw_tbl := List.mem_append_left _ (List.mem_of_getElem? (i := 42) (by decide +kernel))
theorem k_530 : (Jvm.Cond.code ({ cls := "HoopCabinet$Ball", name := "copyFrom", desc := "(LHoopCabinet$Ball;)V" } : Jvm.MethodName) prog_2_method_3_code (2 : Nat) (Option.none : Option Jvm.ClassFile.FieldType)) ∈ lw_tbl := List.mem_append_right _ (List.mem_of_getElem? (i := 530) (by decide +kernel))
theorem k_527 : (Jvm.Cond.methodLink "HoopCabinet" (103 : Nat) ({ cls := "HoopCabinet$Ball", name := "copyFrom", desc := "(LHoopCabinet$Ball;)V" } : Jvm.MethodName)) ∈ lw_tbl := List.mem_append_right _ (List.mem_of_getElem? (i := 527) (by decide +kernel))
theorem k_528 : (Jvm.Cond.instanceMethod ({ cls := "HoopCabinet$Ball", name := "copyFrom", desc := "(LHoopCabinet$Ball;)V" } : Jvm.MethodName)) ∈ lw_tbl := List.mem_append_right _ (List.mem_of_getElem? (i := 528) (by decide +kernel))
theorem k_529 : (Jvm.Cond.selects "HoopCabinet$Ball" ({ cls := "HoopCabinet$Ball", name := "copyFrom", desc := "(LHoopCabinet$Ball;)V" } : Jvm.MethodName) ({ cls := "HoopCabinet$Ball", name := "copyFrom", desc := "(LHoopCabinet$Ball;)V" } : Jvm.MethodName)) ∈ lw_tbl := List.mem_append_right _ (List.mem_of_getElem? (i := 529) (by decide +kernel))
theorem k_76 : (Jvm.Cond.fieldLink "HoopCabinet$Ball" (42 : Nat) "HoopCabinet$Ball" "law" "I") ∈ lw_tbl := List.mem_append_right _ (List.mem_of_getElem? (i := 76) (by decide +kernel))
theorem k_79 : (Jvm.Cond.fieldLink "HoopCabinet$Ball" (45 : Nat) "HoopCabinet$Ball" "odds" "I") ∈ lw_tbl := List.mem_append_right _ (List.mem_of_getElem? (i := 79) (by decide +kernel))
theorem k_534 : (Jvm.Cond.code ({ cls := "HoopCabinet$Table", name := "copyFrom", desc := "(LHoopCabinet$Table;)V" } : Jvm.MethodName) prog_10_method_10_code (2 : Nat) (Option.none : Option Jvm.ClassFile.FieldType)) ∈ lw_tbl := List.mem_append_right _ (List.mem_of_getElem? (i := 534) (by decide +kernel))
theorem k_531 : (Jvm.Cond.methodLink "HoopCabinet$Ball" (51 : Nat) ({ cls := "HoopCabinet$Table", name := "copyFrom", desc := "(LHoopCabinet$Table;)V" } : Jvm.MethodName)) ∈ lw_tbl := List.mem_append_right _ (List.mem_of_getElem? (i := 531) (by decide +kernel))
theorem k_532 : (Jvm.Cond.instanceMethod ({ cls := "HoopCabinet$Table", name := "copyFrom", desc := "(LHoopCabinet$Table;)V" } : Jvm.MethodName)) ∈ lw_tbl := List.mem_append_right _ (List.mem_of_getElem? (i := 532) (by decide +kernel))
theorem k_533 : (Jvm.Cond.selects "HoopCabinet$Table" ({ cls := "HoopCabinet$Table", name := "copyFrom", desc := "(LHoopCabinet$Table;)V" } : Jvm.MethodName) ({ cls := "HoopCabinet$Table", name := "copyFrom", desc := "(LHoopCabinet$Table;)V" } : Jvm.MethodName)) ∈ lw_tbl := List.mem_append_right _ (List.mem_of_getElem? (i := 533) (by decide +kernel))
theorem k_535 : (Jvm.Cond.methodLink "HoopCabinet$Table" (43 : Nat) ({ cls := "java/lang/Math", name := "min", desc := "(II)I" } : Jvm.MethodName)) ∈ lw_tbl := List.mem_append_right _ (List.mem_of_getElem? (i := 535) (by decide +kernel))
theorem k_369 : (Jvm.Cond.static ({ cls := "java/lang/Math", name := "min", desc := "(II)I" } : Jvm.MethodName)) ∈ lw_tbl := List.mem_append_right _ (List.mem_of_getElem? (i := 369) (by decide +kernel))
theorem k_370 : (Jvm.Cond.code ({ cls := "java/lang/Math", name := "min", desc := "(II)I" } : Jvm.MethodName) prog_14_method_69_code (2 : Nat) (Option.some Jvm.ClassFile.FieldType.int)) ∈ lw_tbl := List.mem_append_right _ (List.mem_of_getElem? (i := 370) (by decide +kernel))
theorem k_536 : (Jvm.Cond.methodLink "HoopCabinet$Table" (46 : Nat) ({ cls := "java/lang/System", name := "arraycopy", desc := "(Ljava/lang/Object;ILjava/lang/Object;II)V" } : Jvm.MethodName)) ∈ lw_tbl := List.mem_append_right _ (List.mem_of_getElem? (i := 536) (by decide +kernel))
theorem k_1221 : (Jvm.Cond.code ({ cls := "HoopCabinet$Slot", name := "put", desc := "(IJ)V" } : Jvm.MethodName) prog_9_method_5_code (4 : Nat) (Option.none : Option Jvm.ClassFile.FieldType)) ∈ lw_tbl := List.mem_append_right _ (List.mem_of_getElem? (i := 1221) (by decide +kernel))
theorem k_1218 : (Jvm.Cond.methodLink "HoopCabinet" (429 : Nat) ({ cls := "HoopCabinet$Slot", name := "put", desc := "(IJ)V" } : Jvm.MethodName)) ∈ lw_tbl := List.mem_append_right _ (List.mem_of_getElem? (i := 1218) (by decide +kernel))
theorem k_1219 : (Jvm.Cond.instanceMethod ({ cls := "HoopCabinet$Slot", name := "put", desc := "(IJ)V" } : Jvm.MethodName)) ∈ lw_tbl := List.mem_append_right _ (List.mem_of_getElem? (i := 1219) (by decide +kernel))
theorem k_1220 : (Jvm.Cond.selects "HoopCabinet$Slot" ({ cls := "HoopCabinet$Slot", name := "put", desc := "(IJ)V" } : Jvm.MethodName) ({ cls := "HoopCabinet$Slot", name := "put", desc := "(IJ)V" } : Jvm.MethodName)) ∈ lw_tbl := List.mem_append_right _ (List.mem_of_getElem? (i := 1220) (by decide +kernel))
theorem k_1225 : (Jvm.Cond.code ({ cls := "HoopCabinet$Slot", name := "cut", desc := "(J)J" } : Jvm.MethodName) prog_9_method_6_code (3 : Nat) (Option.some Jvm.ClassFile.FieldType.long)) ∈ lw_tbl := List.mem_append_right _ (List.mem_of_getElem? (i := 1225) (by decide +kernel))
theorem k_1222 : (Jvm.Cond.methodLink "HoopCabinet$Slot" (36 : Nat) ({ cls := "HoopCabinet$Slot", name := "cut", desc := "(J)J" } : Jvm.MethodName)) ∈ lw_tbl := List.mem_append_right _ (List.mem_of_getElem? (i := 1222) (by decide +kernel))
theorem k_1224 : (Jvm.Cond.instanceMethod ({ cls := "HoopCabinet$Slot", name := "cut", desc := "(J)J" } : Jvm.MethodName)) ∈ lw_tbl := List.mem_append_right _ (List.mem_of_getElem? (i := 1224) (by decide +kernel))
theorem ks_43 : Cond.selects "HoopCabinet$Slot" ({ cls := "HoopCabinet$Slot", name := "cut", desc := "(J)J" } : Jvm.MethodName) ({ cls := "HoopCabinet$Slot", name := "cut", desc := "(J)J" } : Jvm.MethodName) ∈ lw_tbl := List.mem_append_left _ (List.mem_of_getElem? (i := 43) (by decide +kernel))
theorem k_166 : (Jvm.Cond.fieldLink "HoopCabinet$Slot" (19 : Nat) "HoopCabinet$Slot" "width" "I") ∈ lw_tbl := List.mem_append_right _ (List.mem_of_getElem? (i := 166) (by decide +kernel))
theorem k_167 : (Jvm.Cond.fieldLinkNest "HoopCabinet" (432 : Nat) "HoopCabinet$Slot" "width" "I" "HoopCabinet") ∈ lw_tbl := List.mem_append_right _ (List.mem_of_getElem? (i := 167) (by decide +kernel))
theorem k_1233 : (Jvm.Cond.code ({ cls := "HoopCabinet$Slot", name := "hasStretch", desc := "(II)Z" } : Jvm.MethodName) prog_9_method_7_code (3 : Nat) (Option.some Jvm.ClassFile.FieldType.boolean)) ∈ lw_tbl := List.mem_append_right _ (List.mem_of_getElem? (i := 1233) (by decide +kernel))
theorem k_1230 : (Jvm.Cond.methodLink "HoopCabinet" (435 : Nat) ({ cls := "HoopCabinet$Slot", name := "hasStretch", desc := "(II)Z" } : Jvm.MethodName)) ∈ lw_tbl := List.mem_append_right _ (List.mem_of_getElem? (i := 1230) (by decide +kernel))
theorem k_1231 : (Jvm.Cond.instanceMethod ({ cls := "HoopCabinet$Slot", name := "hasStretch", desc := "(II)Z" } : Jvm.MethodName)) ∈ lw_tbl := List.mem_append_right _ (List.mem_of_getElem? (i := 1231) (by decide +kernel))
theorem k_1232 : (Jvm.Cond.selects "HoopCabinet$Slot" ({ cls := "HoopCabinet$Slot", name := "hasStretch", desc := "(II)Z" } : Jvm.MethodName) ({ cls := "HoopCabinet$Slot", name := "hasStretch", desc := "(II)Z" } : Jvm.MethodName)) ∈ lw_tbl := List.mem_append_right _ (List.mem_of_getElem? (i := 1232) (by decide +kernel))
theorem k_165 : (Jvm.Cond.fieldLinkNest "HoopCabinet" (438 : Nat) "HoopCabinet$Slot" "cells" "[J" "HoopCabinet") ∈ lw_tbl := List.mem_append_right _ (List.mem_of_getElem? (i := 165) (by decide +kernel))
theorem k_1234 : (Jvm.Cond.methodLink "HoopCabinet" (442 : Nat) ({ cls := "java/lang/System", name := "arraycopy", desc := "(Ljava/lang/Object;ILjava/lang/Object;II)V" } : Jvm.MethodName)) ∈ lw_tbl := List.mem_append_right _ (List.mem_of_getElem? (i := 1234) (by decide +kernel))
theorem fg_X9_13 : FG RX9 13 9 1 15 := ⟨RX9, TX9, CI9, by decide, Or.inl k_303⟩
theorem cv_X9_93 : CVw RX9 93 M_X9_appendFour 1 9 15 := ⟨⟨k_355, k_1, by decide +kernel, Or.inl k_352⟩, k_354, ks_0, by decide, TX9, CI9.1⟩
theorem fg_X9_32 : FG RX9 32 9 2 15 := ⟨RX9, TX9, CI9, by decide, Or.inl k_304⟩
theorem fg_X9_113 : FG RX9 113 6 7 8 := ⟨RX6, TX6, CI6, by decide, Or.inr ⟨_, k_138⟩⟩
theorem fg_X9_100 : FG RX9 100 6 6 8 := ⟨RX6, TX6, CI6, by decide, Or.inr ⟨_, k_136⟩⟩
theorem fg_X9_20 : FG RX9 20 9 3 15 := ⟨RX9, TX9, CI9, by decide, Or.inl k_305⟩
theorem fg_X9_119 : FG RX9 119 0 5 10 := ⟨RX0, TX0, CI0, by decide, Or.inr ⟨_, k_85⟩⟩
theorem cv_X9_123 : CVw RX9 123 M_X8_hasCell 2 8 4 := ⟨⟨k_507, k_3, by decide +kernel, Or.inl k_625⟩, k_505, k_506, by decide, TX8, CI8.1⟩
theorem fg_X8_28 : FG RX8 28 8 3 4 := ⟨RX8, TX8, CI8, by decide, Or.inl k_46⟩
theorem cv_X9_129 : CVw RX9 129 M_X8_cell 2 8 4 := ⟨⟨k_554, k_3, by decide +kernel, Or.inl k_626⟩, k_552, k_553, by decide, TX8, CI8.1⟩
theorem cv_X8_31 : CVw RX8 31 M_X8_hasCell 2 8 4 := ⟨⟨k_507, k_3, by decide +kernel, Or.inl k_504⟩, k_505, k_506, by decide, TX8, CI8.1⟩
theorem fg_X8_24 : FG RX8 24 8 0 4 := ⟨RX8, TX8, CI8, by decide, Or.inl k_43⟩
theorem fg_X9_133 : FG RX9 133 0 6 10 := ⟨RX0, TX0, CI0, by decide, Or.inr ⟨_, k_91⟩⟩
theorem fg_X9_136 : FG RX9 136 0 7 10 := ⟨RX0, TX0, CI0, by decide, Or.inr ⟨_, k_94⟩⟩
theorem cv_X9_139 : CVw RX9 139 M_X0_hasLady 1 0 10 := ⟨⟨k_642, k_2, by decide +kernel, Or.inl k_639⟩, k_640, k_641, by decide, TX0, CI0.1⟩
theorem fg_X0_20 : FG RX0 20 0 6 10 := ⟨RX0, TX0, CI0, by decide, Or.inl k_86⟩
theorem cv_X0_55 : CVw RX0 55 M_X8_has 1 8 4 := ⟨⟨k_646, k_3, by decide +kernel, Or.inl k_643⟩, k_644, k_645, by decide, TX8, CI8.1⟩
theorem cv_X9_143 : CVw RX9 143 M_X0_hasRoom 1 0 10 := ⟨⟨k_562, k_2, by decide +kernel, Or.inl k_647⟩, k_560, k_561, by decide, TX0, CI0.1⟩
theorem fg_X0_36 : FG RX0 36 0 1 10 := ⟨RX0, TX0, CI0, by decide, Or.inl k_67⟩
theorem fg_X9_54 : FG RX9 54 9 8 15 := ⟨RX9, TX9, CI9, by decide, Or.inl k_310⟩
theorem cv_X9_146 : CVw RX9 146 M_X2_distance 3 2 8 := ⟨⟨k_651, k_7, by decide +kernel, Or.inl k_648⟩, k_649, k_650, by decide, TX2, CI2.1⟩
theorem fg_X2_63 : FG RX2 63 2 6 8 := ⟨RX2, TX2, CI2, by decide, Or.inl k_191⟩
theorem cs_X2_123 : CSw RX2 123 M_X9_hasBit 2 := ⟨⟨k_599, k_1, by decide +kernel, Or.inr ⟨_, k_604⟩⟩, k_598⟩
theorem cv_X2_108 : CVw RX2 108 M_X2_spread 2 2 8 := ⟨⟨k_603, k_7, by decide +kernel, Or.inl k_600⟩, k_601, k_602, by decide, TX2, CI2.1⟩
theorem cv_X2_101 : CVw RX2 101 M_X2_stepsFrom 2 2 8 := ⟨⟨k_593, k_7, by decide +kernel, Or.inl k_590⟩, k_591, k_592, by decide, TX2, CI2.1⟩
theorem fg_X2_35 : FG RX2 35 2 5 8 := ⟨RX2, TX2, CI2, by decide, Or.inl k_190⟩
theorem fg_X2_9 : FG RX2 9 2 0 8 := ⟨RX2, TX2, CI2, by decide, Or.inl k_185⟩
theorem cv_X9_150 : CVw RX9 150 M_X2_reachable 2 2 8 := ⟨⟨k_659, k_7, by decide +kernel, Or.inl k_656⟩, k_657, k_658, by decide, TX2, CI2.1⟩
theorem cv_X9_153 : CVw RX9 153 M_X0_hasDance 1 0 10 := ⟨⟨k_667, k_2, by decide +kernel, Or.inl k_664⟩, k_665, k_666, by decide, TX0, CI0.1⟩
theorem cv_X0_59 : CVw RX0 59 M_X0_isTold 0 0 10 := ⟨⟨k_671, k_2, by decide +kernel, Or.inl k_668⟩, k_669, k_670, by decide, TX0, CI0.1⟩
theorem fg_X0_32 : FG RX0 32 0 0 10 := ⟨RX0, TX0, CI0, by decide, Or.inl k_64⟩
theorem fg_X0_39 : FG RX0 39 0 2 10 := ⟨RX0, TX0, CI0, by decide, Or.inl k_71⟩
theorem cv_X9_156 : CVw RX9 156 M_X2_goalOf 2 2 8 := ⟨⟨k_581, k_7, by decide +kernel, Or.inl k_672⟩, k_579, k_580, by decide, TX2, CI2.1⟩
theorem cv_X2_127 : CVw RX2 127 M_X2_isHere 2 2 8 := ⟨⟨k_585, k_7, by decide +kernel, Or.inl k_582⟩, k_584, ks_21, by decide, TX2, CI2.1⟩
theorem fg_X2_67 : FG RX2 67 2 7 8 := ⟨RX2, TX2, CI2, by decide, Or.inl k_192⟩
theorem fg_X2_15 : FG RX2 15 2 1 8 := ⟨RX2, TX2, CI2, by decide, Or.inl k_186⟩
theorem cv_X9_159 : CVw RX9 159 M_X2_placeOf 2 2 8 := ⟨⟨k_612, k_7, by decide +kernel, Or.inl k_677⟩, k_610, k_611, by decide, TX2, CI2.1⟩
theorem fg_X2_21 : FG RX2 21 2 3 8 := ⟨RX2, TX2, CI2, by decide, Or.inl k_188⟩
theorem cv_X9_162 : CVw RX9 162 M_X2_ladiesIn 2 2 8 := ⟨⟨k_616, k_7, by decide +kernel, Or.inl k_682⟩, k_614, k_615, by decide, TX2, CI2.1⟩
theorem cv_X2_111 : CVw RX2 111 M_X2_placeOf 2 2 8 := ⟨⟨k_612, k_7, by decide +kernel, Or.inl k_609⟩, k_610, k_611, by decide, TX2, CI2.1⟩
theorem cv_X9_165 : CVw RX9 165 M_X2_stepsOf 1 2 8 := ⟨⟨k_690, k_7, by decide +kernel, Or.inl k_687⟩, k_688, k_689, by decide, TX2, CI2.1⟩
theorem fg_X9_169 : FG RX9 169 0 2 10 := ⟨RX0, TX0, CI0, by decide, Or.inr ⟨_, k_75⟩⟩
theorem cv_X9_172 : CVw RX9 172 M_X2_companyOf 2 2 8 := ⟨⟨k_702, k_7, by decide +kernel, Or.inl k_699⟩, k_700, k_701, by decide, TX2, CI2.1⟩
theorem fg_X2_24 : FG RX2 24 2 4 8 := ⟨RX2, TX2, CI2, by decide, Or.inl k_189⟩
theorem cs_X9_175 : CSw RX9 175 M_X9_hasBit 2 := ⟨⟨k_599, k_1, by decide +kernel, Or.inl k_597⟩, k_598⟩
theorem cv_X9_178 : CVw RX9 178 M_X2_meetingsOf 2 2 8 := ⟨⟨k_710, k_7, by decide +kernel, Or.inl k_707⟩, k_708, k_709, by decide, TX2, CI2.1⟩
theorem cv_X2_130 : CVw RX2 130 M_X2_companyOf 2 2 8 := ⟨⟨k_702, k_7, by decide +kernel, Or.inl k_711⟩, k_700, k_701, by decide, TX2, CI2.1⟩
theorem cv_X9_181 : CVw RX9 181 M_X2_friendsOf 1 2 8 := ⟨⟨k_719, k_7, by decide +kernel, Or.inl k_716⟩, k_717, k_718, by decide, TX2, CI2.1⟩
theorem cv_X9_184 : CVw RX9 184 M_X0_isTold 0 0 10 := ⟨⟨k_671, k_2, by decide +kernel, Or.inl k_724⟩, k_669, k_670, by decide, TX0, CI0.1⟩
theorem cv_X9_188 : CVw RX9 188 M_X9_fullest 1 9 15 := ⟨⟨k_728, k_1, by decide +kernel, Or.inl k_725⟩, k_727, ks_23, by decide, TX9, CI9.1⟩
theorem fg_X9_200 : FG RX9 200 8 3 4 := ⟨RX8, TX8, CI8, by decide, Or.inr ⟨_, k_52⟩⟩
theorem cs_X9_203 : CSw RX9 203 M_J6_bitCount_0f7a4 1 := ⟨⟨k_731, k_19, by decide +kernel, Or.inl k_729⟩, k_730⟩
theorem cv_X9_196 : CVw RX9 196 M_X9_crush 0 9 15 := ⟨⟨k_723, k_1, by decide +kernel, Or.inl k_740⟩, k_721, k_722, by decide, TX9, CI9.1⟩
theorem fg_X9_208 : FG RX9 208 0 1 10 := ⟨RX0, TX0, CI0, by decide, Or.inr ⟨_, k_70⟩⟩
theorem cv_X9_211 : CVw RX9 211 M_X2_dancesIn 2 2 8 := ⟨⟨k_748, k_7, by decide +kernel, Or.inl k_745⟩, k_746, k_747, by decide, TX2, CI2.1⟩
theorem cv_X9_227 : CVw RX9 227 M_X9_passAsTold 0 9 15 := ⟨⟨k_780, k_1, by decide +kernel, Or.inl k_777⟩, k_779, ks_24, by decide, TX9, CI9.1⟩
theorem fg_X9_64 : FG RX9 64 9 10 15 := ⟨RX9, TX9, CI9, by decide, Or.inl k_312⟩
theorem fg_X9_214 : FG RX9 214 0 3 10 := ⟨RX0, TX0, CI0, by decide, Or.inr ⟨_, k_78⟩⟩
theorem cv_X9_217 : CVw RX9 217 M_X5_prepare 3 5 6 := ⟨⟨k_784, k_8, by decide +kernel, Or.inl k_781⟩, k_782, k_783, by decide, TX5, CI5.1⟩
theorem fg_X5_21 : FG RX5 21 0 6 10 := ⟨RX0, TX0, CI0, by decide, Or.inr ⟨_, k_87⟩⟩
theorem fg_X5_27 : FG RX5 27 8 3 4 := ⟨RX8, TX8, CI8, by decide, Or.inr ⟨_, k_47⟩⟩
theorem fp_X5_33 : FP RX5 33 5 3 6 := ⟨RX5, TX5, CI5, by decide, rfl, Or.inl k_219⟩
theorem fg_X5_35 : FG RX5 35 0 2 10 := ⟨RX0, TX0, CI0, by decide, Or.inr ⟨_, k_72⟩⟩
theorem fp_X5_38 : FP RX5 38 5 4 6 := ⟨RX5, TX5, CI5, by decide, rfl, Or.inl k_221⟩
theorem fg_X5_33 : FG RX5 33 5 3 6 := ⟨RX5, TX5, CI5, by decide, Or.inl k_219⟩
theorem fg_X5_15 : FG RX5 15 5 1 6 := ⟨RX5, TX5, CI5, by decide, Or.inl k_217⟩
theorem cv_X5_39 : CVw RX5 39 M_X0_seatsUnder 1 0 10 := ⟨⟨k_788, k_2, by decide +kernel, Or.inl k_785⟩, k_786, k_787, by decide, TX0, CI0.1⟩
theorem fg_X0_23 : FG RX0 23 0 7 10 := ⟨RX0, TX0, CI0, by decide, Or.inl k_92⟩
theorem fg_X0_67 : FG RX0 67 8 3 4 := ⟨RX8, TX8, CI8, by decide, Or.inr ⟨_, k_51⟩⟩
theorem cv_X0_70 : CVw RX0 70 M_X8_cell 2 8 4 := ⟨⟨k_554, k_3, by decide +kernel, Or.inl k_789⟩, k_552, k_553, by decide, TX8, CI8.1⟩
theorem fg_X5_9 : FG RX5 9 5 0 6 := ⟨RX5, TX5, CI5, by decide, Or.inl k_216⟩
theorem cv_X5_42 : CVw RX5 42 M_X5_mayGive 4 5 6 := ⟨⟨k_793, k_8, by decide +kernel, Or.inl k_790⟩, k_792, ks_25, by decide, TX5, CI5.1⟩
theorem cv_X5_46 : CVw RX5 46 M_X8_cell 2 8 4 := ⟨⟨k_554, k_3, by decide +kernel, Or.inl k_794⟩, k_552, k_553, by decide, TX8, CI8.1⟩
theorem cv_X9_230 : CVw RX9 230 M_X9_inTheEnd 2 9 15 := ⟨⟨k_798, k_1, by decide +kernel, Or.inl k_795⟩, k_797, ks_26, by decide, TX9, CI9.1⟩
theorem cv_X9_220 : CVw RX9 220 M_X5_follow 3 5 6 := ⟨⟨k_802, k_8, by decide +kernel, Or.inl k_799⟩, k_800, k_801, by decide, TX5, CI5.1⟩
theorem fp_X5_59 : FP RX5 59 5 5 6 := ⟨RX5, TX5, CI5, by decide, rfl, Or.inl k_223⟩
theorem fg_X5_38 : FG RX5 38 5 4 6 := ⟨RX5, TX5, CI5, by decide, Or.inl k_221⟩
theorem cs_X5_50 : CSw RX5 50 M_X9_hasBit 2 := ⟨⟨k_599, k_1, by decide +kernel, Or.inr ⟨_, k_803⟩⟩, k_598⟩
theorem fg_X5_18 : FG RX5 18 5 2 6 := ⟨RX5, TX5, CI5, by decide, Or.inl k_218⟩
theorem cv_X5_62 : CVw RX5 62 M_X5_passed 3 5 6 := ⟨⟨k_807, k_8, by decide +kernel, Or.inl k_804⟩, k_805, k_806, by decide, TX5, CI5.1⟩
theorem cv_X5_54 : CVw RX5 54 M_X2_companyOf 2 2 8 := ⟨⟨k_702, k_7, by decide +kernel, Or.inl k_808⟩, k_700, k_701, by decide, TX2, CI2.1⟩
theorem cv_X9_224 : CVw RX9 224 M_X5_behind 1 5 6 := ⟨⟨k_812, k_8, by decide +kernel, Or.inl k_809⟩, k_810, k_811, by decide, TX5, CI5.1⟩
theorem cv_X9_234 : CVw RX9 234 M_X5_giverOf 2 5 6 := ⟨⟨k_820, k_8, by decide +kernel, Or.inl k_817⟩, k_818, k_819, by decide, TX5, CI5.1⟩
theorem cv_X5_69 : CVw RX5 69 M_X5_gotAt 1 5 6 := ⟨⟨k_824, k_8, by decide +kernel, Or.inl k_821⟩, k_822, k_823, by decide, TX5, CI5.1⟩
theorem fg_X5_59 : FG RX5 59 5 5 6 := ⟨RX5, TX5, CI5, by decide, Or.inl k_223⟩
theorem cv_X5_72 : CVw RX5 72 M_X5_ahead 1 5 6 := ⟨⟨k_828, k_8, by decide +kernel, Or.inl k_825⟩, k_826, k_827, by decide, TX5, CI5.1⟩
theorem cv_X5_66 : CVw RX5 66 M_X5_behind 1 5 6 := ⟨⟨k_812, k_8, by decide +kernel, Or.inl k_829⟩, k_810, k_811, by decide, TX5, CI5.1⟩
theorem fg_X9_78 : FG RX9 78 9 12 15 := ⟨RX9, TX9, CI9, by decide, Or.inl k_314⟩
theorem cv_X9_311 : CVw RX9 311 M_X3_tally 1 3 3 := ⟨⟨k_993, k_10, by decide +kernel, Or.inl k_990⟩, k_991, k_992, by decide, TX3, CI3.1⟩
theorem fg_X3_15 : FG RX3 15 0 6 10 := ⟨RX0, TX0, CI0, by decide, Or.inr ⟨_, k_88⟩⟩
theorem fg_X3_21 : FG RX3 21 8 3 4 := ⟨RX8, TX8, CI8, by decide, Or.inr ⟨_, k_48⟩⟩
theorem fp_X3_27 : FP RX3 27 3 1 3 := ⟨RX3, TX3, CI3, by decide, rfl, Or.inl k_275⟩
theorem fp_X3_29 : FP RX3 29 3 2 3 := ⟨RX3, TX3, CI3, by decide, rfl, Or.inl k_276⟩
theorem fg_X3_27 : FG RX3 27 3 1 3 := ⟨RX3, TX3, CI3, by decide, Or.inl k_275⟩
theorem fg_X3_9 : FG RX3 9 3 0 3 := ⟨RX3, TX3, CI3, by decide, Or.inl k_274⟩
theorem cv_X3_32 : CVw RX3 32 M_X0_seatsUnder 1 0 10 := ⟨⟨k_788, k_2, by decide +kernel, Or.inl k_994⟩, k_786, k_787, by decide, TX0, CI0.1⟩
theorem fg_X3_29 : FG RX3 29 3 2 3 := ⟨RX3, TX3, CI3, by decide, Or.inl k_276⟩
theorem cv_X9_317 : CVw RX9 317 M_X3_powerOf 1 3 3 := ⟨⟨k_1019, k_10, by decide +kernel, Or.inl k_1016⟩, k_1017, k_1018, by decide, TX3, CI3.1⟩
theorem cs_X3_35 : CSw RX3 35 M_X9_hasBit 2 := ⟨⟨k_599, k_1, by decide +kernel, Or.inr ⟨_, k_1003⟩⟩, k_598⟩
theorem cv_X3_46 : CVw RX3 46 M_X3_isMajority 1 3 3 := ⟨⟨k_998, k_10, by decide +kernel, Or.inl k_1020⟩, k_996, k_997, by decide, TX3, CI3.1⟩
theorem cv_X3_39 : CVw RX3 39 M_X3_seatsOf 1 3 3 := ⟨⟨k_1002, k_10, by decide +kernel, Or.inl k_999⟩, k_1000, k_1001, by decide, TX3, CI3.1⟩
theorem cv_X3_42 : CVw RX3 42 M_X3_isMoreThanHalf 1 3 3 := ⟨⟨k_1007, k_10, by decide +kernel, Or.inl k_1004⟩, k_1005, k_1006, by decide, TX3, CI3.1⟩
theorem cv_X9_308 : CVw RX9 308 M_X0_hasSet 1 0 10 := ⟨⟨k_988, k_2, by decide +kernel, Or.inl k_985⟩, k_986, k_987, by decide, TX0, CI0.1⟩
theorem cv_X0_63 : CVw RX0 63 M_X0_everybody 0 0 10 := ⟨⟨k_850, k_2, by decide +kernel, Or.inl k_989⟩, k_848, k_849, by decide, TX0, CI0.1⟩
theorem cv_X9_240 : CVw RX9 240 M_X0_everybody 0 0 10 := ⟨⟨k_850, k_2, by decide +kernel, Or.inl k_847⟩, k_848, k_849, by decide, TX0, CI0.1⟩
theorem cv_X9_314 : CVw RX9 314 M_X3_isMajority 1 3 3 := ⟨⟨k_998, k_10, by decide +kernel, Or.inl k_995⟩, k_996, k_997, by decide, TX3, CI3.1⟩
theorem cv_X9_237 : CVw RX9 237 M_X5_gotAt 1 5 6 := ⟨⟨k_824, k_8, by decide +kernel, Or.inl k_838⟩, k_822, k_823, by decide, TX5, CI5.1⟩
theorem fg_X9_71 : FG RX9 71 9 11 15 := ⟨RX9, TX9, CI9, by decide, Or.inl k_313⟩
theorem cv_X9_243 : CVw RX9 243 M_X1_prepare 4 1 8 := ⟨⟨k_874, k_9, by decide +kernel, Or.inl k_871⟩, k_872, k_873, by decide, TX1, CI1.1⟩
theorem fp_X1_21 : FP RX1 21 1 3 8 := ⟨RX1, TX1, CI1, by decide, rfl, Or.inl k_246⟩
theorem fp_X1_25 : FP RX1 25 1 4 8 := ⟨RX1, TX1, CI1, by decide, rfl, Or.inl k_247⟩
theorem fg_X1_28 : FG RX1 28 5 4 6 := ⟨RX5, TX5, CI5, by decide, Or.inr ⟨_, k_220⟩⟩
theorem fp_X1_33 : FP RX1 33 1 5 8 := ⟨RX1, TX1, CI1, by decide, rfl, Or.inl k_248⟩
theorem fg_X1_33 : FG RX1 33 1 5 8 := ⟨RX1, TX1, CI1, by decide, Or.inl k_248⟩
theorem fg_X1_9 : FG RX1 9 1 0 8 := ⟨RX1, TX1, CI1, by decide, Or.inl k_243⟩
theorem cv_X1_34 : CVw RX1 34 M_X5_ahead 1 5 6 := ⟨⟨k_828, k_8, by decide +kernel, Or.inl k_875⟩, k_826, k_827, by decide, TX5, CI5.1⟩
theorem fg_X1_21 : FG RX1 21 1 3 8 := ⟨RX1, TX1, CI1, by decide, Or.inl k_246⟩
theorem cs_X1_38 : CSw RX1 38 M_X1_roomsOf 3 := ⟨⟨k_878, k_9, by decide +kernel, Or.inl k_876⟩, k_877⟩
theorem cs_X1_51 : CSw RX1 51 M_X9_hasBit 2 := ⟨⟨k_599, k_1, by decide +kernel, Or.inr ⟨_, k_879⟩⟩, k_598⟩
theorem cv_X1_45 : CVw RX1 45 M_X2_placeOf 2 2 8 := ⟨⟨k_612, k_7, by decide +kernel, Or.inl k_880⟩, k_610, k_611, by decide, TX2, CI2.1⟩
theorem fg_X1_42 : FG RX1 42 5 5 6 := ⟨RX5, TX5, CI5, by decide, Or.inr ⟨_, k_222⟩⟩
theorem fp_X1_55 : FP RX1 55 1 6 8 := ⟨RX1, TX1, CI1, by decide, rfl, Or.inl k_249⟩
theorem fp_X1_59 : FP RX1 59 1 7 8 := ⟨RX1, TX1, CI1, by decide, rfl, Or.inl k_250⟩
theorem fg_X1_25 : FG RX1 25 1 4 8 := ⟨RX1, TX1, CI1, by decide, Or.inl k_247⟩
theorem cv_X9_246 : CVw RX9 246 M_X1_soonest 1 1 8 := ⟨⟨k_884, k_9, by decide +kernel, Or.inl k_881⟩, k_882, k_883, by decide, TX1, CI1.1⟩
theorem fg_X1_59 : FG RX1 59 1 7 8 := ⟨RX1, TX1, CI1, by decide, Or.inl k_250⟩
theorem cv_X1_62 : CVw RX1 62 M_X1_lookBack 2 1 8 := ⟨⟨k_888, k_9, by decide +kernel, Or.inl k_885⟩, k_887, ks_27, by decide, TX1, CI1.1⟩
theorem fg_X1_15 : FG RX1 15 1 1 8 := ⟨RX1, TX1, CI1, by decide, Or.inl k_244⟩
theorem fg_X1_18 : FG RX1 18 1 2 8 := ⟨RX1, TX1, CI1, by decide, Or.inl k_245⟩
theorem cv_X1_66 : CVw RX1 66 M_X2_spread 2 2 8 := ⟨⟨k_603, k_7, by decide +kernel, Or.inl k_889⟩, k_601, k_602, by decide, TX2, CI2.1⟩
theorem cv_X1_69 : CVw RX1 69 M_X1_goodWithout 2 1 8 := ⟨⟨k_893, k_9, by decide +kernel, Or.inl k_890⟩, k_892, ks_28, by decide, TX1, CI1.1⟩
theorem fg_X1_55 : FG RX1 55 1 6 8 := ⟨RX1, TX1, CI1, by decide, Or.inl k_249⟩
theorem cv_X9_250 : CVw RX9 250 M_X9_carry 3 9 15 := ⟨⟨k_870, k_1, by decide +kernel, Or.inl k_898⟩, k_868, k_869, by decide, TX9, CI9.1⟩
theorem cv_X9_253 : CVw RX9 253 M_X1_roomAt 3 1 8 := ⟨⟨k_902, k_9, by decide +kernel, Or.inl k_899⟩, k_900, k_901, by decide, TX1, CI1.1⟩
theorem cv_X1_72 : CVw RX1 72 M_X2_stepsFrom 2 2 8 := ⟨⟨k_593, k_7, by decide +kernel, Or.inl k_903⟩, k_591, k_592, by decide, TX2, CI2.1⟩
theorem cs_X1_75 : CSw RX1 75 M_X9_lowest 1 := ⟨⟨k_596, k_1, by decide +kernel, Or.inr ⟨_, k_904⟩⟩, k_595⟩
theorem cv_X9_257 : CVw RX9 257 M_X8_has 1 8 4 := ⟨⟨k_646, k_3, by decide +kernel, Or.inl k_909⟩, k_644, k_645, by decide, TX8, CI8.1⟩
theorem fg_X9_58 : FG RX9 58 9 9 15 := ⟨RX9, TX9, CI9, by decide, Or.inl k_311⟩
theorem cv_X9_116 : CVw RX9 116 M_X2_settle 3 2 8 := ⟨⟨k_546, k_7, by decide +kernel, Or.inl k_543⟩, k_544, k_545, by decide, TX2, CI2.1⟩
theorem cv_X2_27 : CVw RX2 27 M_X2_openDoors 3 2 8 := ⟨⟨k_550, k_7, by decide +kernel, Or.inl k_547⟩, k_548, k_549, by decide, TX2, CI2.1⟩
theorem fg_X2_39 : FG RX2 39 0 6 10 := ⟨RX0, TX0, CI0, by decide, Or.inr ⟨_, k_89⟩⟩
theorem fg_X2_57 : FG RX2 57 8 3 4 := ⟨RX8, TX8, CI8, by decide, Or.inr ⟨_, k_49⟩⟩
theorem fp_X2_35 : FP RX2 35 2 5 8 := ⟨RX2, TX2, CI2, by decide, rfl, Or.inl k_190⟩
theorem fg_X2_60 : FG RX2 60 0 1 10 := ⟨RX0, TX0, CI0, by decide, Or.inr ⟨_, k_68⟩⟩
theorem fp_X2_63 : FP RX2 63 2 6 8 := ⟨RX2, TX2, CI2, by decide, rfl, Or.inl k_191⟩
theorem fg_X2_64 : FG RX2 64 0 2 10 := ⟨RX0, TX0, CI0, by decide, Or.inr ⟨_, k_73⟩⟩
theorem fp_X2_67 : FP RX2 67 2 7 8 := ⟨RX2, TX2, CI2, by decide, rfl, Or.inl k_192⟩
theorem fg_X2_68 : FG RX2 68 0 5 10 := ⟨RX0, TX0, CI0, by decide, Or.inr ⟨_, k_83⟩⟩
theorem cv_X2_71 : CVw RX2 71 M_X2_openDoor 3 2 8 := ⟨⟨k_558, k_7, by decide +kernel, Or.inl k_555⟩, k_557, ks_17, by decide, TX2, CI2.1⟩
theorem cv_X2_44 : CVw RX2 44 M_X8_cell 2 8 4 := ⟨⟨k_554, k_3, by decide +kernel, Or.inl k_551⟩, k_552, k_553, by decide, TX8, CI8.1⟩
theorem cv_X2_74 : CVw RX2 74 M_X0_hasRoom 1 0 10 := ⟨⟨k_562, k_2, by decide +kernel, Or.inl k_559⟩, k_560, k_561, by decide, TX0, CI0.1⟩
theorem cv_X2_31 : CVw RX2 31 M_X2_hearBids 1 2 8 := ⟨⟨k_566, k_7, by decide +kernel, Or.inl k_563⟩, k_565, ks_18, by decide, TX2, CI2.1⟩
theorem cs_X2_78 : CSw RX2 78 M_J7_fill_53178 2 := ⟨⟨k_569, k_18, by decide +kernel, Or.inl k_567⟩, k_568⟩
theorem fg_X2_18 : FG RX2 18 2 2 8 := ⟨RX2, TX2, CI2, by decide, Or.inl k_187⟩
theorem fg_X2_84 : FG RX2 84 0 8 10 := ⟨RX0, TX0, CI0, by decide, Or.inr ⟨_, k_96⟩⟩
theorem fg_X2_91 : FG RX2 91 0 9 10 := ⟨RX0, TX0, CI0, by decide, Or.inr ⟨_, k_100⟩⟩
theorem cv_X2_87 : CVw RX2 87 M_X2_hearBid 3 2 8 := ⟨⟨k_573, k_7, by decide +kernel, Or.inl k_570⟩, k_572, ks_19, by decide, TX2, CI2.1⟩
theorem cv_X2_54 : CVw RX2 54 M_X2_gather 0 2 8 := ⟨⟨k_608, k_7, by decide +kernel, Or.inl k_605⟩, k_606, k_607, by decide, TX2, CI2.1⟩
theorem cv_X2_114 : CVw RX2 114 M_X2_ladiesIn 2 2 8 := ⟨⟨k_616, k_7, by decide +kernel, Or.inl k_613⟩, k_614, k_615, by decide, TX2, CI2.1⟩
theorem cv_X2_50 : CVw RX2 50 M_X2_goAsBidden 2 2 8 := ⟨⟨k_577, k_7, by decide +kernel, Or.inl k_574⟩, k_576, ks_20, by decide, TX2, CI2.1⟩
theorem cv_X2_94 : CVw RX2 94 M_X2_goalOf 2 2 8 := ⟨⟨k_581, k_7, by decide +kernel, Or.inl k_578⟩, k_579, k_580, by decide, TX2, CI2.1⟩
theorem cv_X2_97 : CVw RX2 97 M_X2_nextRoom 3 2 8 := ⟨⟨k_589, k_7, by decide +kernel, Or.inl k_586⟩, k_588, ks_22, by decide, TX2, CI2.1⟩
theorem cs_X2_104 : CSw RX2 104 M_X9_lowest 1 := ⟨⟨k_596, k_1, by decide +kernel, Or.inr ⟨_, k_594⟩⟩, k_595⟩
theorem cv_X9_260 : CVw RX9 260 M_X2_openDoors 3 2 8 := ⟨⟨k_550, k_7, by decide +kernel, Or.inl k_918⟩, k_548, k_549, by decide, TX2, CI2.1⟩
theorem cv_X9_263 : CVw RX9 263 M_X9_seenFault 1 9 15 := ⟨⟨k_926, k_1, by decide +kernel, Or.inl k_923⟩, k_925, ks_29, by decide, TX9, CI9.1⟩
theorem cs_X9_276 : CSw RX9 276 M_X9_isSlot 1 := ⟨⟨k_929, k_1, by decide +kernel, Or.inl k_927⟩, k_928⟩
theorem cv_X9_279 : CVw RX9 279 M_X7_isBare 0 7 3 := ⟨⟨k_933, k_6, by decide +kernel, Or.inl k_930⟩, k_931, k_932, by decide, TX7, CI7.1⟩
theorem fg_X7_15 : FG RX7 15 7 2 3 := ⟨RX7, TX7, CI7, by decide, Or.inl k_168⟩
theorem fg_X9_282 : FG RX9 282 7 2 3 := ⟨RX7, TX7, CI7, by decide, Or.inr ⟨_, k_169⟩⟩
theorem cv_X9_285 : CVw RX9 285 M_X7_cell 1 7 3 := ⟨⟨k_937, k_6, by decide +kernel, Or.inl k_934⟩, k_935, k_936, by decide, TX7, CI7.1⟩
theorem fg_X7_11 : FG RX7 11 7 0 3 := ⟨RX7, TX7, CI7, by decide, Or.inl k_164⟩
theorem cv_X9_288 : CVw RX9 288 M_X9_isSighting 3 9 15 := ⟨⟨k_942, k_1, by decide +kernel, Or.inl k_939⟩, k_941, ks_30, by decide, TX9, CI9.1⟩
theorem cv_X9_266 : CVw RX9 266 M_X9_possibleFirsts 1 9 15 := ⟨⟨k_946, k_1, by decide +kernel, Or.inl k_943⟩, k_945, ks_31, by decide, TX9, CI9.1⟩
theorem cv_X9_292 : CVw RX9 292 M_X9_agrees 1 9 15 := ⟨⟨k_950, k_1, by decide +kernel, Or.inl k_947⟩, k_949, ks_32, by decide, TX9, CI9.1⟩
theorem cv_X9_270 : CVw RX9 270 M_X9_bestAsked 1 9 15 := ⟨⟨k_958, k_1, by decide +kernel, Or.inl k_955⟩, k_957, ks_33, by decide, TX9, CI9.1⟩
theorem cv_X9_273 : CVw RX9 273 M_X9_leftAtWorst 2 9 15 := ⟨⟨k_962, k_1, by decide +kernel, Or.inl k_959⟩, k_961, ks_34, by decide, TX9, CI9.1⟩
theorem fg_X9_89 : FG RX9 89 9 14 15 := ⟨RX9, TX9, CI9, by decide, Or.inl k_316⟩
theorem cs_X9_296 : CSw RX9 296 M_J7_fill_53178 2 := ⟨⟨k_569, k_18, by decide +kernel, Or.inl k_963⟩, k_568⟩
theorem cv_X9_302 : CVw RX9 302 M_X0_seatsUnder 1 0 10 := ⟨⟨k_788, k_2, by decide +kernel, Or.inl k_972⟩, k_786, k_787, by decide, TX0, CI0.1⟩
theorem cv_X9_305 : CVw RX9 305 M_X0_ministersUnder 1 0 10 := ⟨⟨k_980, k_2, by decide +kernel, Or.inl k_977⟩, k_978, k_979, by decide, TX0, CI0.1⟩
theorem cs_X9_320 : CSw RX9 320 M_X9_isPart 1 := ⟨⟨k_1035, k_1, by decide +kernel, Or.inl k_1033⟩, k_1034⟩
theorem cv_X9_323 : CVw RX9 323 M_X3_seatsOf 1 3 3 := ⟨⟨k_1002, k_10, by decide +kernel, Or.inl k_1036⟩, k_1000, k_1001, by decide, TX3, CI3.1⟩
theorem fg_X9_326 : FG RX9 326 3 2 3 := ⟨RX3, TX3, CI3, by decide, Or.inr ⟨_, k_277⟩⟩
theorem cs_X9_329 : CSw RX9 329 M_X9_lowestTerms 3 := ⟨⟨k_1039, k_1, by decide +kernel, Or.inl k_1037⟩, k_1038⟩
theorem cv_X9_333 : CVw RX9 333 M_X3_isLeastMajority 1 3 3 := ⟨⟨k_1051, k_10, by decide +kernel, Or.inl k_1048⟩, k_1049, k_1050, by decide, TX3, CI3.1⟩
theorem cv_X9_336 : CVw RX9 336 M_X9_makesOneHold 1 9 15 := ⟨⟨k_1059, k_1, by decide +kernel, Or.inl k_1056⟩, k_1058, ks_35, by decide, TX9, CI9.1⟩
theorem cv_X9_339 : CVw RX9 339 M_X3_isMoreThanHalf 1 3 3 := ⟨⟨k_1007, k_10, by decide +kernel, Or.inl k_1060⟩, k_1005, k_1006, by decide, TX3, CI3.1⟩
theorem cv_X9_342 : CVw RX9 342 M_X9_isContent 4 9 15 := ⟨⟨k_1068, k_1, by decide +kernel, Or.inl k_1065⟩, k_1067, ks_36, by decide, TX9, CI9.1⟩
theorem cv_X9_346 : CVw RX9 346 M_X9_gainOf 4 9 15 := ⟨⟨k_1072, k_1, by decide +kernel, Or.inl k_1069⟩, k_1071, ks_37, by decide, TX9, CI9.1⟩
theorem cv_X9_350 : CVw RX9 350 M_X2_copyFrom 1 2 8 := ⟨⟨k_1076, k_7, by decide +kernel, Or.inl k_1073⟩, k_1074, k_1075, by decide, TX2, CI2.1⟩
theorem cv_X9_356 : CVw RX9 356 M_X2_gather 0 2 8 := ⟨⟨k_608, k_7, by decide +kernel, Or.inl k_1082⟩, k_606, k_607, by decide, TX2, CI2.1⟩
theorem cv_X9_353 : CVw RX9 353 M_X2_keepStill 1 2 8 := ⟨⟨k_1081, k_7, by decide +kernel, Or.inl k_1078⟩, k_1079, k_1080, by decide, TX2, CI2.1⟩
theorem cv_X9_359 : CVw RX9 359 M_X9_isChanceDance 1 9 15 := ⟨⟨k_1094, k_1, by decide +kernel, Or.inl k_1091⟩, k_1093, ks_38, by decide, TX9, CI9.1⟩
theorem fg_X9_85 : FG RX9 85 9 13 15 := ⟨RX9, TX9, CI9, by decide, Or.inl k_315⟩
theorem fg_X9_364 : FG RX9 364 0 4 10 := ⟨RX0, TX0, CI0, by decide, Or.inr ⟨_, k_81⟩⟩
theorem cv_X9_367 : CVw RX9 367 M_X4_play 5 4 3 := ⟨⟨k_1099, k_11, by decide +kernel, Or.inl k_1096⟩, k_1097, k_1098, by decide, TX4, CI4.1⟩
theorem fg_X4_9 : FG RX4 9 4 0 3 := ⟨RX4, TX4, CI4, by decide, Or.inl k_291⟩
theorem cs_X4_18 : CSw RX4 18 M_J7_fill_d0a16 2 := ⟨⟨k_1102, k_18, by decide +kernel, Or.inl k_1100⟩, k_1101⟩
theorem fp_X4_24 : FP RX4 24 4 2 3 := ⟨RX4, TX4, CI4, by decide, rfl, Or.inl k_293⟩
theorem cv_X4_28 : CVw RX4 28 M_X4_playOne 4 4 3 := ⟨⟨k_1106, k_11, by decide +kernel, Or.inl k_1103⟩, k_1105, ks_39, by decide, TX4, CI4.1⟩
theorem fg_X4_15 : FG RX4 15 4 1 3 := ⟨RX4, TX4, CI4, by decide, Or.inl k_292⟩
theorem cv_X4_34 : CVw RX4 34 M_X5_passed 3 5 6 := ⟨⟨k_807, k_8, by decide +kernel, Or.inl k_1107⟩, k_805, k_806, by decide, TX5, CI5.1⟩
theorem fg_X4_24 : FG RX4 24 4 2 3 := ⟨RX4, TX4, CI4, by decide, Or.inl k_293⟩
theorem cv_X9_371 : CVw RX9 371 M_X4_weightWith 1 4 3 := ⟨⟨k_1112, k_11, by decide +kernel, Or.inl k_1109⟩, k_1110, k_1111, by decide, TX4, CI4.1⟩
theorem cs_X4_40 : CSw RX4 40 M_X9_hasBit 2 := ⟨⟨k_599, k_1, by decide +kernel, Or.inr ⟨_, k_1113⟩⟩, k_598⟩
theorem fg_X9_374 : FG RX9 374 4 2 3 := ⟨RX4, TX4, CI4, by decide, Or.inr ⟨_, k_294⟩⟩
theorem cv_X9_377 : CVw RX9 377 M_X4_weightOfHolders 0 4 3 := ⟨⟨k_1121, k_11, by decide +kernel, Or.inl k_1118⟩, k_1119, k_1120, by decide, TX4, CI4.1⟩
theorem cs_X4_44 : CSw RX4 44 M_J6_bitCount_0f7a4 1 := ⟨⟨k_731, k_19, by decide +kernel, Or.inl k_1122⟩, k_730⟩
theorem fg_X9_400 : FG RX9 400 0 9 10 := ⟨RX0, TX0, CI0, by decide, Or.inr ⟨_, k_101⟩⟩
theorem cv_X9_403 : CVw RX9 403 M_X8_isFull 0 8 4 := ⟨⟨k_492, k_3, by decide +kernel, Or.inl k_1152⟩, k_490, k_491, by decide, TX8, CI8.1⟩
theorem cv_X9_406 : CVw RX9 406 M_X0_actBid 3 0 10 := ⟨⟨k_1156, k_2, by decide +kernel, Or.inl k_1153⟩, k_1154, k_1155, by decide, TX0, CI0.1⟩
theorem fg_X0_29 : FG RX0 29 0 9 10 := ⟨RX0, TX0, CI0, by decide, Or.inl k_99⟩
theorem cv_X0_74 : CVw RX0 74 M_X8_add 4 8 4 := ⟨⟨k_498, k_3, by decide +kernel, Or.inl k_1157⟩, k_496, k_497, by decide, TX8, CI8.1⟩
theorem cv_X8_35 : CVw RX8 35 M_X8_isFull 0 8 4 := ⟨⟨k_492, k_3, by decide +kernel, Or.inl k_499⟩, k_490, k_491, by decide, TX8, CI8.1⟩
theorem cv_X8_39 : CVw RX8 39 M_X8_put 3 8 4 := ⟨⟨k_503, k_3, by decide +kernel, Or.inl k_500⟩, k_501, k_502, by decide, TX8, CI8.1⟩
theorem cv_X9_107 : CVw RX9 107 M_X9_settle 0 9 15 := ⟨⟨k_542, k_1, by decide +kernel, Or.inl k_539⟩, k_541, ks_16, by decide, TX9, CI9.1⟩
theorem cv_X9_410 : CVw RX9 410 M_X0_actMove 2 0 10 := ⟨⟨k_1165, k_2, by decide +kernel, Or.inl k_1162⟩, k_1163, k_1164, by decide, TX0, CI0.1⟩
theorem cv_X0_78 : CVw RX0 78 M_X8_put 3 8 4 := ⟨⟨k_503, k_3, by decide +kernel, Or.inl k_1166⟩, k_501, k_502, by decide, TX8, CI8.1⟩
theorem cv_X9_414 : CVw RX9 414 M_X0_takeBack 0 0 10 := ⟨⟨k_1174, k_2, by decide +kernel, Or.inl k_1171⟩, k_1172, k_1173, by decide, TX0, CI0.1⟩
theorem cv_X0_82 : CVw RX0 82 M_X8_dropLast 0 8 4 := ⟨⟨k_1178, k_3, by decide +kernel, Or.inl k_1175⟩, k_1176, k_1177, by decide, TX8, CI8.1⟩
theorem cs_X9_381 : CSw RX9 381 M_X9_isSeed 1 := ⟨⟨k_1129, k_1, by decide +kernel, Or.inl k_1127⟩, k_1128⟩
theorem cv_X9_384 : CVw RX9 384 M_X9_loudDances 1 9 15 := ⟨⟨k_1134, k_1, by decide +kernel, Or.inl k_1131⟩, k_1133, ks_40, by decide, TX9, CI9.1⟩
theorem cv_X9_387 : CVw RX9 387 M_X9_drawnHolders 2 9 15 := ⟨⟨k_1143, k_1, by decide +kernel, Or.inl k_1140⟩, k_1142, ks_41, by decide, TX9, CI9.1⟩
theorem cv_X9_417 : CVw RX9 417 M_X8_put 3 8 4 := ⟨⟨k_503, k_3, by decide +kernel, Or.inl k_1187⟩, k_501, k_502, by decide, TX8, CI8.1⟩
theorem fg_X9_420 : FG RX9 420 0 8 10 := ⟨RX0, TX0, CI0, by decide, Or.inr ⟨_, k_98⟩⟩
theorem fg_X9_110 : FG RX9 110 0 0 10 := ⟨RX0, TX0, CI0, by decide, Or.inr ⟨_, k_66⟩⟩
theorem cv_X9_423 : CVw RX9 423 M_X9_slotsWithRow 0 9 15 := ⟨⟨k_1195, k_1, by decide +kernel, Or.inl k_1192⟩, k_1194, ks_42, by decide, TX9, CI9.1⟩
theorem fg_X9_40 : FG RX9 40 9 6 15 := ⟨RX9, TX9, CI9, by decide, Or.inl k_308⟩
theorem cv_X9_103 : CVw RX9 103 M_X0_copyFrom 1 0 10 := ⟨⟨k_530, k_2, by decide +kernel, Or.inl k_527⟩, k_528, k_529, by decide, TX0, CI0.1⟩
theorem fp_X0_32 : FP RX0 32 0 0 10 := ⟨RX0, TX0, CI0, by decide, rfl, Or.inl k_64⟩
theorem fp_X0_36 : FP RX0 36 0 1 10 := ⟨RX0, TX0, CI0, by decide, rfl, Or.inl k_67⟩
theorem fp_X0_39 : FP RX0 39 0 2 10 := ⟨RX0, TX0, CI0, by decide, rfl, Or.inl k_71⟩
theorem fg_X0_42 : FG RX0 42 0 3 10 := ⟨RX0, TX0, CI0, by decide, Or.inl k_76⟩
theorem fp_X0_42 : FP RX0 42 0 3 10 := ⟨RX0, TX0, CI0, by decide, rfl, Or.inl k_76⟩
theorem fg_X0_45 : FG RX0 45 0 4 10 := ⟨RX0, TX0, CI0, by decide, Or.inl k_79⟩
theorem fp_X0_45 : FP RX0 45 0 4 10 := ⟨RX0, TX0, CI0, by decide, rfl, Or.inl k_79⟩
theorem fg_X0_14 : FG RX0 14 0 5 10 := ⟨RX0, TX0, CI0, by decide, Or.inl k_82⟩
theorem cv_X0_51 : CVw RX0 51 M_X8_copyFrom 1 8 4 := ⟨⟨k_534, k_3, by decide +kernel, Or.inl k_531⟩, k_532, k_533, by decide, TX8, CI8.1⟩
theorem fg_X0_26 : FG RX0 26 0 8 10 := ⟨RX0, TX0, CI0, by decide, Or.inl k_95⟩
theorem cv_X9_429 : CVw RX9 429 M_X7_put 2 7 3 := ⟨⟨k_1221, k_6, by decide +kernel, Or.inl k_1218⟩, k_1219, k_1220, by decide, TX7, CI7.1⟩
theorem cv_X7_36 : CVw RX7 36 M_X7_cut 1 7 3 := ⟨⟨k_1225, k_6, by decide +kernel, Or.inl k_1222⟩, k_1224, ks_43, by decide, TX7, CI7.1⟩
theorem fg_X7_19 : FG RX7 19 7 1 3 := ⟨RX7, TX7, CI7, by decide, Or.inl k_166⟩
theorem fg_X9_432 : FG RX9 432 7 1 3 := ⟨RX7, TX7, CI7, by decide, Or.inr ⟨_, k_167⟩⟩
theorem cv_X9_435 : CVw RX9 435 M_X7_hasStretch 2 7 3 := ⟨⟨k_1233, k_6, by decide +kernel, Or.inl k_1230⟩, k_1231, k_1232, by decide, TX7, CI7.1⟩
theorem fg_X9_438 : FG RX9 438 7 0 3 := ⟨RX7, TX7, CI7, by decide, Or.inr ⟨_, k_165⟩⟩
