abbrev M_X9_appendFour : Mt := (yX9_appendFour, cX9_appendFour, 3, none)
abbrev M_X9_feed : Mt := (yX9_feed, cX9_feed, 6, some .int)
abbrev M_X9_end : Mt := (yX9_end, cX9_end, 2, some .int)
abbrev M_X9_fault : Mt := (yX9_fault, cX9_fault, 2, some .int)
abbrev M_X8_hasCell : Mt := (yX8_hasCell, cX8_hasCell, 3, some .boolean)
abbrev M_X9_door : Mt := (yX9_door, cX9_door, 3, some .int)
abbrev M_X9_lady : Mt := (yX9_lady, cX9_lady, 3, some .int)
abbrev M_X9_minister : Mt := (yX9_minister, cX9_minister, 3, some .int)
abbrev M_X0_hasLady : Mt := (yX0_hasLady, cX0_hasLady, 2, some .boolean)
abbrev M_X8_has : Mt := (yX8_has, cX8_has, 2, some .boolean)
abbrev M_X9_way : Mt := (yX9_way, cX9_way, 4, some .int)
abbrev M_X9_reach : Mt := (yX9_reach, cX9_reach, 3, some .int)
abbrev M_X9_bidden : Mt := (yX9_bidden, cX9_bidden, 3, some .int)
abbrev M_X9_at : Mt := (yX9_at, cX9_at, 3, some .int)
abbrev M_X0_hasRoom : Mt := (yX0_hasRoom, cX0_hasRoom, 2, some .boolean)
abbrev M_X9_within : Mt := (yX9_within, cX9_within, 3, some .int)
abbrev M_X9_steps : Mt := (yX9_steps, cX9_steps, 2, some .int)
abbrev M_X9_sees : Mt := (yX9_sees, cX9_sees, 4, some .int)
abbrev M_X9_meets : Mt := (yX9_meets, cX9_meets, 4, some .int)
abbrev M_X9_often : Mt := (yX9_often, cX9_often, 3, some .int)
abbrev M_X9_friends : Mt := (yX9_friends, cX9_friends, 2, some .int)
abbrev M_X0_isTold : Mt := (yX0_isTold, cX0_isTold, 1, some .boolean)
abbrev M_X9_crush : Mt := (yX9_crush, cX9_crush, 3, some .int)
abbrev M_X9_crushed : Mt := (yX9_crushed, cX9_crushed, 3, some .int)
abbrev M_X9_likes : Mt := (yX9_likes, cX9_likes, 6, some .int)
abbrev M_X9_apart : Mt := (yX9_apart, cX9_apart, 4, some .int)
abbrev M_X0_hasDance : Mt := (yX0_hasDance, cX0_hasDance, 2, some .boolean)
abbrev M_X9_alone : Mt := (yX9_alone, cX9_alone, 4, some .int)
abbrev M_X9_empty : Mt := (yX9_empty, cX9_empty, 4, some .int)
abbrev M_X9_late : Mt := (yX9_late, cX9_late, 3, some .int)
abbrev M_X9_waits : Mt := (yX9_waits, cX9_waits, 6, some .int)
abbrev M_X9_mate : Mt := (yX9_mate, cX9_mate, 6, some .int)
abbrev M_X9_hears : Mt := (yX9_hears, cX9_hears, 4, some .int)
abbrev M_X9_hands : Mt := (yX9_hands, cX9_hands, 5, some .int)
abbrev M_X9_dummies : Mt := (yX9_dummies, cX9_dummies, 3, some .int)
abbrev M_X0_hasSet : Mt := (yX0_hasSet, cX0_hasSet, 2, some .boolean)
abbrev M_X9_blocks : Mt := (yX9_blocks, cX9_blocks, 2, some .int)
abbrev M_X9_strongest : Mt := (yX9_strongest, cX9_strongest, 5, some .int)
abbrev M_X9_have : Mt := (yX9_have, cX9_have, 3, some .int)
abbrev M_X9_gets : Mt := (yX9_gets, cX9_gets, 3, some .int)
abbrev M_X9_from : Mt := (yX9_from, cX9_from, 3, some .int)
abbrev M_X9_all : Mt := (yX9_all, cX9_all, 4, some .int)
abbrev M_X9_best : Mt := (yX9_best, cX9_best, 5, some .int)
abbrev M_X9_lasts : Mt := (yX9_lasts, cX9_lasts, 4, some .int)
abbrev M_X9_needed : Mt := (yX9_needed, cX9_needed, 6, some .int)
abbrev M_X9_by : Mt := (yX9_by, cX9_by, 3, some .int)
abbrev M_X9_carry : Mt := (yX9_carry, cX9_carry, 4, some .int)
abbrev M_X9_walk : Mt := (yX9_walk, cX9_walk, 6, some .int)
abbrev M_X9_widen : Mt := (yX9_widen, cX9_widen, 7, some .int)
abbrev M_X9_shut : Mt := (yX9_shut, cX9_shut, 3, some .int)
abbrev M_X9_bars : Mt := (yX9_bars, cX9_bars, 5, some .int)
abbrev M_X9_seenFault : Mt := (yX9_seenFault, cX9_seenFault, 4, some .int)
abbrev M_X9_isSlot : Mt := (yX9_isSlot, cX9_isSlot, 1, some .boolean)
abbrev M_X9_firsts : Mt := (yX9_firsts, cX9_firsts, 3, some .int)
abbrev M_X9_ask : Mt := (yX9_ask, cX9_ask, 3, some .int)
abbrev M_X9_leaves : Mt := (yX9_leaves, cX9_leaves, 5, some .int)
abbrev M_X9_seats : Mt := (yX9_seats, cX9_seats, 2, some .int)
abbrev M_X9_under : Mt := (yX9_under, cX9_under, 2, some .int)
abbrev M_X9_holds : Mt := (yX9_holds, cX9_holds, 2, some .int)
abbrev M_X9_power : Mt := (yX9_power, cX9_power, 2, some .int)
abbrev M_X9_part : Mt := (yX9_part, cX9_part, 3, some .int)
abbrev M_X9_cabinet : Mt := (yX9_cabinet, cX9_cabinet, 4, some .int)
abbrev M_X9_cabinets : Mt := (yX9_cabinets, cX9_cabinets, 3, some .int)
abbrev M_X9_kingmaker : Mt := (yX9_kingmaker, cX9_kingmaker, 2, some .int)
abbrev M_X9_rests : Mt := (yX9_rests, cX9_rests, 7, some .int)
abbrev M_X9_gains : Mt := (yX9_gains, cX9_gains, 5, some .int)
abbrev M_X9_chance : Mt := (yX9_chance, cX9_chance, 5, some .long)
abbrev M_X9_mean : Mt := (yX9_mean, cX9_mean, 4, some .long)
abbrev M_X9_bid : Mt := (yX9_bid, cX9_bid, 4, some .int)
abbrev M_X9_move : Mt := (yX9_move, cX9_move, 4, some .int)
abbrev M_X9_undo : Mt := (yX9_undo, cX9_undo, 1, some .int)
abbrev M_X9_anew : Mt := (yX9_anew, cX9_anew, 3, some .int)
abbrev M_X9_isSeed : Mt := (yX9_isSeed, cX9_isSeed, 1, some .boolean)
abbrev M_X9_drawn : Mt := (yX9_drawn, cX9_drawn, 5, some .int)
abbrev M_X9_luck : Mt := (yX9_luck, cX9_luck, 7, some .int)
abbrev M_X9_hang : Mt := (yX9_hang, cX9_hang, 4, some .int)
abbrev M_X9_slotsWithRow : Mt := (yX9_slotsWithRow, cX9_slotsWithRow, 3, some .int)
abbrev M_X7_isBare : Mt := (yX7_isBare, cX7_isBare, 1, some .boolean)
abbrev M_X9_count : Mt := (yX9_count, cX9_count, 2, some .int)
abbrev M_X0_copyFrom : Mt := (yX0_copyFrom, cX0_copyFrom, 2, none)
abbrev M_X8_copyFrom : Mt := (yX8_copyFrom, cX8_copyFrom, 2, none)
abbrev M_X9_image : Mt := (yX9_image, cX9_image, 2, some .int)
abbrev M_X9_back : Mt := (yX9_back, cX9_back, 2, some .int)
abbrev M_X7_start : Mt := (yX7_start, cX7_start, 3, none)
abbrev M_J7_fill_d0a16 : Mt := (yJ7_fill_d0a16, cJ7_fill_d0a16, 5, none)
abbrev M_X9_row : Mt := (yX9_row, cX9_row, 4, some .int)
abbrev M_X9_write : Mt := (yX9_write, cX9_write, 5, some .int)
abbrev M_X9_paste : Mt := (yX9_paste, cX9_paste, 8, some .int)
abbrev M_X10_feed : Mt := (yX10_feed, cX10_feed, 7, some .int)
abbrev M_X10_in : Mt := (yX10_in, cX10_in, 6, some .boolean)
abbrev M_X10_end : Mt := (yX10_end, cX10_end, 2, some .int)
abbrev M_X10_fault : Mt := (yX10_fault, cX10_fault, 2, some .int)
abbrev M_X10_isDoor : Mt := (yX10_isDoor, cX10_isDoor, 2, some .boolean)
abbrev M_X10_door : Mt := (yX10_door, cX10_door, 3, some .int)
abbrev M_X10_isLady : Mt := (yX10_isLady, cX10_isLady, 3, some .boolean)
abbrev M_X10_lady : Mt := (yX10_lady, cX10_lady, 3, some .int)
abbrev M_X10_asItIs : Mt := (yX10_asItIs, cX10_asItIs, 1, none)
abbrev M_X10_layMinisters : Mt := (yX10_layMinisters, cX10_layMinisters, 3, none)
abbrev M_X10_layPlaces : Mt := (yX10_layPlaces, cX10_layPlaces, 3, none)
abbrev M_X10_layWays : Mt := (yX10_layWays, cX10_layWays, 8, none)
abbrev M_X10_ladies : Mt := (yX10_ladies, cX10_ladies, 1, some .int)
abbrev M_X10_isMinister : Mt := (yX10_isMinister, cX10_isMinister, 2, some .boolean)
abbrev M_X10_minister : Mt := (yX10_minister, cX10_minister, 3, some .int)
abbrev M_X10_asksLady : Mt := (yX10_asksLady, cX10_asksLady, 2, some .boolean)
abbrev M_X10_way : Mt := (yX10_way, cX10_way, 5, some .int)
abbrev M_X10_reach : Mt := (yX10_reach, cX10_reach, 5, some .int)
abbrev M_X10_bidden : Mt := (yX10_bidden, cX10_bidden, 3, some .int)
abbrev M_X10_asksDance : Mt := (yX10_asksDance, cX10_asksDance, 2, some .boolean)
abbrev M_X10_isDance : Mt := (yX10_isDance, cX10_isDance, 3, some .boolean)
abbrev M_X10_isBall : Mt := (yX10_isBall, cX10_isBall, 1, some .boolean)
abbrev M_X10_at : Mt := (yX10_at, cX10_at, 3, some .int)
abbrev M_X10_within : Mt := (yX10_within, cX10_within, 3, some .int)
abbrev M_X10_steps : Mt := (yX10_steps, cX10_steps, 2, some .int)
abbrev M_X10_sees : Mt := (yX10_sees, cX10_sees, 4, some .int)
abbrev M_X10_meets : Mt := (yX10_meets, cX10_meets, 3, some .int)
abbrev M_X10_often : Mt := (yX10_often, cX10_often, 3, some .int)
abbrev M_X10_friends : Mt := (yX10_friends, cX10_friends, 2, some .int)
abbrev M_X10_asksBall : Mt := (yX10_asksBall, cX10_asksBall, 1, some .boolean)
abbrev M_X10_crush : Mt := (yX10_crush, cX10_crush, 1, some .int)
abbrev M_X10_crushed : Mt := (yX10_crushed, cX10_crushed, 1, some .int)
abbrev M_X10_likes : Mt := (yX10_likes, cX10_likes, 7, some .int)
abbrev M_X10_apart : Mt := (yX10_apart, cX10_apart, 5, some .int)
abbrev M_X10_alone : Mt := (yX10_alone, cX10_alone, 4, some .int)
abbrev M_X10_empty : Mt := (yX10_empty, cX10_empty, 4, some .int)
abbrev M_X10_late : Mt := (yX10_late, cX10_late, 4, some .int)
abbrev M_X10_waits : Mt := (yX10_waits, cX10_waits, 4, some .int)
abbrev M_X10_mate : Mt := (yX10_mate, cX10_mate, 5, some .int)
abbrev M_X10_hears : Mt := (yX10_hears, cX10_hears, 4, some .int)
abbrev M_X10_asksNote : Mt := (yX10_asksNote, cX10_asksNote, 3, some .boolean)
abbrev M_X10_hands : Mt := (yX10_hands, cX10_hands, 5, some .int)
abbrev M_X10_dummies : Mt := (yX10_dummies, cX10_dummies, 3, some .int)
abbrev M_X10_isSet : Mt := (yX10_isSet, cX10_isSet, 2, some .boolean)
abbrev M_X10_blocks : Mt := (yX10_blocks, cX10_blocks, 2, some .int)
abbrev M_X10_strongest : Mt := (yX10_strongest, cX10_strongest, 4, some .int)
abbrev M_X10_have : Mt := (yX10_have, cX10_have, 3, some .int)
abbrev M_X10_gets : Mt := (yX10_gets, cX10_gets, 3, some .int)
abbrev M_X10_from : Mt := (yX10_from, cX10_from, 3, some .int)
abbrev M_X10_all : Mt := (yX10_all, cX10_all, 3, some .int)
abbrev M_X10_best : Mt := (yX10_best, cX10_best, 5, some .int)
abbrev M_X10_lasts : Mt := (yX10_lasts, cX10_lasts, 4, some .int)
abbrev M_X10_needed : Mt := (yX10_needed, cX10_needed, 5, some .int)
abbrev M_X10_by : Mt := (yX10_by, cX10_by, 3, some .int)
abbrev M_X10_asksCarry : Mt := (yX10_asksCarry, cX10_asksCarry, 4, some .boolean)
abbrev M_X10_carry : Mt := (yX10_carry, cX10_carry, 4, some .int)
abbrev M_X10_walk : Mt := (yX10_walk, cX10_walk, 5, some .int)
abbrev M_X10_widen : Mt := (yX10_widen, cX10_widen, 7, some .int)
abbrev M_X10_shut : Mt := (yX10_shut, cX10_shut, 3, some .int)
abbrev M_X10_bars : Mt := (yX10_bars, cX10_bars, 4, some .int)
abbrev M_X10_layFirsts : Mt := (yX10_layFirsts, cX10_layFirsts, 6, some .int)
abbrev M_X10_isSlot : Mt := (yX10_isSlot, cX10_isSlot, 1, some .boolean)
abbrev M_X10_firsts : Mt := (yX10_firsts, cX10_firsts, 2, some .int)
abbrev M_X10_ask : Mt := (yX10_ask, cX10_ask, 3, some .int)
abbrev M_X10_leaves : Mt := (yX10_leaves, cX10_leaves, 3, some .int)
abbrev M_X10_seats : Mt := (yX10_seats, cX10_seats, 2, some .int)
abbrev M_X10_under : Mt := (yX10_under, cX10_under, 4, some .int)
abbrev M_X10_holds : Mt := (yX10_holds, cX10_holds, 2, some .int)
abbrev M_X10_power : Mt := (yX10_power, cX10_power, 2, some .int)
abbrev M_X10_part : Mt := (yX10_part, cX10_part, 4, some .int)
abbrev M_X10_cabinet : Mt := (yX10_cabinet, cX10_cabinet, 3, some .int)
abbrev M_X10_cabinets : Mt := (yX10_cabinets, cX10_cabinets, 3, some .int)
abbrev M_X10_kingmaker : Mt := (yX10_kingmaker, cX10_kingmaker, 3, some .int)
abbrev M_X10_areTwo : Mt := (yX10_areTwo, cX10_areTwo, 3, some .boolean)
abbrev M_X10_rests : Mt := (yX10_rests, cX10_rests, 8, some .int)
abbrev M_X10_gains : Mt := (yX10_gains, cX10_gains, 5, some .int)
abbrev M_X10_asksMusic : Mt := (yX10_asksMusic, cX10_asksMusic, 4, some .boolean)
abbrev M_X10_chance : Mt := (yX10_chance, cX10_chance, 5, some .long)
abbrev M_X10_mean : Mt := (yX10_mean, cX10_mean, 4, some .long)
abbrev M_X10_bid : Mt := (yX10_bid, cX10_bid, 4, some .int)
abbrev M_X10_move : Mt := (yX10_move, cX10_move, 4, some .int)
abbrev M_X10_undo : Mt := (yX10_undo, cX10_undo, 1, some .int)
abbrev M_X10_anew : Mt := (yX10_anew, cX10_anew, 2, some .int)
abbrev M_X10_isSeed : Mt := (yX10_isSeed, cX10_isSeed, 1, some .boolean)
abbrev M_X10_drawn : Mt := (yX10_drawn, cX10_drawn, 5, some .int)
abbrev M_X10_luck : Mt := (yX10_luck, cX10_luck, 7, some .int)
abbrev M_X10_hang : Mt := (yX10_hang, cX10_hang, 4, some .int)
abbrev M_X10_count : Mt := (yX10_count, cX10_count, 4, some .int)
abbrev M_X10_image : Mt := (yX10_image, cX10_image, 3, some .int)
abbrev M_X10_back : Mt := (yX10_back, cX10_back, 3, some .int)
abbrev M_X10_row : Mt := (yX10_row, cX10_row, 5, some .int)
abbrev M_X10_write : Mt := (yX10_write, cX10_write, 5, some .int)
abbrev M_X10_paste : Mt := (yX10_paste, cX10_paste, 7, some .int)
theorem k_355 : (Jvm.Cond.code ({ cls := "HoopCabinet", name := "appendFour", desc := "(I)V" } : Jvm.MethodName) prog_1_method_3_code (3 : Nat) (Option.none : Option Jvm.ClassFile.FieldType)) ∈ lw_tbl := List.mem_append_right _ (List.mem_of_getElem? (i := 355) (by decide +kernel))
theorem k_1 : (Jvm.Cond.initialized "HoopCabinet") ∈ lw_tbl := List.mem_append_right _ (List.mem_of_getElem? (i := 1) (by decide +kernel))
theorem k_352 : (Jvm.Cond.methodLink "HoopCabinet" (93 : Nat) ({ cls := "HoopCabinet", name := "appendFour", desc := "(I)V" } : Jvm.MethodName)) ∈ lw_tbl := List.mem_append_right _ (List.mem_of_getElem? (i := 352) (by decide +kernel))
theorem k_354 : (Jvm.Cond.instanceMethod ({ cls := "HoopCabinet", name := "appendFour", desc := "(I)V" } : Jvm.MethodName)) ∈ lw_tbl := List.mem_append_right _ (List.mem_of_getElem? (i := 354) (by decide +kernel))
theorem ks_0 : Cond.selects "HoopCabinet" ({ cls := "HoopCabinet", name := "appendFour", desc := "(I)V" } : Jvm.MethodName) ({ cls := "HoopCabinet", name := "appendFour", desc := "(I)V" } : Jvm.MethodName) ∈ lw_tbl := List.mem_append_left _ (List.mem_of_getElem? (i := 0) (by decide +kernel))
theorem k_138 : (Jvm.Cond.fieldLinkNest "HoopCabinet" (113 : Nat) "HoopCabinet$Reader" "faultPlace" "I" "HoopCabinet") ∈ lw_tbl := List.mem_append_right _ (List.mem_of_getElem? (i := 138) (by decide +kernel))
theorem k_136 : (Jvm.Cond.fieldLinkNest "HoopCabinet" (100 : Nat) "HoopCabinet$Reader" "fault" "I" "HoopCabinet") ∈ lw_tbl := List.mem_append_right _ (List.mem_of_getElem? (i := 136) (by decide +kernel))
theorem k_85 : (Jvm.Cond.fieldLinkNest "HoopCabinet" (119 : Nat) "HoopCabinet$Ball" "doors" "LHoopCabinet$Table;" "HoopCabinet") ∈ lw_tbl := List.mem_append_right _ (List.mem_of_getElem? (i := 85) (by decide +kernel))
theorem k_507 : (Jvm.Cond.code ({ cls := "HoopCabinet$Table", name := "hasCell", desc := "(II)Z" } : Jvm.MethodName) prog_10_method_3_code (3 : Nat) (Option.some Jvm.ClassFile.FieldType.boolean)) ∈ lw_tbl := List.mem_append_right _ (List.mem_of_getElem? (i := 507) (by decide +kernel))
theorem k_625 : (Jvm.Cond.methodLink "HoopCabinet" (123 : Nat) ({ cls := "HoopCabinet$Table", name := "hasCell", desc := "(II)Z" } : Jvm.MethodName)) ∈ lw_tbl := List.mem_append_right _ (List.mem_of_getElem? (i := 625) (by decide +kernel))
theorem k_505 : (Jvm.Cond.instanceMethod ({ cls := "HoopCabinet$Table", name := "hasCell", desc := "(II)Z" } : Jvm.MethodName)) ∈ lw_tbl := List.mem_append_right _ (List.mem_of_getElem? (i := 505) (by decide +kernel))
theorem k_506 : (Jvm.Cond.selects "HoopCabinet$Table" ({ cls := "HoopCabinet$Table", name := "hasCell", desc := "(II)Z" } : Jvm.MethodName) ({ cls := "HoopCabinet$Table", name := "hasCell", desc := "(II)Z" } : Jvm.MethodName)) ∈ lw_tbl := List.mem_append_right _ (List.mem_of_getElem? (i := 506) (by decide +kernel))
theorem k_91 : (Jvm.Cond.fieldLinkNest "HoopCabinet" (133 : Nat) "HoopCabinet$Ball" "ladies" "LHoopCabinet$Table;" "HoopCabinet") ∈ lw_tbl := List.mem_append_right _ (List.mem_of_getElem? (i := 91) (by decide +kernel))
theorem k_94 : (Jvm.Cond.fieldLinkNest "HoopCabinet" (136 : Nat) "HoopCabinet$Ball" "ministers" "LHoopCabinet$Table;" "HoopCabinet") ∈ lw_tbl := List.mem_append_right _ (List.mem_of_getElem? (i := 94) (by decide +kernel))
theorem k_642 : (Jvm.Cond.code ({ cls := "HoopCabinet$Ball", name := "hasLady", desc := "(I)Z" } : Jvm.MethodName) prog_2_method_5_code (2 : Nat) (Option.some Jvm.ClassFile.FieldType.boolean)) ∈ lw_tbl := List.mem_append_right _ (List.mem_of_getElem? (i := 642) (by decide +kernel))
theorem k_639 : (Jvm.Cond.methodLink "HoopCabinet" (139 : Nat) ({ cls := "HoopCabinet$Ball", name := "hasLady", desc := "(I)Z" } : Jvm.MethodName)) ∈ lw_tbl := List.mem_append_right _ (List.mem_of_getElem? (i := 639) (by decide +kernel))
theorem k_640 : (Jvm.Cond.instanceMethod ({ cls := "HoopCabinet$Ball", name := "hasLady", desc := "(I)Z" } : Jvm.MethodName)) ∈ lw_tbl := List.mem_append_right _ (List.mem_of_getElem? (i := 640) (by decide +kernel))
theorem k_641 : (Jvm.Cond.selects "HoopCabinet$Ball" ({ cls := "HoopCabinet$Ball", name := "hasLady", desc := "(I)Z" } : Jvm.MethodName) ({ cls := "HoopCabinet$Ball", name := "hasLady", desc := "(I)Z" } : Jvm.MethodName)) ∈ lw_tbl := List.mem_append_right _ (List.mem_of_getElem? (i := 641) (by decide +kernel))
theorem k_646 : (Jvm.Cond.code ({ cls := "HoopCabinet$Table", name := "has", desc := "(I)Z" } : Jvm.MethodName) prog_10_method_2_code (2 : Nat) (Option.some Jvm.ClassFile.FieldType.boolean)) ∈ lw_tbl := List.mem_append_right _ (List.mem_of_getElem? (i := 646) (by decide +kernel))
theorem k_643 : (Jvm.Cond.methodLink "HoopCabinet$Ball" (55 : Nat) ({ cls := "HoopCabinet$Table", name := "has", desc := "(I)Z" } : Jvm.MethodName)) ∈ lw_tbl := List.mem_append_right _ (List.mem_of_getElem? (i := 643) (by decide +kernel))
theorem k_644 : (Jvm.Cond.instanceMethod ({ cls := "HoopCabinet$Table", name := "has", desc := "(I)Z" } : Jvm.MethodName)) ∈ lw_tbl := List.mem_append_right _ (List.mem_of_getElem? (i := 644) (by decide +kernel))
theorem k_645 : (Jvm.Cond.selects "HoopCabinet$Table" ({ cls := "HoopCabinet$Table", name := "has", desc := "(I)Z" } : Jvm.MethodName) ({ cls := "HoopCabinet$Table", name := "has", desc := "(I)Z" } : Jvm.MethodName)) ∈ lw_tbl := List.mem_append_right _ (List.mem_of_getElem? (i := 645) (by decide +kernel))
theorem k_562 : (Jvm.Cond.code ({ cls := "HoopCabinet$Ball", name := "hasRoom", desc := "(I)Z" } : Jvm.MethodName) prog_2_method_6_code (2 : Nat) (Option.some Jvm.ClassFile.FieldType.boolean)) ∈ lw_tbl := List.mem_append_right _ (List.mem_of_getElem? (i := 562) (by decide +kernel))
theorem k_647 : (Jvm.Cond.methodLink "HoopCabinet" (143 : Nat) ({ cls := "HoopCabinet$Ball", name := "hasRoom", desc := "(I)Z" } : Jvm.MethodName)) ∈ lw_tbl := List.mem_append_right _ (List.mem_of_getElem? (i := 647) (by decide +kernel))
theorem k_560 : (Jvm.Cond.instanceMethod ({ cls := "HoopCabinet$Ball", name := "hasRoom", desc := "(I)Z" } : Jvm.MethodName)) ∈ lw_tbl := List.mem_append_right _ (List.mem_of_getElem? (i := 560) (by decide +kernel))
theorem k_561 : (Jvm.Cond.selects "HoopCabinet$Ball" ({ cls := "HoopCabinet$Ball", name := "hasRoom", desc := "(I)Z" } : Jvm.MethodName) ({ cls := "HoopCabinet$Ball", name := "hasRoom", desc := "(I)Z" } : Jvm.MethodName)) ∈ lw_tbl := List.mem_append_right _ (List.mem_of_getElem? (i := 561) (by decide +kernel))
theorem k_67 : (Jvm.Cond.fieldLink "HoopCabinet$Ball" (36 : Nat) "HoopCabinet$Ball" "rooms" "I") ∈ lw_tbl := List.mem_append_right _ (List.mem_of_getElem? (i := 67) (by decide +kernel))
theorem k_671 : (Jvm.Cond.code ({ cls := "HoopCabinet$Ball", name := "isTold", desc := "()Z" } : Jvm.MethodName) prog_2_method_4_code (1 : Nat) (Option.some Jvm.ClassFile.FieldType.boolean)) ∈ lw_tbl := List.mem_append_right _ (List.mem_of_getElem? (i := 671) (by decide +kernel))
theorem k_724 : (Jvm.Cond.methodLink "HoopCabinet" (184 : Nat) ({ cls := "HoopCabinet$Ball", name := "isTold", desc := "()Z" } : Jvm.MethodName)) ∈ lw_tbl := List.mem_append_right _ (List.mem_of_getElem? (i := 724) (by decide +kernel))
theorem k_669 : (Jvm.Cond.instanceMethod ({ cls := "HoopCabinet$Ball", name := "isTold", desc := "()Z" } : Jvm.MethodName)) ∈ lw_tbl := List.mem_append_right _ (List.mem_of_getElem? (i := 669) (by decide +kernel))
theorem k_670 : (Jvm.Cond.selects "HoopCabinet$Ball" ({ cls := "HoopCabinet$Ball", name := "isTold", desc := "()Z" } : Jvm.MethodName) ({ cls := "HoopCabinet$Ball", name := "isTold", desc := "()Z" } : Jvm.MethodName)) ∈ lw_tbl := List.mem_append_right _ (List.mem_of_getElem? (i := 670) (by decide +kernel))
theorem k_64 : (Jvm.Cond.fieldLink "HoopCabinet$Ball" (32 : Nat) "HoopCabinet$Ball" "lines" "I") ∈ lw_tbl := List.mem_append_right _ (List.mem_of_getElem? (i := 64) (by decide +kernel))
theorem k_723 : (Jvm.Cond.code ({ cls := "HoopCabinet", name := "crush", desc := "()I" } : Jvm.MethodName) prog_1_method_21_code (3 : Nat) (Option.some Jvm.ClassFile.FieldType.int)) ∈ lw_tbl := List.mem_append_right _ (List.mem_of_getElem? (i := 723) (by decide +kernel))
theorem k_740 : (Jvm.Cond.methodLink "HoopCabinet" (196 : Nat) ({ cls := "HoopCabinet", name := "crush", desc := "()I" } : Jvm.MethodName)) ∈ lw_tbl := List.mem_append_right _ (List.mem_of_getElem? (i := 740) (by decide +kernel))
theorem k_721 : (Jvm.Cond.instanceMethod ({ cls := "HoopCabinet", name := "crush", desc := "()I" } : Jvm.MethodName)) ∈ lw_tbl := List.mem_append_right _ (List.mem_of_getElem? (i := 721) (by decide +kernel))
theorem k_722 : (Jvm.Cond.selects "HoopCabinet" ({ cls := "HoopCabinet", name := "crush", desc := "()I" } : Jvm.MethodName) ({ cls := "HoopCabinet", name := "crush", desc := "()I" } : Jvm.MethodName)) ∈ lw_tbl := List.mem_append_right _ (List.mem_of_getElem? (i := 722) (by decide +kernel))
theorem k_667 : (Jvm.Cond.code ({ cls := "HoopCabinet$Ball", name := "hasDance", desc := "(I)Z" } : Jvm.MethodName) prog_2_method_7_code (2 : Nat) (Option.some Jvm.ClassFile.FieldType.boolean)) ∈ lw_tbl := List.mem_append_right _ (List.mem_of_getElem? (i := 667) (by decide +kernel))
theorem k_664 : (Jvm.Cond.methodLink "HoopCabinet" (153 : Nat) ({ cls := "HoopCabinet$Ball", name := "hasDance", desc := "(I)Z" } : Jvm.MethodName)) ∈ lw_tbl := List.mem_append_right _ (List.mem_of_getElem? (i := 664) (by decide +kernel))
theorem k_665 : (Jvm.Cond.instanceMethod ({ cls := "HoopCabinet$Ball", name := "hasDance", desc := "(I)Z" } : Jvm.MethodName)) ∈ lw_tbl := List.mem_append_right _ (List.mem_of_getElem? (i := 665) (by decide +kernel))
theorem k_666 : (Jvm.Cond.selects "HoopCabinet$Ball" ({ cls := "HoopCabinet$Ball", name := "hasDance", desc := "(I)Z" } : Jvm.MethodName) ({ cls := "HoopCabinet$Ball", name := "hasDance", desc := "(I)Z" } : Jvm.MethodName)) ∈ lw_tbl := List.mem_append_right _ (List.mem_of_getElem? (i := 666) (by decide +kernel))
theorem k_668 : (Jvm.Cond.methodLink "HoopCabinet$Ball" (59 : Nat) ({ cls := "HoopCabinet$Ball", name := "isTold", desc := "()Z" } : Jvm.MethodName)) ∈ lw_tbl := List.mem_append_right _ (List.mem_of_getElem? (i := 668) (by decide +kernel))
theorem k_988 : (Jvm.Cond.code ({ cls := "HoopCabinet$Ball", name := "hasSet", desc := "(I)Z" } : Jvm.MethodName) prog_2_method_8_code (2 : Nat) (Option.some Jvm.ClassFile.FieldType.boolean)) ∈ lw_tbl := List.mem_append_right _ (List.mem_of_getElem? (i := 988) (by decide +kernel))
theorem k_985 : (Jvm.Cond.methodLink "HoopCabinet" (308 : Nat) ({ cls := "HoopCabinet$Ball", name := "hasSet", desc := "(I)Z" } : Jvm.MethodName)) ∈ lw_tbl := List.mem_append_right _ (List.mem_of_getElem? (i := 985) (by decide +kernel))
theorem k_986 : (Jvm.Cond.instanceMethod ({ cls := "HoopCabinet$Ball", name := "hasSet", desc := "(I)Z" } : Jvm.MethodName)) ∈ lw_tbl := List.mem_append_right _ (List.mem_of_getElem? (i := 986) (by decide +kernel))
theorem k_987 : (Jvm.Cond.selects "HoopCabinet$Ball" ({ cls := "HoopCabinet$Ball", name := "hasSet", desc := "(I)Z" } : Jvm.MethodName) ({ cls := "HoopCabinet$Ball", name := "hasSet", desc := "(I)Z" } : Jvm.MethodName)) ∈ lw_tbl := List.mem_append_right _ (List.mem_of_getElem? (i := 987) (by decide +kernel))
theorem k_926 : (Jvm.Cond.code ({ cls := "HoopCabinet", name := "seenFault", desc := "(I)I" } : Jvm.MethodName) prog_1_method_51_code (4 : Nat) (Option.some Jvm.ClassFile.FieldType.int)) ∈ lw_tbl := List.mem_append_right _ (List.mem_of_getElem? (i := 926) (by decide +kernel))
theorem k_923 : (Jvm.Cond.methodLink "HoopCabinet" (263 : Nat) ({ cls := "HoopCabinet", name := "seenFault", desc := "(I)I" } : Jvm.MethodName)) ∈ lw_tbl := List.mem_append_right _ (List.mem_of_getElem? (i := 923) (by decide +kernel))
theorem k_925 : (Jvm.Cond.instanceMethod ({ cls := "HoopCabinet", name := "seenFault", desc := "(I)I" } : Jvm.MethodName)) ∈ lw_tbl := List.mem_append_right _ (List.mem_of_getElem? (i := 925) (by decide +kernel))
theorem ks_29 : Cond.selects "HoopCabinet" ({ cls := "HoopCabinet", name := "seenFault", desc := "(I)I" } : Jvm.MethodName) ({ cls := "HoopCabinet", name := "seenFault", desc := "(I)I" } : Jvm.MethodName) ∈ lw_tbl := List.mem_append_left _ (List.mem_of_getElem? (i := 29) (by decide +kernel))
theorem k_929 : (Jvm.Cond.code ({ cls := "HoopCabinet", name := "isSlot", desc := "(I)Z" } : Jvm.MethodName) prog_1_method_92_code (1 : Nat) (Option.some Jvm.ClassFile.FieldType.boolean)) ∈ lw_tbl := List.mem_append_right _ (List.mem_of_getElem? (i := 929) (by decide +kernel))
theorem k_927 : (Jvm.Cond.methodLink "HoopCabinet" (276 : Nat) ({ cls := "HoopCabinet", name := "isSlot", desc := "(I)Z" } : Jvm.MethodName)) ∈ lw_tbl := List.mem_append_right _ (List.mem_of_getElem? (i := 927) (by decide +kernel))
theorem k_928 : (Jvm.Cond.static ({ cls := "HoopCabinet", name := "isSlot", desc := "(I)Z" } : Jvm.MethodName)) ∈ lw_tbl := List.mem_append_right _ (List.mem_of_getElem? (i := 928) (by decide +kernel))
theorem k_1095 : (Jvm.Cond.constantLong "HoopCabinet" (362 : Nat) (-2 : Int64)) ∈ lw_tbl := List.mem_append_right _ (List.mem_of_getElem? (i := 1095) (by decide +kernel))
theorem k_909 : (Jvm.Cond.methodLink "HoopCabinet" (257 : Nat) ({ cls := "HoopCabinet$Table", name := "has", desc := "(I)Z" } : Jvm.MethodName)) ∈ lw_tbl := List.mem_append_right _ (List.mem_of_getElem? (i := 909) (by decide +kernel))
theorem k_1129 : (Jvm.Cond.code ({ cls := "HoopCabinet", name := "isSeed", desc := "(I)Z" } : Jvm.MethodName) prog_1_method_93_code (1 : Nat) (Option.some Jvm.ClassFile.FieldType.boolean)) ∈ lw_tbl := List.mem_append_right _ (List.mem_of_getElem? (i := 1129) (by decide +kernel))
theorem k_1127 : (Jvm.Cond.methodLink "HoopCabinet" (381 : Nat) ({ cls := "HoopCabinet", name := "isSeed", desc := "(I)Z" } : Jvm.MethodName)) ∈ lw_tbl := List.mem_append_right _ (List.mem_of_getElem? (i := 1127) (by decide +kernel))
theorem k_1128 : (Jvm.Cond.static ({ cls := "HoopCabinet", name := "isSeed", desc := "(I)Z" } : Jvm.MethodName)) ∈ lw_tbl := List.mem_append_right _ (List.mem_of_getElem? (i := 1128) (by decide +kernel))
theorem k_1130 : (Jvm.Cond.constant "HoopCabinet" (448 : Nat) (2000000000 : Int32)) ∈ lw_tbl := List.mem_append_right _ (List.mem_of_getElem? (i := 1130) (by decide +kernel))
theorem k_70 : (Jvm.Cond.fieldLinkNest "HoopCabinet" (208 : Nat) "HoopCabinet$Ball" "rooms" "I" "HoopCabinet") ∈ lw_tbl := List.mem_append_right _ (List.mem_of_getElem? (i := 70) (by decide +kernel))
theorem k_75 : (Jvm.Cond.fieldLinkNest "HoopCabinet" (169 : Nat) "HoopCabinet$Ball" "dances" "I" "HoopCabinet") ∈ lw_tbl := List.mem_append_right _ (List.mem_of_getElem? (i := 75) (by decide +kernel))
theorem k_78 : (Jvm.Cond.fieldLinkNest "HoopCabinet" (214 : Nat) "HoopCabinet$Ball" "law" "I" "HoopCabinet") ∈ lw_tbl := List.mem_append_right _ (List.mem_of_getElem? (i := 78) (by decide +kernel))
theorem k_81 : (Jvm.Cond.fieldLinkNest "HoopCabinet" (364 : Nat) "HoopCabinet$Ball" "odds" "I" "HoopCabinet") ∈ lw_tbl := List.mem_append_right _ (List.mem_of_getElem? (i := 81) (by decide +kernel))
theorem k_52 : (Jvm.Cond.fieldLinkNest "HoopCabinet" (200 : Nat) "HoopCabinet$Table" "rows" "I" "HoopCabinet") ∈ lw_tbl := List.mem_append_right _ (List.mem_of_getElem? (i := 52) (by decide +kernel))
theorem k_98 : (Jvm.Cond.fieldLinkNest "HoopCabinet" (420 : Nat) "HoopCabinet$Ball" "bids" "LHoopCabinet$Table;" "HoopCabinet") ∈ lw_tbl := List.mem_append_right _ (List.mem_of_getElem? (i := 98) (by decide +kernel))
theorem k_101 : (Jvm.Cond.fieldLinkNest "HoopCabinet" (400 : Nat) "HoopCabinet$Ball" "acts" "LHoopCabinet$Table;" "HoopCabinet") ∈ lw_tbl := List.mem_append_right _ (List.mem_of_getElem? (i := 101) (by decide +kernel))
theorem k_66 : (Jvm.Cond.fieldLinkNest "HoopCabinet" (110 : Nat) "HoopCabinet$Ball" "lines" "I" "HoopCabinet") ∈ lw_tbl := List.mem_append_right _ (List.mem_of_getElem? (i := 66) (by decide +kernel))
theorem k_1195 : (Jvm.Cond.code ({ cls := "HoopCabinet", name := "slotsWithRow", desc := "()I" } : Jvm.MethodName) prog_1_method_86_code (3 : Nat) (Option.some Jvm.ClassFile.FieldType.int)) ∈ lw_tbl := List.mem_append_right _ (List.mem_of_getElem? (i := 1195) (by decide +kernel))
theorem k_1192 : (Jvm.Cond.methodLink "HoopCabinet" (423 : Nat) ({ cls := "HoopCabinet", name := "slotsWithRow", desc := "()I" } : Jvm.MethodName)) ∈ lw_tbl := List.mem_append_right _ (List.mem_of_getElem? (i := 1192) (by decide +kernel))
theorem k_1194 : (Jvm.Cond.instanceMethod ({ cls := "HoopCabinet", name := "slotsWithRow", desc := "()I" } : Jvm.MethodName)) ∈ lw_tbl := List.mem_append_right _ (List.mem_of_getElem? (i := 1194) (by decide +kernel))
theorem ks_42 : Cond.selects "HoopCabinet" ({ cls := "HoopCabinet", name := "slotsWithRow", desc := "()I" } : Jvm.MethodName) ({ cls := "HoopCabinet", name := "slotsWithRow", desc := "()I" } : Jvm.MethodName) ∈ lw_tbl := List.mem_append_left _ (List.mem_of_getElem? (i := 42) (by decide +kernel))
theorem k_933 : (Jvm.Cond.code ({ cls := "HoopCabinet$Slot", name := "isBare", desc := "()Z" } : Jvm.MethodName) prog_9_method_2_code (1 : Nat) (Option.some Jvm.ClassFile.FieldType.boolean)) ∈ lw_tbl := List.mem_append_right _ (List.mem_of_getElem? (i := 933) (by decide +kernel))
theorem k_930 : (Jvm.Cond.methodLink "HoopCabinet" (279 : Nat) ({ cls := "HoopCabinet$Slot", name := "isBare", desc := "()Z" } : Jvm.MethodName)) ∈ lw_tbl := List.mem_append_right _ (List.mem_of_getElem? (i := 930) (by decide +kernel))
theorem k_931 : (Jvm.Cond.instanceMethod ({ cls := "HoopCabinet$Slot", name := "isBare", desc := "()Z" } : Jvm.MethodName)) ∈ lw_tbl := List.mem_append_right _ (List.mem_of_getElem? (i := 931) (by decide +kernel))
theorem k_932 : (Jvm.Cond.selects "HoopCabinet$Slot" ({ cls := "HoopCabinet$Slot", name := "isBare", desc := "()Z" } : Jvm.MethodName) ({ cls := "HoopCabinet$Slot", name := "isBare", desc := "()Z" } : Jvm.MethodName)) ∈ lw_tbl := List.mem_append_right _ (List.mem_of_getElem? (i := 932) (by decide +kernel))
theorem k_530 : (Jvm.Cond.code ({ cls := "HoopCabinet$Ball", name := "copyFrom", desc := "(LHoopCabinet$Ball;)V" } : Jvm.MethodName) prog_2_method_3_code (2 : Nat) (Option.none : Option Jvm.ClassFile.FieldType)) ∈ lw_tbl := List.mem_append_right _ (List.mem_of_getElem? (i := 530) (by decide +kernel))
theorem k_527 : (Jvm.Cond.methodLink "HoopCabinet" (103 : Nat) ({ cls := "HoopCabinet$Ball", name := "copyFrom", desc := "(LHoopCabinet$Ball;)V" } : Jvm.MethodName)) ∈ lw_tbl := List.mem_append_right _ (List.mem_of_getElem? (i := 527) (by decide +kernel))
theorem k_528 : (Jvm.Cond.instanceMethod ({ cls := "HoopCabinet$Ball", name := "copyFrom", desc := "(LHoopCabinet$Ball;)V" } : Jvm.MethodName)) ∈ lw_tbl := List.mem_append_right _ (List.mem_of_getElem? (i := 528) (by decide +kernel))
theorem k_529 : (Jvm.Cond.selects "HoopCabinet$Ball" ({ cls := "HoopCabinet$Ball", name := "copyFrom", desc := "(LHoopCabinet$Ball;)V" } : Jvm.MethodName) ({ cls := "HoopCabinet$Ball", name := "copyFrom", desc := "(LHoopCabinet$Ball;)V" } : Jvm.MethodName)) ∈ lw_tbl := List.mem_append_right _ (List.mem_of_getElem? (i := 529) (by decide +kernel))
theorem k_71 : (Jvm.Cond.fieldLink "HoopCabinet$Ball" (39 : Nat) "HoopCabinet$Ball" "dances" "I") ∈ lw_tbl := List.mem_append_right _ (List.mem_of_getElem? (i := 71) (by decide +kernel))
theorem k_76 : (Jvm.Cond.fieldLink "HoopCabinet$Ball" (42 : Nat) "HoopCabinet$Ball" "law" "I") ∈ lw_tbl := List.mem_append_right _ (List.mem_of_getElem? (i := 76) (by decide +kernel))
theorem k_79 : (Jvm.Cond.fieldLink "HoopCabinet$Ball" (45 : Nat) "HoopCabinet$Ball" "odds" "I") ∈ lw_tbl := List.mem_append_right _ (List.mem_of_getElem? (i := 79) (by decide +kernel))
theorem k_534 : (Jvm.Cond.code ({ cls := "HoopCabinet$Table", name := "copyFrom", desc := "(LHoopCabinet$Table;)V" } : Jvm.MethodName) prog_10_method_10_code (2 : Nat) (Option.none : Option Jvm.ClassFile.FieldType)) ∈ lw_tbl := List.mem_append_right _ (List.mem_of_getElem? (i := 534) (by decide +kernel))
theorem k_531 : (Jvm.Cond.methodLink "HoopCabinet$Ball" (51 : Nat) ({ cls := "HoopCabinet$Table", name := "copyFrom", desc := "(LHoopCabinet$Table;)V" } : Jvm.MethodName)) ∈ lw_tbl := List.mem_append_right _ (List.mem_of_getElem? (i := 531) (by decide +kernel))
theorem k_532 : (Jvm.Cond.instanceMethod ({ cls := "HoopCabinet$Table", name := "copyFrom", desc := "(LHoopCabinet$Table;)V" } : Jvm.MethodName)) ∈ lw_tbl := List.mem_append_right _ (List.mem_of_getElem? (i := 532) (by decide +kernel))
theorem k_533 : (Jvm.Cond.selects "HoopCabinet$Table" ({ cls := "HoopCabinet$Table", name := "copyFrom", desc := "(LHoopCabinet$Table;)V" } : Jvm.MethodName) ({ cls := "HoopCabinet$Table", name := "copyFrom", desc := "(LHoopCabinet$Table;)V" } : Jvm.MethodName)) ∈ lw_tbl := List.mem_append_right _ (List.mem_of_getElem? (i := 533) (by decide +kernel))
theorem k_535 : (Jvm.Cond.methodLink "HoopCabinet$Table" (43 : Nat) ({ cls := "java/lang/Math", name := "min", desc := "(II)I" } : Jvm.MethodName)) ∈ lw_tbl := List.mem_append_right _ (List.mem_of_getElem? (i := 535) (by decide +kernel))
theorem k_369 : (Jvm.Cond.static ({ cls := "java/lang/Math", name := "min", desc := "(II)I" } : Jvm.MethodName)) ∈ lw_tbl := List.mem_append_right _ (List.mem_of_getElem? (i := 369) (by decide +kernel))
theorem k_370 : (Jvm.Cond.code ({ cls := "java/lang/Math", name := "min", desc := "(II)I" } : Jvm.MethodName) prog_14_method_69_code (2 : Nat) (Option.some Jvm.ClassFile.FieldType.int)) ∈ lw_tbl := List.mem_append_right _ (List.mem_of_getElem? (i := 370) (by decide +kernel))
theorem k_536 : (Jvm.Cond.methodLink "HoopCabinet$Table" (46 : Nat) ({ cls := "java/lang/System", name := "arraycopy", desc := "(Ljava/lang/Object;ILjava/lang/Object;II)V" } : Jvm.MethodName)) ∈ lw_tbl := List.mem_append_right _ (List.mem_of_getElem? (i := 536) (by decide +kernel))
theorem k_538 : (Jvm.Cond.native ({ cls := "java/lang/System", name := "arraycopy", desc := "(Ljava/lang/Object;ILjava/lang/Object;II)V" } : Jvm.MethodName)) ∈ lw_tbl := List.mem_append_right _ (List.mem_of_getElem? (i := 538) (by decide +kernel))
theorem k_537 : (Jvm.Cond.static ({ cls := "java/lang/System", name := "arraycopy", desc := "(Ljava/lang/Object;ILjava/lang/Object;II)V" } : Jvm.MethodName)) ∈ lw_tbl := List.mem_append_right _ (List.mem_of_getElem? (i := 537) (by decide +kernel))
theorem k_17 : (Jvm.Cond.initialized "java/lang/System") ∈ lw_tbl := List.mem_append_right _ (List.mem_of_getElem? (i := 17) (by decide +kernel))
theorem k_1211 : (Jvm.Cond.code ({ cls := "HoopCabinet$Slot", name := "start", desc := "(II)V" } : Jvm.MethodName) prog_9_method_3_code (3 : Nat) (Option.none : Option Jvm.ClassFile.FieldType)) ∈ lw_tbl := List.mem_append_right _ (List.mem_of_getElem? (i := 1211) (by decide +kernel))
theorem k_1208 : (Jvm.Cond.methodLink "HoopCabinet" (426 : Nat) ({ cls := "HoopCabinet$Slot", name := "start", desc := "(II)V" } : Jvm.MethodName)) ∈ lw_tbl := List.mem_append_right _ (List.mem_of_getElem? (i := 1208) (by decide +kernel))
theorem k_1209 : (Jvm.Cond.instanceMethod ({ cls := "HoopCabinet$Slot", name := "start", desc := "(II)V" } : Jvm.MethodName)) ∈ lw_tbl := List.mem_append_right _ (List.mem_of_getElem? (i := 1209) (by decide +kernel))
theorem k_1210 : (Jvm.Cond.selects "HoopCabinet$Slot" ({ cls := "HoopCabinet$Slot", name := "start", desc := "(II)V" } : Jvm.MethodName) ({ cls := "HoopCabinet$Slot", name := "start", desc := "(II)V" } : Jvm.MethodName)) ∈ lw_tbl := List.mem_append_right _ (List.mem_of_getElem? (i := 1210) (by decide +kernel))
theorem k_166 : (Jvm.Cond.fieldLink "HoopCabinet$Slot" (19 : Nat) "HoopCabinet$Slot" "width" "I") ∈ lw_tbl := List.mem_append_right _ (List.mem_of_getElem? (i := 166) (by decide +kernel))
theorem k_1212 : (Jvm.Cond.methodLink "HoopCabinet$Slot" (22 : Nat) ({ cls := "java/lang/Math", name := "min", desc := "(II)I" } : Jvm.MethodName)) ∈ lw_tbl := List.mem_append_right _ (List.mem_of_getElem? (i := 1212) (by decide +kernel))
theorem k_1102 : (Jvm.Cond.code ({ cls := "java/util/Arrays", name := "fill", desc := "([JJ)V" } : Jvm.MethodName) prog_19_method_101_code (5 : Nat) (Option.none : Option Jvm.ClassFile.FieldType)) ∈ lw_tbl := List.mem_append_right _ (List.mem_of_getElem? (i := 1102) (by decide +kernel))
theorem k_18 : (Jvm.Cond.initialized "java/util/Arrays") ∈ lw_tbl := List.mem_append_right _ (List.mem_of_getElem? (i := 18) (by decide +kernel))
theorem k_1213 : (Jvm.Cond.methodLink "HoopCabinet$Slot" (28 : Nat) ({ cls := "java/util/Arrays", name := "fill", desc := "([JJ)V" } : Jvm.MethodName)) ∈ lw_tbl := List.mem_append_right _ (List.mem_of_getElem? (i := 1213) (by decide +kernel))
theorem k_1101 : (Jvm.Cond.static ({ cls := "java/util/Arrays", name := "fill", desc := "([JJ)V" } : Jvm.MethodName)) ∈ lw_tbl := List.mem_append_right _ (List.mem_of_getElem? (i := 1101) (by decide +kernel))
theorem k_1245 : (Jvm.Cond.fieldLink "HoopCabinetModel" (90 : Nat) "HoopCabinetModel" "taped" "I") ∈ lw_tbl := List.mem_append_right _ (List.mem_of_getElem? (i := 1245) (by decide +kernel))
theorem k_1368 : (Jvm.Cond.code ({ cls := "HoopCabinetModel", name := "in", desc := "(JJJ)Z" } : Jvm.MethodName) prog_12_method_3_code (6 : Nat) (Option.some Jvm.ClassFile.FieldType.boolean)) ∈ lw_tbl := List.mem_append_right _ (List.mem_of_getElem? (i := 1368) (by decide +kernel))
theorem k_12 : (Jvm.Cond.initialized "HoopCabinetModel") ∈ lw_tbl := List.mem_append_right _ (List.mem_of_getElem? (i := 12) (by decide +kernel))
theorem k_1366 : (Jvm.Cond.methodLink "HoopCabinetModel" (82 : Nat) ({ cls := "HoopCabinetModel", name := "in", desc := "(JJJ)Z" } : Jvm.MethodName)) ∈ lw_tbl := List.mem_append_right _ (List.mem_of_getElem? (i := 1366) (by decide +kernel))
theorem k_1367 : (Jvm.Cond.static ({ cls := "HoopCabinetModel", name := "in", desc := "(JJJ)Z" } : Jvm.MethodName)) ∈ lw_tbl := List.mem_append_right _ (List.mem_of_getElem? (i := 1367) (by decide +kernel))
theorem k_1252 : (Jvm.Cond.fieldLink "HoopCabinetModel" (127 : Nat) "HoopCabinetModel" "faultKind" "I") ∈ lw_tbl := List.mem_append_right _ (List.mem_of_getElem? (i := 1252) (by decide +kernel))
theorem k_1483 : (Jvm.Cond.code ({ cls := "HoopCabinetModel", name := "isDoor", desc := "(I)Z" } : Jvm.MethodName) prog_12_method_11_code (2 : Nat) (Option.some Jvm.ClassFile.FieldType.boolean)) ∈ lw_tbl := List.mem_append_right _ (List.mem_of_getElem? (i := 1483) (by decide +kernel))
theorem k_1480 : (Jvm.Cond.methodLink "HoopCabinetModel" (218 : Nat) ({ cls := "HoopCabinetModel", name := "isDoor", desc := "(I)Z" } : Jvm.MethodName)) ∈ lw_tbl := List.mem_append_right _ (List.mem_of_getElem? (i := 1480) (by decide +kernel))
theorem k_1482 : (Jvm.Cond.instanceMethod ({ cls := "HoopCabinetModel", name := "isDoor", desc := "(I)Z" } : Jvm.MethodName)) ∈ lw_tbl := List.mem_append_right _ (List.mem_of_getElem? (i := 1482) (by decide +kernel))
theorem ks_60 : Cond.selects "HoopCabinetModel" ({ cls := "HoopCabinetModel", name := "isDoor", desc := "(I)Z" } : Jvm.MethodName) ({ cls := "HoopCabinetModel", name := "isDoor", desc := "(I)Z" } : Jvm.MethodName) ∈ lw_tbl := List.mem_append_left _ (List.mem_of_getElem? (i := 60) (by decide +kernel))
theorem k_1491 : (Jvm.Cond.code ({ cls := "HoopCabinetModel", name := "isLady", desc := "(J)Z" } : Jvm.MethodName) prog_12_method_12_code (3 : Nat) (Option.some Jvm.ClassFile.FieldType.boolean)) ∈ lw_tbl := List.mem_append_right _ (List.mem_of_getElem? (i := 1491) (by decide +kernel))
theorem k_1488 : (Jvm.Cond.methodLink "HoopCabinetModel" (222 : Nat) ({ cls := "HoopCabinetModel", name := "isLady", desc := "(J)Z" } : Jvm.MethodName)) ∈ lw_tbl := List.mem_append_right _ (List.mem_of_getElem? (i := 1488) (by decide +kernel))
theorem k_1490 : (Jvm.Cond.instanceMethod ({ cls := "HoopCabinetModel", name := "isLady", desc := "(J)Z" } : Jvm.MethodName)) ∈ lw_tbl := List.mem_append_right _ (List.mem_of_getElem? (i := 1490) (by decide +kernel))
theorem ks_61 : Cond.selects "HoopCabinetModel" ({ cls := "HoopCabinetModel", name := "isLady", desc := "(J)Z" } : Jvm.MethodName) ({ cls := "HoopCabinetModel", name := "isLady", desc := "(J)Z" } : Jvm.MethodName) ∈ lw_tbl := List.mem_append_left _ (List.mem_of_getElem? (i := 61) (by decide +kernel))
theorem k_1499 : (Jvm.Cond.code ({ cls := "HoopCabinetModel", name := "asItIs", desc := "()V" } : Jvm.MethodName) prog_12_method_47_code (1 : Nat) (Option.none : Option Jvm.ClassFile.FieldType)) ∈ lw_tbl := List.mem_append_right _ (List.mem_of_getElem? (i := 1499) (by decide +kernel))
theorem k_1496 : (Jvm.Cond.methodLink "HoopCabinetModel" (279 : Nat) ({ cls := "HoopCabinetModel", name := "asItIs", desc := "()V" } : Jvm.MethodName)) ∈ lw_tbl := List.mem_append_right _ (List.mem_of_getElem? (i := 1496) (by decide +kernel))
theorem k_1498 : (Jvm.Cond.instanceMethod ({ cls := "HoopCabinetModel", name := "asItIs", desc := "()V" } : Jvm.MethodName)) ∈ lw_tbl := List.mem_append_right _ (List.mem_of_getElem? (i := 1498) (by decide +kernel))
theorem ks_62 : Cond.selects "HoopCabinetModel" ({ cls := "HoopCabinetModel", name := "asItIs", desc := "()V" } : Jvm.MethodName) ({ cls := "HoopCabinetModel", name := "asItIs", desc := "()V" } : Jvm.MethodName) ∈ lw_tbl := List.mem_append_left _ (List.mem_of_getElem? (i := 62) (by decide +kernel))
theorem k_1256 : (Jvm.Cond.fieldLink "HoopCabinetModel" (227 : Nat) "HoopCabinetModel" "oddDoor" "I") ∈ lw_tbl := List.mem_append_right _ (List.mem_of_getElem? (i := 1256) (by decide +kernel))
theorem k_1257 : (Jvm.Cond.fieldLink "HoopCabinetModel" (230 : Nat) "HoopCabinetModel" "oddWide" "I") ∈ lw_tbl := List.mem_append_right _ (List.mem_of_getElem? (i := 1257) (by decide +kernel))
theorem k_1261 : (Jvm.Cond.fieldLink "HoopCabinetModel" (264 : Nat) "HoopCabinetModel" "gone" "I") ∈ lw_tbl := List.mem_append_right _ (List.mem_of_getElem? (i := 1261) (by decide +kernel))
theorem k_1262 : (Jvm.Cond.fieldLink "HoopCabinetModel" (249 : Nat) "HoopCabinetModel" "stayers" "I") ∈ lw_tbl := List.mem_append_right _ (List.mem_of_getElem? (i := 1262) (by decide +kernel))
theorem k_1263 : (Jvm.Cond.fieldLink "HoopCabinetModel" (267 : Nat) "HoopCabinetModel" "lawNow" "I") ∈ lw_tbl := List.mem_append_right _ (List.mem_of_getElem? (i := 1263) (by decide +kernel))
theorem k_1264 : (Jvm.Cond.fieldLink "HoopCabinetModel" (270 : Nat) "HoopCabinetModel" "loudSet" "I") ∈ lw_tbl := List.mem_append_right _ (List.mem_of_getElem? (i := 1264) (by decide +kernel))
theorem k_1503 : (Jvm.Cond.code ({ cls := "HoopCabinetModel", name := "layMinisters", desc := "()V" } : Jvm.MethodName) prog_12_method_46_code (3 : Nat) (Option.none : Option Jvm.ClassFile.FieldType)) ∈ lw_tbl := List.mem_append_right _ (List.mem_of_getElem? (i := 1503) (by decide +kernel))
theorem k_1500 : (Jvm.Cond.methodLink "HoopCabinetModel" (273 : Nat) ({ cls := "HoopCabinetModel", name := "layMinisters", desc := "()V" } : Jvm.MethodName)) ∈ lw_tbl := List.mem_append_right _ (List.mem_of_getElem? (i := 1500) (by decide +kernel))
theorem k_1502 : (Jvm.Cond.instanceMethod ({ cls := "HoopCabinetModel", name := "layMinisters", desc := "()V" } : Jvm.MethodName)) ∈ lw_tbl := List.mem_append_right _ (List.mem_of_getElem? (i := 1502) (by decide +kernel))
theorem ks_63 : Cond.selects "HoopCabinetModel" ({ cls := "HoopCabinetModel", name := "layMinisters", desc := "()V" } : Jvm.MethodName) ({ cls := "HoopCabinetModel", name := "layMinisters", desc := "()V" } : Jvm.MethodName) ∈ lw_tbl := List.mem_append_left _ (List.mem_of_getElem? (i := 63) (by decide +kernel))
theorem k_1508 : (Jvm.Cond.code ({ cls := "HoopCabinetModel", name := "layPlaces", desc := "()V" } : Jvm.MethodName) prog_12_method_45_code (3 : Nat) (Option.none : Option Jvm.ClassFile.FieldType)) ∈ lw_tbl := List.mem_append_right _ (List.mem_of_getElem? (i := 1508) (by decide +kernel))
theorem k_1505 : (Jvm.Cond.methodLink "HoopCabinetModel" (276 : Nat) ({ cls := "HoopCabinetModel", name := "layPlaces", desc := "()V" } : Jvm.MethodName)) ∈ lw_tbl := List.mem_append_right _ (List.mem_of_getElem? (i := 1505) (by decide +kernel))
theorem k_1507 : (Jvm.Cond.instanceMethod ({ cls := "HoopCabinetModel", name := "layPlaces", desc := "()V" } : Jvm.MethodName)) ∈ lw_tbl := List.mem_append_right _ (List.mem_of_getElem? (i := 1507) (by decide +kernel))
theorem ks_64 : Cond.selects "HoopCabinetModel" ({ cls := "HoopCabinetModel", name := "layPlaces", desc := "()V" } : Jvm.MethodName) ({ cls := "HoopCabinetModel", name := "layPlaces", desc := "()V" } : Jvm.MethodName) ∈ lw_tbl := List.mem_append_left _ (List.mem_of_getElem? (i := 64) (by decide +kernel))
theorem k_1512 : (Jvm.Cond.code ({ cls := "HoopCabinetModel", name := "layWays", desc := "()V" } : Jvm.MethodName) prog_12_method_41_code (8 : Nat) (Option.none : Option Jvm.ClassFile.FieldType)) ∈ lw_tbl := List.mem_append_right _ (List.mem_of_getElem? (i := 1512) (by decide +kernel))
theorem k_1509 : (Jvm.Cond.methodLink "HoopCabinetModel" (241 : Nat) ({ cls := "HoopCabinetModel", name := "layWays", desc := "()V" } : Jvm.MethodName)) ∈ lw_tbl := List.mem_append_right _ (List.mem_of_getElem? (i := 1509) (by decide +kernel))
theorem k_1511 : (Jvm.Cond.instanceMethod ({ cls := "HoopCabinetModel", name := "layWays", desc := "()V" } : Jvm.MethodName)) ∈ lw_tbl := List.mem_append_right _ (List.mem_of_getElem? (i := 1511) (by decide +kernel))
theorem ks_65 : Cond.selects "HoopCabinetModel" ({ cls := "HoopCabinetModel", name := "layWays", desc := "()V" } : Jvm.MethodName) ({ cls := "HoopCabinetModel", name := "layWays", desc := "()V" } : Jvm.MethodName) ∈ lw_tbl := List.mem_append_left _ (List.mem_of_getElem? (i := 65) (by decide +kernel))
theorem k_1513 : (Jvm.Cond.constant "HoopCabinetModel" (226 : Nat) (1000000000 : Int32)) ∈ lw_tbl := List.mem_append_right _ (List.mem_of_getElem? (i := 1513) (by decide +kernel))
theorem k_1521 : (Jvm.Cond.code ({ cls := "HoopCabinetModel", name := "ladies", desc := "()I" } : Jvm.MethodName) prog_12_method_16_code (1 : Nat) (Option.some Jvm.ClassFile.FieldType.int)) ∈ lw_tbl := List.mem_append_right _ (List.mem_of_getElem? (i := 1521) (by decide +kernel))
theorem k_1518 : (Jvm.Cond.methodLink "HoopCabinetModel" (244 : Nat) ({ cls := "HoopCabinetModel", name := "ladies", desc := "()I" } : Jvm.MethodName)) ∈ lw_tbl := List.mem_append_right _ (List.mem_of_getElem? (i := 1518) (by decide +kernel))
theorem k_1520 : (Jvm.Cond.instanceMethod ({ cls := "HoopCabinetModel", name := "ladies", desc := "()I" } : Jvm.MethodName)) ∈ lw_tbl := List.mem_append_right _ (List.mem_of_getElem? (i := 1520) (by decide +kernel))
theorem ks_67 : Cond.selects "HoopCabinetModel" ({ cls := "HoopCabinetModel", name := "ladies", desc := "()I" } : Jvm.MethodName) ({ cls := "HoopCabinetModel", name := "ladies", desc := "()I" } : Jvm.MethodName) ∈ lw_tbl := List.mem_append_left _ (List.mem_of_getElem? (i := 67) (by decide +kernel))
theorem k_1548 : (Jvm.Cond.code ({ cls := "HoopCabinetModel", name := "isMinister", desc := "(I)Z" } : Jvm.MethodName) prog_12_method_13_code (2 : Nat) (Option.some Jvm.ClassFile.FieldType.boolean)) ∈ lw_tbl := List.mem_append_right _ (List.mem_of_getElem? (i := 1548) (by decide +kernel))
theorem k_1545 : (Jvm.Cond.methodLink "HoopCabinetModel" (285 : Nat) ({ cls := "HoopCabinetModel", name := "isMinister", desc := "(I)Z" } : Jvm.MethodName)) ∈ lw_tbl := List.mem_append_right _ (List.mem_of_getElem? (i := 1545) (by decide +kernel))
theorem k_1547 : (Jvm.Cond.instanceMethod ({ cls := "HoopCabinetModel", name := "isMinister", desc := "(I)Z" } : Jvm.MethodName)) ∈ lw_tbl := List.mem_append_right _ (List.mem_of_getElem? (i := 1547) (by decide +kernel))
theorem ks_73 : Cond.selects "HoopCabinetModel" ({ cls := "HoopCabinetModel", name := "isMinister", desc := "(I)Z" } : Jvm.MethodName) ({ cls := "HoopCabinetModel", name := "isMinister", desc := "(I)Z" } : Jvm.MethodName) ∈ lw_tbl := List.mem_append_left _ (List.mem_of_getElem? (i := 73) (by decide +kernel))
theorem k_1556 : (Jvm.Cond.code ({ cls := "HoopCabinetModel", name := "asksLady", desc := "(I)Z" } : Jvm.MethodName) prog_12_method_49_code (2 : Nat) (Option.some Jvm.ClassFile.FieldType.boolean)) ∈ lw_tbl := List.mem_append_right _ (List.mem_of_getElem? (i := 1556) (by decide +kernel))
theorem k_1553 : (Jvm.Cond.methodLink "HoopCabinetModel" (288 : Nat) ({ cls := "HoopCabinetModel", name := "asksLady", desc := "(I)Z" } : Jvm.MethodName)) ∈ lw_tbl := List.mem_append_right _ (List.mem_of_getElem? (i := 1553) (by decide +kernel))
theorem k_1555 : (Jvm.Cond.instanceMethod ({ cls := "HoopCabinetModel", name := "asksLady", desc := "(I)Z" } : Jvm.MethodName)) ∈ lw_tbl := List.mem_append_right _ (List.mem_of_getElem? (i := 1555) (by decide +kernel))
theorem ks_74 : Cond.selects "HoopCabinetModel" ({ cls := "HoopCabinetModel", name := "asksLady", desc := "(I)Z" } : Jvm.MethodName) ({ cls := "HoopCabinetModel", name := "asksLady", desc := "(I)Z" } : Jvm.MethodName) ∈ lw_tbl := List.mem_append_left _ (List.mem_of_getElem? (i := 74) (by decide +kernel))
theorem k_1584 : (Jvm.Cond.code ({ cls := "HoopCabinetModel", name := "asksDance", desc := "(I)Z" } : Jvm.MethodName) prog_12_method_50_code (2 : Nat) (Option.some Jvm.ClassFile.FieldType.boolean)) ∈ lw_tbl := List.mem_append_right _ (List.mem_of_getElem? (i := 1584) (by decide +kernel))
theorem k_1581 : (Jvm.Cond.methodLink "HoopCabinetModel" (294 : Nat) ({ cls := "HoopCabinetModel", name := "asksDance", desc := "(I)Z" } : Jvm.MethodName)) ∈ lw_tbl := List.mem_append_right _ (List.mem_of_getElem? (i := 1581) (by decide +kernel))
theorem k_1583 : (Jvm.Cond.instanceMethod ({ cls := "HoopCabinetModel", name := "asksDance", desc := "(I)Z" } : Jvm.MethodName)) ∈ lw_tbl := List.mem_append_right _ (List.mem_of_getElem? (i := 1583) (by decide +kernel))
theorem ks_78 : Cond.selects "HoopCabinetModel" ({ cls := "HoopCabinetModel", name := "asksDance", desc := "(I)Z" } : Jvm.MethodName) ({ cls := "HoopCabinetModel", name := "asksDance", desc := "(I)Z" } : Jvm.MethodName) ∈ lw_tbl := List.mem_append_left _ (List.mem_of_getElem? (i := 78) (by decide +kernel))
theorem k_1572 : (Jvm.Cond.code ({ cls := "HoopCabinetModel", name := "isDance", desc := "(J)Z" } : Jvm.MethodName) prog_12_method_10_code (3 : Nat) (Option.some Jvm.ClassFile.FieldType.boolean)) ∈ lw_tbl := List.mem_append_right _ (List.mem_of_getElem? (i := 1572) (by decide +kernel))
theorem k_1569 : (Jvm.Cond.methodLink "HoopCabinetModel" (282 : Nat) ({ cls := "HoopCabinetModel", name := "isDance", desc := "(J)Z" } : Jvm.MethodName)) ∈ lw_tbl := List.mem_append_right _ (List.mem_of_getElem? (i := 1569) (by decide +kernel))
theorem k_1571 : (Jvm.Cond.instanceMethod ({ cls := "HoopCabinetModel", name := "isDance", desc := "(J)Z" } : Jvm.MethodName)) ∈ lw_tbl := List.mem_append_right _ (List.mem_of_getElem? (i := 1571) (by decide +kernel))
theorem ks_76 : Cond.selects "HoopCabinetModel" ({ cls := "HoopCabinetModel", name := "isDance", desc := "(J)Z" } : Jvm.MethodName) ({ cls := "HoopCabinetModel", name := "isDance", desc := "(J)Z" } : Jvm.MethodName) ∈ lw_tbl := List.mem_append_left _ (List.mem_of_getElem? (i := 76) (by decide +kernel))
theorem k_1576 : (Jvm.Cond.code ({ cls := "HoopCabinetModel", name := "isBall", desc := "()Z" } : Jvm.MethodName) prog_12_method_8_code (1 : Nat) (Option.some Jvm.ClassFile.FieldType.boolean)) ∈ lw_tbl := List.mem_append_right _ (List.mem_of_getElem? (i := 1576) (by decide +kernel))
theorem k_1573 : (Jvm.Cond.methodLink "HoopCabinetModel" (86 : Nat) ({ cls := "HoopCabinetModel", name := "isBall", desc := "()Z" } : Jvm.MethodName)) ∈ lw_tbl := List.mem_append_right _ (List.mem_of_getElem? (i := 1573) (by decide +kernel))
theorem k_1575 : (Jvm.Cond.instanceMethod ({ cls := "HoopCabinetModel", name := "isBall", desc := "()Z" } : Jvm.MethodName)) ∈ lw_tbl := List.mem_append_right _ (List.mem_of_getElem? (i := 1575) (by decide +kernel))
theorem ks_77 : Cond.selects "HoopCabinetModel" ({ cls := "HoopCabinetModel", name := "isBall", desc := "()Z" } : Jvm.MethodName) ({ cls := "HoopCabinetModel", name := "isBall", desc := "()Z" } : Jvm.MethodName) ∈ lw_tbl := List.mem_append_left _ (List.mem_of_getElem? (i := 77) (by decide +kernel))
theorem k_1640 : (Jvm.Cond.code ({ cls := "HoopCabinetModel", name := "asksBall", desc := "()Z" } : Jvm.MethodName) prog_12_method_48_code (1 : Nat) (Option.some Jvm.ClassFile.FieldType.boolean)) ∈ lw_tbl := List.mem_append_right _ (List.mem_of_getElem? (i := 1640) (by decide +kernel))
theorem k_1637 : (Jvm.Cond.methodLink "HoopCabinetModel" (322 : Nat) ({ cls := "HoopCabinetModel", name := "asksBall", desc := "()Z" } : Jvm.MethodName)) ∈ lw_tbl := List.mem_append_right _ (List.mem_of_getElem? (i := 1637) (by decide +kernel))
theorem k_1639 : (Jvm.Cond.instanceMethod ({ cls := "HoopCabinetModel", name := "asksBall", desc := "()Z" } : Jvm.MethodName)) ∈ lw_tbl := List.mem_append_right _ (List.mem_of_getElem? (i := 1639) (by decide +kernel))
theorem ks_85 : Cond.selects "HoopCabinetModel" ({ cls := "HoopCabinetModel", name := "asksBall", desc := "()Z" } : Jvm.MethodName) ({ cls := "HoopCabinetModel", name := "asksBall", desc := "()Z" } : Jvm.MethodName) ∈ lw_tbl := List.mem_append_left _ (List.mem_of_getElem? (i := 85) (by decide +kernel))
theorem k_1703 : (Jvm.Cond.code ({ cls := "HoopCabinetModel", name := "asksNote", desc := "(II)Z" } : Jvm.MethodName) prog_12_method_83_code (3 : Nat) (Option.some Jvm.ClassFile.FieldType.boolean)) ∈ lw_tbl := List.mem_append_right _ (List.mem_of_getElem? (i := 1703) (by decide +kernel))
theorem k_1700 : (Jvm.Cond.methodLink "HoopCabinetModel" (340 : Nat) ({ cls := "HoopCabinetModel", name := "asksNote", desc := "(II)Z" } : Jvm.MethodName)) ∈ lw_tbl := List.mem_append_right _ (List.mem_of_getElem? (i := 1700) (by decide +kernel))
theorem k_1702 : (Jvm.Cond.instanceMethod ({ cls := "HoopCabinetModel", name := "asksNote", desc := "(II)Z" } : Jvm.MethodName)) ∈ lw_tbl := List.mem_append_right _ (List.mem_of_getElem? (i := 1702) (by decide +kernel))
theorem ks_90 : Cond.selects "HoopCabinetModel" ({ cls := "HoopCabinetModel", name := "asksNote", desc := "(II)Z" } : Jvm.MethodName) ({ cls := "HoopCabinetModel", name := "asksNote", desc := "(II)Z" } : Jvm.MethodName) ∈ lw_tbl := List.mem_append_left _ (List.mem_of_getElem? (i := 90) (by decide +kernel))
theorem k_1835 : (Jvm.Cond.code ({ cls := "HoopCabinetModel", name := "isSet", desc := "(I)Z" } : Jvm.MethodName) prog_12_method_14_code (2 : Nat) (Option.some Jvm.ClassFile.FieldType.boolean)) ∈ lw_tbl := List.mem_append_right _ (List.mem_of_getElem? (i := 1835) (by decide +kernel))
theorem k_1832 : (Jvm.Cond.methodLink "HoopCabinetModel" (399 : Nat) ({ cls := "HoopCabinetModel", name := "isSet", desc := "(I)Z" } : Jvm.MethodName)) ∈ lw_tbl := List.mem_append_right _ (List.mem_of_getElem? (i := 1832) (by decide +kernel))
theorem k_1834 : (Jvm.Cond.instanceMethod ({ cls := "HoopCabinetModel", name := "isSet", desc := "(I)Z" } : Jvm.MethodName)) ∈ lw_tbl := List.mem_append_right _ (List.mem_of_getElem? (i := 1834) (by decide +kernel))
theorem ks_102 : Cond.selects "HoopCabinetModel" ({ cls := "HoopCabinetModel", name := "isSet", desc := "(I)Z" } : Jvm.MethodName) ({ cls := "HoopCabinetModel", name := "isSet", desc := "(I)Z" } : Jvm.MethodName) ∈ lw_tbl := List.mem_append_left _ (List.mem_of_getElem? (i := 102) (by decide +kernel))
theorem k_1749 : (Jvm.Cond.code ({ cls := "HoopCabinetModel", name := "asksCarry", desc := "(III)Z" } : Jvm.MethodName) prog_12_method_98_code (4 : Nat) (Option.some Jvm.ClassFile.FieldType.boolean)) ∈ lw_tbl := List.mem_append_right _ (List.mem_of_getElem? (i := 1749) (by decide +kernel))
theorem k_1746 : (Jvm.Cond.methodLink "HoopCabinetModel" (362 : Nat) ({ cls := "HoopCabinetModel", name := "asksCarry", desc := "(III)Z" } : Jvm.MethodName)) ∈ lw_tbl := List.mem_append_right _ (List.mem_of_getElem? (i := 1746) (by decide +kernel))
theorem k_1748 : (Jvm.Cond.instanceMethod ({ cls := "HoopCabinetModel", name := "asksCarry", desc := "(III)Z" } : Jvm.MethodName)) ∈ lw_tbl := List.mem_append_right _ (List.mem_of_getElem? (i := 1748) (by decide +kernel))
theorem ks_92 : Cond.selects "HoopCabinetModel" ({ cls := "HoopCabinetModel", name := "asksCarry", desc := "(III)Z" } : Jvm.MethodName) ({ cls := "HoopCabinetModel", name := "asksCarry", desc := "(III)Z" } : Jvm.MethodName) ∈ lw_tbl := List.mem_append_left _ (List.mem_of_getElem? (i := 92) (by decide +kernel))
theorem k_1796 : (Jvm.Cond.code ({ cls := "HoopCabinetModel", name := "layFirsts", desc := "(I)I" } : Jvm.MethodName) prog_12_method_107_code (6 : Nat) (Option.some Jvm.ClassFile.FieldType.int)) ∈ lw_tbl := List.mem_append_right _ (List.mem_of_getElem? (i := 1796) (by decide +kernel))
theorem k_1793 : (Jvm.Cond.methodLink "HoopCabinetModel" (381 : Nat) ({ cls := "HoopCabinetModel", name := "layFirsts", desc := "(I)I" } : Jvm.MethodName)) ∈ lw_tbl := List.mem_append_right _ (List.mem_of_getElem? (i := 1793) (by decide +kernel))
theorem k_1795 : (Jvm.Cond.instanceMethod ({ cls := "HoopCabinetModel", name := "layFirsts", desc := "(I)I" } : Jvm.MethodName)) ∈ lw_tbl := List.mem_append_right _ (List.mem_of_getElem? (i := 1795) (by decide +kernel))
theorem ks_98 : Cond.selects "HoopCabinetModel" ({ cls := "HoopCabinetModel", name := "layFirsts", desc := "(I)I" } : Jvm.MethodName) ({ cls := "HoopCabinetModel", name := "layFirsts", desc := "(I)I" } : Jvm.MethodName) ∈ lw_tbl := List.mem_append_left _ (List.mem_of_getElem? (i := 98) (by decide +kernel))
theorem k_1799 : (Jvm.Cond.code ({ cls := "HoopCabinetModel", name := "isSlot", desc := "(I)Z" } : Jvm.MethodName) prog_12_method_149_code (1 : Nat) (Option.some Jvm.ClassFile.FieldType.boolean)) ∈ lw_tbl := List.mem_append_right _ (List.mem_of_getElem? (i := 1799) (by decide +kernel))
theorem k_1797 : (Jvm.Cond.methodLink "HoopCabinetModel" (375 : Nat) ({ cls := "HoopCabinetModel", name := "isSlot", desc := "(I)Z" } : Jvm.MethodName)) ∈ lw_tbl := List.mem_append_right _ (List.mem_of_getElem? (i := 1797) (by decide +kernel))
theorem k_1798 : (Jvm.Cond.static ({ cls := "HoopCabinetModel", name := "isSlot", desc := "(I)Z" } : Jvm.MethodName)) ∈ lw_tbl := List.mem_append_right _ (List.mem_of_getElem? (i := 1798) (by decide +kernel))
theorem k_1737 : (Jvm.Cond.constantLong "HoopCabinetModel" (346 : Nat) (3 : Int64)) ∈ lw_tbl := List.mem_append_right _ (List.mem_of_getElem? (i := 1737) (by decide +kernel))
theorem k_1901 : (Jvm.Cond.code ({ cls := "HoopCabinetModel", name := "areTwo", desc := "(II)Z" } : Jvm.MethodName) prog_12_method_131_code (3 : Nat) (Option.some Jvm.ClassFile.FieldType.boolean)) ∈ lw_tbl := List.mem_append_right _ (List.mem_of_getElem? (i := 1901) (by decide +kernel))
theorem k_1898 : (Jvm.Cond.methodLink "HoopCabinetModel" (416 : Nat) ({ cls := "HoopCabinetModel", name := "areTwo", desc := "(II)Z" } : Jvm.MethodName)) ∈ lw_tbl := List.mem_append_right _ (List.mem_of_getElem? (i := 1898) (by decide +kernel))
theorem k_1900 : (Jvm.Cond.instanceMethod ({ cls := "HoopCabinetModel", name := "areTwo", desc := "(II)Z" } : Jvm.MethodName)) ∈ lw_tbl := List.mem_append_right _ (List.mem_of_getElem? (i := 1900) (by decide +kernel))
theorem ks_108 : Cond.selects "HoopCabinetModel" ({ cls := "HoopCabinetModel", name := "areTwo", desc := "(II)Z" } : Jvm.MethodName) ({ cls := "HoopCabinetModel", name := "areTwo", desc := "(II)Z" } : Jvm.MethodName) ∈ lw_tbl := List.mem_append_left _ (List.mem_of_getElem? (i := 108) (by decide +kernel))
theorem k_1917 : (Jvm.Cond.code ({ cls := "HoopCabinetModel", name := "asksMusic", desc := "(III)Z" } : Jvm.MethodName) prog_12_method_135_code (4 : Nat) (Option.some Jvm.ClassFile.FieldType.boolean)) ∈ lw_tbl := List.mem_append_right _ (List.mem_of_getElem? (i := 1917) (by decide +kernel))
theorem k_1914 : (Jvm.Cond.methodLink "HoopCabinetModel" (435 : Nat) ({ cls := "HoopCabinetModel", name := "asksMusic", desc := "(III)Z" } : Jvm.MethodName)) ∈ lw_tbl := List.mem_append_right _ (List.mem_of_getElem? (i := 1914) (by decide +kernel))
theorem k_1916 : (Jvm.Cond.instanceMethod ({ cls := "HoopCabinetModel", name := "asksMusic", desc := "(III)Z" } : Jvm.MethodName)) ∈ lw_tbl := List.mem_append_right _ (List.mem_of_getElem? (i := 1916) (by decide +kernel))
theorem ks_110 : Cond.selects "HoopCabinetModel" ({ cls := "HoopCabinetModel", name := "asksMusic", desc := "(III)Z" } : Jvm.MethodName) ({ cls := "HoopCabinetModel", name := "asksMusic", desc := "(III)Z" } : Jvm.MethodName) ∈ lw_tbl := List.mem_append_left _ (List.mem_of_getElem? (i := 110) (by decide +kernel))
theorem k_1919 : (Jvm.Cond.constantLong "HoopCabinetModel" (438 : Nat) (-2 : Int64)) ∈ lw_tbl := List.mem_append_right _ (List.mem_of_getElem? (i := 1919) (by decide +kernel))
theorem k_1955 : (Jvm.Cond.code ({ cls := "HoopCabinetModel", name := "isSeed", desc := "(I)Z" } : Jvm.MethodName) prog_12_method_144_code (1 : Nat) (Option.some Jvm.ClassFile.FieldType.boolean)) ∈ lw_tbl := List.mem_append_right _ (List.mem_of_getElem? (i := 1955) (by decide +kernel))
theorem k_1953 : (Jvm.Cond.methodLink "HoopCabinetModel" (461 : Nat) ({ cls := "HoopCabinetModel", name := "isSeed", desc := "(I)Z" } : Jvm.MethodName)) ∈ lw_tbl := List.mem_append_right _ (List.mem_of_getElem? (i := 1953) (by decide +kernel))
theorem k_1954 : (Jvm.Cond.static ({ cls := "HoopCabinetModel", name := "isSeed", desc := "(I)Z" } : Jvm.MethodName)) ∈ lw_tbl := List.mem_append_right _ (List.mem_of_getElem? (i := 1954) (by decide +kernel))
theorem k_1956 : (Jvm.Cond.constantLong "HoopCabinetModel" (459 : Nat) (2000000000 : Int64)) ∈ lw_tbl := List.mem_append_right _ (List.mem_of_getElem? (i := 1956) (by decide +kernel))
theorem k_1970 : (Jvm.Cond.constantLong "HoopCabinetModel" (468 : Nat) (20 : Int64)) ∈ lw_tbl := List.mem_append_right _ (List.mem_of_getElem? (i := 1970) (by decide +kernel))
theorem k_1975 : (Jvm.Cond.constantLong "HoopCabinetModel" (470 : Nat) (9 : Int64)) ∈ lw_tbl := List.mem_append_right _ (List.mem_of_getElem? (i := 1975) (by decide +kernel))
theorem k_1365 : (Jvm.Cond.constantLong "HoopCabinetModel" (80 : Nat) (2 : Int64)) ∈ lw_tbl := List.mem_append_right _ (List.mem_of_getElem? (i := 1365) (by decide +kernel))
theorem fg_X9_13 : FG RX9 13 9 1 15 := ⟨RX9, TX9, CI9, by decide, Or.inl k_303⟩
theorem cv_X9_93 : CVw RX9 93 M_X9_appendFour 1 9 15 := ⟨⟨k_355, k_1, by decide +kernel, Or.inl k_352⟩, k_354, ks_0, by decide, TX9, CI9.1⟩
theorem fg_X9_32 : FG RX9 32 9 2 15 := ⟨RX9, TX9, CI9, by decide, Or.inl k_304⟩
theorem fg_X9_113 : FG RX9 113 6 7 8 := ⟨RX6, TX6, CI6, by decide, Or.inr ⟨_, k_138⟩⟩
theorem fg_X9_100 : FG RX9 100 6 6 8 := ⟨RX6, TX6, CI6, by decide, Or.inr ⟨_, k_136⟩⟩
theorem fg_X9_20 : FG RX9 20 9 3 15 := ⟨RX9, TX9, CI9, by decide, Or.inl k_305⟩
theorem fg_X9_119 : FG RX9 119 0 5 10 := ⟨RX0, TX0, CI0, by decide, Or.inr ⟨_, k_85⟩⟩
theorem cv_X9_123 : CVw RX9 123 M_X8_hasCell 2 8 4 := ⟨⟨k_507, k_3, by decide +kernel, Or.inl k_625⟩, k_505, k_506, by decide, TX8, CI8.1⟩
theorem fg_X8_28 : FG RX8 28 8 3 4 := ⟨RX8, TX8, CI8, by decide, Or.inl k_46⟩
theorem fg_X9_133 : FG RX9 133 0 6 10 := ⟨RX0, TX0, CI0, by decide, Or.inr ⟨_, k_91⟩⟩
theorem fg_X9_136 : FG RX9 136 0 7 10 := ⟨RX0, TX0, CI0, by decide, Or.inr ⟨_, k_94⟩⟩
theorem cv_X9_139 : CVw RX9 139 M_X0_hasLady 1 0 10 := ⟨⟨k_642, k_2, by decide +kernel, Or.inl k_639⟩, k_640, k_641, by decide, TX0, CI0.1⟩
theorem fg_X0_20 : FG RX0 20 0 6 10 := ⟨RX0, TX0, CI0, by decide, Or.inl k_86⟩
theorem cv_X0_55 : CVw RX0 55 M_X8_has 1 8 4 := ⟨⟨k_646, k_3, by decide +kernel, Or.inl k_643⟩, k_644, k_645, by decide, TX8, CI8.1⟩
theorem cv_X9_143 : CVw RX9 143 M_X0_hasRoom 1 0 10 := ⟨⟨k_562, k_2, by decide +kernel, Or.inl k_647⟩, k_560, k_561, by decide, TX0, CI0.1⟩
theorem fg_X0_36 : FG RX0 36 0 1 10 := ⟨RX0, TX0, CI0, by decide, Or.inl k_67⟩
theorem cv_X9_184 : CVw RX9 184 M_X0_isTold 0 0 10 := ⟨⟨k_671, k_2, by decide +kernel, Or.inl k_724⟩, k_669, k_670, by decide, TX0, CI0.1⟩
theorem fg_X0_32 : FG RX0 32 0 0 10 := ⟨RX0, TX0, CI0, by decide, Or.inl k_64⟩
theorem cv_X9_196 : CVw RX9 196 M_X9_crush 0 9 15 := ⟨⟨k_723, k_1, by decide +kernel, Or.inl k_740⟩, k_721, k_722, by decide, TX9, CI9.1⟩
theorem cv_X9_153 : CVw RX9 153 M_X0_hasDance 1 0 10 := ⟨⟨k_667, k_2, by decide +kernel, Or.inl k_664⟩, k_665, k_666, by decide, TX0, CI0.1⟩
theorem cv_X0_59 : CVw RX0 59 M_X0_isTold 0 0 10 := ⟨⟨k_671, k_2, by decide +kernel, Or.inl k_668⟩, k_669, k_670, by decide, TX0, CI0.1⟩
theorem cv_X9_308 : CVw RX9 308 M_X0_hasSet 1 0 10 := ⟨⟨k_988, k_2, by decide +kernel, Or.inl k_985⟩, k_986, k_987, by decide, TX0, CI0.1⟩
theorem cv_X9_263 : CVw RX9 263 M_X9_seenFault 1 9 15 := ⟨⟨k_926, k_1, by decide +kernel, Or.inl k_923⟩, k_925, ks_29, by decide, TX9, CI9.1⟩
theorem cs_X9_276 : CSw RX9 276 M_X9_isSlot 1 := ⟨⟨k_929, k_1, by decide +kernel, Or.inl k_927⟩, k_928⟩
theorem cv_X9_257 : CVw RX9 257 M_X8_has 1 8 4 := ⟨⟨k_646, k_3, by decide +kernel, Or.inl k_909⟩, k_644, k_645, by decide, TX8, CI8.1⟩
theorem cs_X9_381 : CSw RX9 381 M_X9_isSeed 1 := ⟨⟨k_1129, k_1, by decide +kernel, Or.inl k_1127⟩, k_1128⟩
theorem fg_X9_208 : FG RX9 208 0 1 10 := ⟨RX0, TX0, CI0, by decide, Or.inr ⟨_, k_70⟩⟩
theorem fg_X9_169 : FG RX9 169 0 2 10 := ⟨RX0, TX0, CI0, by decide, Or.inr ⟨_, k_75⟩⟩
theorem fg_X9_214 : FG RX9 214 0 3 10 := ⟨RX0, TX0, CI0, by decide, Or.inr ⟨_, k_78⟩⟩
theorem fg_X9_364 : FG RX9 364 0 4 10 := ⟨RX0, TX0, CI0, by decide, Or.inr ⟨_, k_81⟩⟩
theorem fg_X9_200 : FG RX9 200 8 3 4 := ⟨RX8, TX8, CI8, by decide, Or.inr ⟨_, k_52⟩⟩
theorem fg_X9_420 : FG RX9 420 0 8 10 := ⟨RX0, TX0, CI0, by decide, Or.inr ⟨_, k_98⟩⟩
theorem fg_X9_400 : FG RX9 400 0 9 10 := ⟨RX0, TX0, CI0, by decide, Or.inr ⟨_, k_101⟩⟩
theorem fg_X9_110 : FG RX9 110 0 0 10 := ⟨RX0, TX0, CI0, by decide, Or.inr ⟨_, k_66⟩⟩
theorem cv_X9_423 : CVw RX9 423 M_X9_slotsWithRow 0 9 15 := ⟨⟨k_1195, k_1, by decide +kernel, Or.inl k_1192⟩, k_1194, ks_42, by decide, TX9, CI9.1⟩
theorem cv_X9_279 : CVw RX9 279 M_X7_isBare 0 7 3 := ⟨⟨k_933, k_6, by decide +kernel, Or.inl k_930⟩, k_931, k_932, by decide, TX7, CI7.1⟩
theorem fg_X7_15 : FG RX7 15 7 2 3 := ⟨RX7, TX7, CI7, by decide, Or.inl k_168⟩
theorem cv_X9_103 : CVw RX9 103 M_X0_copyFrom 1 0 10 := ⟨⟨k_530, k_2, by decide +kernel, Or.inl k_527⟩, k_528, k_529, by decide, TX0, CI0.1⟩
theorem fp_X0_32 : FP RX0 32 0 0 10 := ⟨RX0, TX0, CI0, by decide, rfl, Or.inl k_64⟩
theorem fp_X0_36 : FP RX0 36 0 1 10 := ⟨RX0, TX0, CI0, by decide, rfl, Or.inl k_67⟩
theorem fg_X0_39 : FG RX0 39 0 2 10 := ⟨RX0, TX0, CI0, by decide, Or.inl k_71⟩
theorem fp_X0_39 : FP RX0 39 0 2 10 := ⟨RX0, TX0, CI0, by decide, rfl, Or.inl k_71⟩
theorem fg_X0_42 : FG RX0 42 0 3 10 := ⟨RX0, TX0, CI0, by decide, Or.inl k_76⟩
theorem fp_X0_42 : FP RX0 42 0 3 10 := ⟨RX0, TX0, CI0, by decide, rfl, Or.inl k_76⟩
theorem fg_X0_45 : FG RX0 45 0 4 10 := ⟨RX0, TX0, CI0, by decide, Or.inl k_79⟩
theorem fp_X0_45 : FP RX0 45 0 4 10 := ⟨RX0, TX0, CI0, by decide, rfl, Or.inl k_79⟩
theorem fg_X0_14 : FG RX0 14 0 5 10 := ⟨RX0, TX0, CI0, by decide, Or.inl k_82⟩
theorem cv_X0_51 : CVw RX0 51 M_X8_copyFrom 1 8 4 := ⟨⟨k_534, k_3, by decide +kernel, Or.inl k_531⟩, k_532, k_533, by decide, TX8, CI8.1⟩
theorem fg_X8_24 : FG RX8 24 8 0 4 := ⟨RX8, TX8, CI8, by decide, Or.inl k_43⟩
theorem fg_X0_23 : FG RX0 23 0 7 10 := ⟨RX0, TX0, CI0, by decide, Or.inl k_92⟩
theorem fg_X0_26 : FG RX0 26 0 8 10 := ⟨RX0, TX0, CI0, by decide, Or.inl k_95⟩
theorem fg_X0_29 : FG RX0 29 0 9 10 := ⟨RX0, TX0, CI0, by decide, Or.inl k_99⟩
theorem fg_X9_40 : FG RX9 40 9 6 15 := ⟨RX9, TX9, CI9, by decide, Or.inl k_308⟩
theorem cv_X9_426 : CVw RX9 426 M_X7_start 2 7 3 := ⟨⟨k_1211, k_6, by decide +kernel, Or.inl k_1208⟩, k_1209, k_1210, by decide, TX7, CI7.1⟩
theorem fp_X7_19 : FP RX7 19 7 1 3 := ⟨RX7, TX7, CI7, by decide, rfl, Or.inl k_166⟩
theorem fg_X7_11 : FG RX7 11 7 0 3 := ⟨RX7, TX7, CI7, by decide, Or.inl k_164⟩
theorem cs_X7_28 : CSw RX7 28 M_J7_fill_d0a16 2 := ⟨⟨k_1102, k_18, by decide +kernel, Or.inl k_1213⟩, k_1101⟩
theorem fg_X10_90 : FG RX10 90 10 5 40 := ⟨RX10, TX10, CI10, by decide, Or.inl k_1245⟩
theorem fg_X10_24 : FG RX10 24 10 6 40 := ⟨RX10, TX10, CI10, by decide, Or.inl k_1246⟩
theorem fg_X10_20 : FG RX10 20 10 4 40 := ⟨RX10, TX10, CI10, by decide, Or.inl k_1244⟩
theorem fp_X10_90 : FP RX10 90 10 5 40 := ⟨RX10, TX10, CI10, by decide, rfl, Or.inl k_1245⟩
theorem cs_X10_82 : CSw RX10 82 M_X10_in 3 := ⟨⟨k_1368, k_12, by decide +kernel, Or.inl k_1366⟩, k_1367⟩
theorem fg_X10_27 : FG RX10 27 10 13 40 := ⟨RX10, TX10, CI10, by decide, Or.inl k_1253⟩
theorem fg_X10_127 : FG RX10 127 10 12 40 := ⟨RX10, TX10, CI10, by decide, Or.inl k_1252⟩
theorem cv_X10_218 : CVw RX10 218 M_X10_isDoor 1 10 40 := ⟨⟨k_1483, k_12, by decide +kernel, Or.inl k_1480⟩, k_1482, ks_60, by decide, TX10, CI10.1⟩
theorem fg_X10_9 : FG RX10 9 10 1 40 := ⟨RX10, TX10, CI10, by decide, Or.inl k_1241⟩
theorem cv_X10_222 : CVw RX10 222 M_X10_isLady 1 10 40 := ⟨⟨k_1491, k_12, by decide +kernel, Or.inl k_1488⟩, k_1490, ks_61, by decide, TX10, CI10.1⟩
theorem cv_X10_279 : CVw RX10 279 M_X10_asItIs 0 10 40 := ⟨⟨k_1499, k_12, by decide +kernel, Or.inl k_1496⟩, k_1498, ks_62, by decide, TX10, CI10.1⟩
theorem fp_X10_227 : FP RX10 227 10 16 40 := ⟨RX10, TX10, CI10, by decide, rfl, Or.inl k_1256⟩
theorem fp_X10_230 : FP RX10 230 10 17 40 := ⟨RX10, TX10, CI10, by decide, rfl, Or.inl k_1257⟩
theorem fp_X10_264 : FP RX10 264 10 21 40 := ⟨RX10, TX10, CI10, by decide, rfl, Or.inl k_1261⟩
theorem fp_X10_249 : FP RX10 249 10 22 40 := ⟨RX10, TX10, CI10, by decide, rfl, Or.inl k_1262⟩
theorem fp_X10_267 : FP RX10 267 10 23 40 := ⟨RX10, TX10, CI10, by decide, rfl, Or.inl k_1263⟩
theorem fp_X10_270 : FP RX10 270 10 24 40 := ⟨RX10, TX10, CI10, by decide, rfl, Or.inl k_1264⟩
theorem cv_X10_273 : CVw RX10 273 M_X10_layMinisters 0 10 40 := ⟨⟨k_1503, k_12, by decide +kernel, Or.inl k_1500⟩, k_1502, ks_63, by decide, TX10, CI10.1⟩
theorem fg_X10_43 : FG RX10 43 10 20 40 := ⟨RX10, TX10, CI10, by decide, Or.inl k_1260⟩
theorem cv_X10_276 : CVw RX10 276 M_X10_layPlaces 0 10 40 := ⟨⟨k_1508, k_12, by decide +kernel, Or.inl k_1505⟩, k_1507, ks_64, by decide, TX10, CI10.1⟩
theorem cv_X10_241 : CVw RX10 241 M_X10_layWays 0 10 40 := ⟨⟨k_1512, k_12, by decide +kernel, Or.inl k_1509⟩, k_1511, ks_65, by decide, TX10, CI10.1⟩
theorem fg_X10_34 : FG RX10 34 10 15 40 := ⟨RX10, TX10, CI10, by decide, Or.inl k_1255⟩
theorem cv_X10_244 : CVw RX10 244 M_X10_ladies 0 10 40 := ⟨⟨k_1521, k_12, by decide +kernel, Or.inl k_1518⟩, k_1520, ks_67, by decide, TX10, CI10.1⟩
theorem cv_X10_285 : CVw RX10 285 M_X10_isMinister 1 10 40 := ⟨⟨k_1548, k_12, by decide +kernel, Or.inl k_1545⟩, k_1547, ks_73, by decide, TX10, CI10.1⟩
theorem cv_X10_288 : CVw RX10 288 M_X10_asksLady 1 10 40 := ⟨⟨k_1556, k_12, by decide +kernel, Or.inl k_1553⟩, k_1555, ks_74, by decide, TX10, CI10.1⟩
theorem cv_X10_294 : CVw RX10 294 M_X10_asksDance 1 10 40 := ⟨⟨k_1584, k_12, by decide +kernel, Or.inl k_1581⟩, k_1583, ks_78, by decide, TX10, CI10.1⟩
theorem cv_X10_282 : CVw RX10 282 M_X10_isDance 1 10 40 := ⟨⟨k_1572, k_12, by decide +kernel, Or.inl k_1569⟩, k_1571, ks_76, by decide, TX10, CI10.1⟩
theorem cv_X10_86 : CVw RX10 86 M_X10_isBall 0 10 40 := ⟨⟨k_1576, k_12, by decide +kernel, Or.inl k_1573⟩, k_1575, ks_77, by decide, TX10, CI10.1⟩
theorem cv_X10_322 : CVw RX10 322 M_X10_asksBall 0 10 40 := ⟨⟨k_1640, k_12, by decide +kernel, Or.inl k_1637⟩, k_1639, ks_85, by decide, TX10, CI10.1⟩
theorem cv_X10_340 : CVw RX10 340 M_X10_asksNote 2 10 40 := ⟨⟨k_1703, k_12, by decide +kernel, Or.inl k_1700⟩, k_1702, ks_90, by decide, TX10, CI10.1⟩
theorem cv_X10_399 : CVw RX10 399 M_X10_isSet 1 10 40 := ⟨⟨k_1835, k_12, by decide +kernel, Or.inl k_1832⟩, k_1834, ks_102, by decide, TX10, CI10.1⟩
theorem cv_X10_362 : CVw RX10 362 M_X10_asksCarry 3 10 40 := ⟨⟨k_1749, k_12, by decide +kernel, Or.inl k_1746⟩, k_1748, ks_92, by decide, TX10, CI10.1⟩
theorem cv_X10_381 : CVw RX10 381 M_X10_layFirsts 1 10 40 := ⟨⟨k_1796, k_12, by decide +kernel, Or.inl k_1793⟩, k_1795, ks_98, by decide, TX10, CI10.1⟩
theorem cs_X10_375 : CSw RX10 375 M_X10_isSlot 1 := ⟨⟨k_1799, k_12, by decide +kernel, Or.inl k_1797⟩, k_1798⟩
theorem cv_X10_416 : CVw RX10 416 M_X10_areTwo 2 10 40 := ⟨⟨k_1901, k_12, by decide +kernel, Or.inl k_1898⟩, k_1900, ks_108, by decide, TX10, CI10.1⟩
theorem cv_X10_435 : CVw RX10 435 M_X10_asksMusic 3 10 40 := ⟨⟨k_1917, k_12, by decide +kernel, Or.inl k_1914⟩, k_1916, ks_110, by decide, TX10, CI10.1⟩
theorem cs_X10_461 : CSw RX10 461 M_X10_isSeed 1 := ⟨⟨k_1955, k_12, by decide +kernel, Or.inl k_1953⟩, k_1954⟩
theorem fg_X10_64 : FG RX10 64 10 36 40 := ⟨RX10, TX10, CI10, by decide, Or.inl k_1276⟩
theorem fg_X10_13 : FG RX10 13 10 2 40 := ⟨RX10, TX10, CI10, by decide, Or.inl k_1242⟩
theorem fg_X10_16 : FG RX10 16 10 3 40 := ⟨RX10, TX10, CI10, by decide, Or.inl k_1243⟩
theorem fg_X10_67 : FG RX10 67 10 37 40 := ⟨RX10, TX10, CI10, by decide, Or.inl k_1277⟩
theorem fg_X10_70 : FG RX10 70 10 38 40 := ⟨RX10, TX10, CI10, by decide, Or.inl k_1278⟩
abbrev TL4 (w : XW) : Prop := Fc 116 [] [(0, 1, 4)] [] w
abbrev TL8 (w : XW) : Prop := Fc 116 [] [(0, 1, 8)] [] w
abbrev TL12 (w : XW) : Prop := Fc 116 [] [(0, 1, 12)] [] w
abbrev TL16 (w : XW) : Prop := Fc 116 [] [(0, 1, 16)] [] w
abbrev TL20 (w : XW) : Prop := Fc 116 [] [(0, 1, 20)] [] w
abbrev TL0 (w : XW) : Prop := Fc 116 [] [(0, 1, 0)] [] w
def sp_end (n : Int32) : Int32 := if n.toInt = 0 then 0 else -1
def sp_fault (n : Int32) : Int32 := if n.toInt = 0 then 0 else -1
def sp_count (n : Int32) : Int32 := if 0 ≤ n.toInt ∧ n.toInt ≤ 11 then 0 else -1
def sp_image (n : Int32) : Int32 := if 0 ≤ n.toInt ∧ n.toInt ≤ 2 then 0 else -2
def sp_back (n : Int32) : Int32 := if 0 ≤ n.toInt ∧ n.toInt ≤ 2 then -6 else -2
def sp_row (s w n : Int32) : Int32 := if s.toInt < 0 ∨ 3 < s.toInt ∨ w.toInt < 0 ∨ 3 < w.toInt ∨ 60 < n.toInt then -2 else if n.toInt < 0 then -3 else 0
def sp_write (s _i : Int32) (_v : Int64) : Int32 := if s.toInt < 0 ∨ 3 < s.toInt then -2 else -6
def sp_paste (s _i t _k _n : Int32) : Int32 := if s.toInt < 0 ∨ 3 < s.toInt ∨ t.toInt < 0 ∨ 3 < t.toInt then -2 else -6
