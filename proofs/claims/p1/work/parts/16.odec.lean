theorem dX9_feed_0 : decode cX9_feed 0 = .ok (.aload_n 0, 1) := by decide +kernel
theorem dX9_feed_1 : decode cX9_feed 1 = .ok (.getfield 13, 3) := by decide +kernel
theorem dX9_feed_4 : decode cX9_feed 4 = .ok (.sipush 980, 3) := by decide +kernel
theorem dX9_feed_7 : decode cX9_feed 7 = .ok (.if_icmp .le 5, 3) := by decide +kernel
theorem dX9_feed_12 : decode cX9_feed 12 = .ok (.aload_n 0, 1) := by decide +kernel
theorem dX9_feed_13 : decode cX9_feed 13 = .ok (.iload_n 1, 1) := by decide +kernel
theorem dX9_feed_14 : decode cX9_feed 14 = .ok (.invokevirtual 93, 3) := by decide +kernel
theorem dX9_appendFour_0 : decode cX9_appendFour 0 = .ok (.bipush 24, 2) := by decide +kernel
theorem dX9_appendFour_2 : decode cX9_appendFour 2 = .ok (.istore_n 2, 1) := by decide +kernel
theorem dX9_appendFour_3 : decode cX9_appendFour 3 = .ok (.iload_n 2, 1) := by decide +kernel
theorem dX9_appendFour_4 : decode cX9_appendFour 4 = .ok (.ifCond .lt 51, 3) := by decide +kernel
theorem dX9_appendFour_7 : decode cX9_appendFour 7 = .ok (.aload_n 0, 1) := by decide +kernel
theorem dX9_appendFour_8 : decode cX9_appendFour 8 = .ok (.getfield 13, 3) := by decide +kernel
theorem dX9_appendFour_11 : decode cX9_appendFour 11 = .ok (.ifCond .lt 38, 3) := by decide +kernel
theorem dX9_appendFour_14 : decode cX9_appendFour 14 = .ok (.aload_n 0, 1) := by decide +kernel
theorem dX9_appendFour_15 : decode cX9_appendFour 15 = .ok (.getfield 13, 3) := by decide +kernel
theorem dX9_appendFour_18 : decode cX9_appendFour 18 = .ok (.aload_n 0, 1) := by decide +kernel
theorem dX9_appendFour_19 : decode cX9_appendFour 19 = .ok (.getfield 9, 3) := by decide +kernel
theorem dX9_appendFour_22 : decode cX9_appendFour 22 = .ok (.arraylength, 1) := by decide +kernel
theorem dX9_appendFour_23 : decode cX9_appendFour 23 = .ok (.if_icmp .ge 26, 3) := by decide +kernel
theorem dX9_appendFour_26 : decode cX9_appendFour 26 = .ok (.aload_n 0, 1) := by decide +kernel
theorem dX9_appendFour_27 : decode cX9_appendFour 27 = .ok (.getfield 9, 3) := by decide +kernel
theorem dX9_appendFour_30 : decode cX9_appendFour 30 = .ok (.aload_n 0, 1) := by decide +kernel
theorem dX9_appendFour_31 : decode cX9_appendFour 31 = .ok (.getfield 13, 3) := by decide +kernel
theorem dX9_appendFour_34 : decode cX9_appendFour 34 = .ok (.iload_n 1, 1) := by decide +kernel
theorem dX9_appendFour_35 : decode cX9_appendFour 35 = .ok (.iload_n 2, 1) := by decide +kernel
theorem dX9_appendFour_36 : decode cX9_appendFour 36 = .ok (.iushr, 1) := by decide +kernel
theorem dX9_appendFour_37 : decode cX9_appendFour 37 = .ok (.i2b, 1) := by decide +kernel
theorem dX9_appendFour_38 : decode cX9_appendFour 38 = .ok (.bastore, 1) := by decide +kernel
theorem dX9_appendFour_39 : decode cX9_appendFour 39 = .ok (.aload_n 0, 1) := by decide +kernel
theorem dX9_appendFour_40 : decode cX9_appendFour 40 = .ok (.dup, 1) := by decide +kernel
theorem dX9_appendFour_41 : decode cX9_appendFour 41 = .ok (.getfield 13, 3) := by decide +kernel
theorem dX9_appendFour_44 : decode cX9_appendFour 44 = .ok (.iconst 1, 1) := by decide +kernel
theorem dX9_appendFour_45 : decode cX9_appendFour 45 = .ok (.iadd, 1) := by decide +kernel
theorem dX9_appendFour_46 : decode cX9_appendFour 46 = .ok (.putfield 13, 3) := by decide +kernel
theorem dX9_appendFour_49 : decode cX9_appendFour 49 = .ok (.iinc 2 (-8), 3) := by decide +kernel
theorem dX9_appendFour_52 : decode cX9_appendFour 52 = .ok (.goto (-49), 3) := by decide +kernel
theorem dX9_appendFour_55 : decode cX9_appendFour 55 = .ok (.return_, 1) := by decide +kernel
theorem dX9_feed_17 : decode cX9_feed 17 = .ok (.aload_n 0, 1) := by decide +kernel
theorem dX9_feed_18 : decode cX9_feed 18 = .ok (.iload_n 2, 1) := by decide +kernel
theorem dX9_feed_19 : decode cX9_feed 19 = .ok (.invokevirtual 93, 3) := by decide +kernel
theorem dX9_feed_22 : decode cX9_feed 22 = .ok (.aload_n 0, 1) := by decide +kernel
theorem dX9_feed_23 : decode cX9_feed 23 = .ok (.iload_n 3, 1) := by decide +kernel
theorem dX9_feed_24 : decode cX9_feed 24 = .ok (.invokevirtual 93, 3) := by decide +kernel
theorem dX9_feed_27 : decode cX9_feed 27 = .ok (.aload_n 0, 1) := by decide +kernel
theorem dX9_feed_28 : decode cX9_feed 28 = .ok (.iload 4, 2) := by decide +kernel
theorem dX9_feed_30 : decode cX9_feed 30 = .ok (.invokevirtual 93, 3) := by decide +kernel
theorem dX9_feed_33 : decode cX9_feed 33 = .ok (.aload_n 0, 1) := by decide +kernel
theorem dX9_feed_34 : decode cX9_feed 34 = .ok (.iload 5, 2) := by decide +kernel
theorem dX9_feed_36 : decode cX9_feed 36 = .ok (.invokevirtual 93, 3) := by decide +kernel
theorem dX9_feed_39 : decode cX9_feed 39 = .ok (.aload_n 0, 1) := by decide +kernel
theorem dX9_feed_40 : decode cX9_feed 40 = .ok (.getfield 13, 3) := by decide +kernel
theorem dX9_feed_43 : decode cX9_feed 43 = .ok (.ireturn, 1) := by decide +kernel
theorem dX9_end_0 : decode cX9_end 0 = .ok (.iload_n 1, 1) := by decide +kernel
theorem dX9_end_1 : decode cX9_end 1 = .ok (.ifCond .lt 11, 3) := by decide +kernel
theorem dX9_end_12 : decode cX9_end 12 = .ok (.iconst (-1), 1) := by decide +kernel
theorem dX9_end_13 : decode cX9_end 13 = .ok (.ireturn, 1) := by decide +kernel
theorem dX9_end_4 : decode cX9_end 4 = .ok (.iload_n 1, 1) := by decide +kernel
theorem dX9_end_5 : decode cX9_end 5 = .ok (.aload_n 0, 1) := by decide +kernel
theorem dX9_end_6 : decode cX9_end 6 = .ok (.getfield 13, 3) := by decide +kernel
theorem dX9_end_9 : decode cX9_end 9 = .ok (.if_icmp .le 5, 3) := by decide +kernel
theorem dX9_end_14 : decode cX9_end 14 = .ok (.aload_n 0, 1) := by decide +kernel
theorem dX9_end_15 : decode cX9_end 15 = .ok (.iload_n 1, 1) := by decide +kernel
theorem dX9_end_16 : decode cX9_end 16 = .ok (.putfield 13, 3) := by decide +kernel
theorem dX9_end_19 : decode cX9_end 19 = .ok (.iload_n 1, 1) := by decide +kernel
theorem dX9_end_20 : decode cX9_end 20 = .ok (.ireturn, 1) := by decide +kernel
theorem dX9_fault_0 : decode cX9_fault 0 = .ok (.iload_n 1, 1) := by decide +kernel
theorem dX9_fault_1 : decode cX9_fault 1 = .ok (.ifCond .ne 11, 3) := by decide +kernel
theorem dX9_fault_12 : decode cX9_fault 12 = .ok (.iload_n 1, 1) := by decide +kernel
theorem dX9_fault_13 : decode cX9_fault 13 = .ok (.iconst 1, 1) := by decide +kernel
theorem dX9_fault_14 : decode cX9_fault 14 = .ok (.if_icmp .ne 13, 3) := by decide +kernel
theorem dX9_fault_27 : decode cX9_fault 27 = .ok (.iconst (-1), 1) := by decide +kernel
theorem dX9_fault_28 : decode cX9_fault 28 = .ok (.ireturn, 1) := by decide +kernel
theorem dX9_fault_17 : decode cX9_fault 17 = .ok (.aload_n 0, 1) := by decide +kernel
theorem dX9_fault_18 : decode cX9_fault 18 = .ok (.getfield 32, 3) := by decide +kernel
theorem dX9_fault_21 : decode cX9_fault 21 = .ok (.getfield 113, 3) := by decide +kernel
theorem dX9_fault_24 : decode cX9_fault 24 = .ok (.goto 4, 3) := by decide +kernel
theorem dX9_fault_4 : decode cX9_fault 4 = .ok (.aload_n 0, 1) := by decide +kernel
theorem dX9_fault_5 : decode cX9_fault 5 = .ok (.getfield 32, 3) := by decide +kernel
theorem dX9_fault_8 : decode cX9_fault 8 = .ok (.getfield 100, 3) := by decide +kernel
theorem dX9_fault_11 : decode cX9_fault 11 = .ok (.ireturn, 1) := by decide +kernel
theorem dX9_door_0 : decode cX9_door 0 = .ok (.aload_n 0, 1) := by decide +kernel
theorem dX9_door_1 : decode cX9_door 1 = .ok (.getfield 20, 3) := by decide +kernel
theorem dX9_door_4 : decode cX9_door 4 = .ok (.getfield 119, 3) := by decide +kernel
theorem dX9_door_7 : decode cX9_door 7 = .ok (.iload_n 1, 1) := by decide +kernel
theorem dX9_door_8 : decode cX9_door 8 = .ok (.iload_n 2, 1) := by decide +kernel
theorem dX9_door_9 : decode cX9_door 9 = .ok (.invokevirtual 123, 3) := by decide +kernel
theorem dX8_hasCell_0 : decode cX8_hasCell 0 = .ok (.iload_n 1, 1) := by decide +kernel
theorem dX8_hasCell_1 : decode cX8_hasCell 1 = .ok (.ifCond .lt 27, 3) := by decide +kernel
theorem dX8_hasCell_28 : decode cX8_hasCell 28 = .ok (.iconst 0, 1) := by decide +kernel
theorem dX8_hasCell_29 : decode cX8_hasCell 29 = .ok (.ireturn, 1) := by decide +kernel
theorem dX8_hasCell_4 : decode cX8_hasCell 4 = .ok (.iload_n 1, 1) := by decide +kernel
theorem dX8_hasCell_5 : decode cX8_hasCell 5 = .ok (.aload_n 0, 1) := by decide +kernel
theorem dX8_hasCell_6 : decode cX8_hasCell 6 = .ok (.getfield 28, 3) := by decide +kernel
theorem dX8_hasCell_9 : decode cX8_hasCell 9 = .ok (.if_icmp .ge 19, 3) := by decide +kernel
theorem dX9_door_12 : decode cX9_door 12 = .ok (.ifCond .eq 18, 3) := by decide +kernel
theorem dX9_door_30 : decode cX9_door 30 = .ok (.bipush (-2), 2) := by decide +kernel
theorem dX9_door_32 : decode cX9_door 32 = .ok (.ireturn, 1) := by decide +kernel
theorem dX9_lady_0 : decode cX9_lady 0 = .ok (.aload_n 0, 1) := by decide +kernel
theorem dX9_lady_1 : decode cX9_lady 1 = .ok (.getfield 20, 3) := by decide +kernel
theorem dX9_lady_4 : decode cX9_lady 4 = .ok (.getfield 133, 3) := by decide +kernel
theorem dX9_lady_7 : decode cX9_lady 7 = .ok (.iload_n 1, 1) := by decide +kernel
theorem dX9_lady_8 : decode cX9_lady 8 = .ok (.iload_n 2, 1) := by decide +kernel
theorem dX9_lady_9 : decode cX9_lady 9 = .ok (.invokevirtual 123, 3) := by decide +kernel
theorem dX9_lady_12 : decode cX9_lady 12 = .ok (.ifCond .eq 18, 3) := by decide +kernel
theorem dX9_lady_30 : decode cX9_lady 30 = .ok (.bipush (-2), 2) := by decide +kernel
theorem dX9_lady_32 : decode cX9_lady 32 = .ok (.ireturn, 1) := by decide +kernel
theorem dX9_minister_0 : decode cX9_minister 0 = .ok (.aload_n 0, 1) := by decide +kernel
theorem dX9_minister_1 : decode cX9_minister 1 = .ok (.getfield 20, 3) := by decide +kernel
theorem dX9_minister_4 : decode cX9_minister 4 = .ok (.getfield 136, 3) := by decide +kernel
theorem dX9_minister_7 : decode cX9_minister 7 = .ok (.iload_n 1, 1) := by decide +kernel
theorem dX9_minister_8 : decode cX9_minister 8 = .ok (.iload_n 2, 1) := by decide +kernel
theorem dX9_minister_9 : decode cX9_minister 9 = .ok (.invokevirtual 123, 3) := by decide +kernel
theorem dX9_minister_12 : decode cX9_minister 12 = .ok (.ifCond .eq 18, 3) := by decide +kernel
theorem dX9_minister_30 : decode cX9_minister 30 = .ok (.bipush (-2), 2) := by decide +kernel
theorem dX9_minister_32 : decode cX9_minister 32 = .ok (.ireturn, 1) := by decide +kernel
theorem dX9_way_0 : decode cX9_way 0 = .ok (.aload_n 0, 1) := by decide +kernel
theorem dX9_way_1 : decode cX9_way 1 = .ok (.getfield 20, 3) := by decide +kernel
theorem dX9_way_4 : decode cX9_way 4 = .ok (.iload_n 1, 1) := by decide +kernel
theorem dX9_way_5 : decode cX9_way 5 = .ok (.invokevirtual 139, 3) := by decide +kernel
theorem dX0_hasLady_0 : decode cX0_hasLady 0 = .ok (.aload_n 0, 1) := by decide +kernel
theorem dX0_hasLady_1 : decode cX0_hasLady 1 = .ok (.getfield 20, 3) := by decide +kernel
theorem dX0_hasLady_4 : decode cX0_hasLady 4 = .ok (.iload_n 1, 1) := by decide +kernel
theorem dX0_hasLady_5 : decode cX0_hasLady 5 = .ok (.invokevirtual 55, 3) := by decide +kernel
theorem dX8_has_0 : decode cX8_has 0 = .ok (.iload_n 1, 1) := by decide +kernel
theorem dX8_has_1 : decode cX8_has 1 = .ok (.ifCond .lt 15, 3) := by decide +kernel
theorem dX8_has_16 : decode cX8_has 16 = .ok (.iconst 0, 1) := by decide +kernel
theorem dX8_has_17 : decode cX8_has 17 = .ok (.ireturn, 1) := by decide +kernel
theorem dX8_has_4 : decode cX8_has 4 = .ok (.iload_n 1, 1) := by decide +kernel
theorem dX8_has_5 : decode cX8_has 5 = .ok (.aload_n 0, 1) := by decide +kernel
theorem dX8_has_6 : decode cX8_has 6 = .ok (.getfield 28, 3) := by decide +kernel
theorem dX8_has_9 : decode cX8_has 9 = .ok (.if_icmp .ge 7, 3) := by decide +kernel
theorem dX0_hasLady_8 : decode cX0_hasLady 8 = .ok (.ireturn, 1) := by decide +kernel
theorem dX9_way_8 : decode cX9_way 8 = .ok (.ifCond .eq 25, 3) := by decide +kernel
theorem dX9_way_33 : decode cX9_way 33 = .ok (.bipush (-2), 2) := by decide +kernel
theorem dX9_way_35 : decode cX9_way 35 = .ok (.ireturn, 1) := by decide +kernel
theorem dX9_reach_0 : decode cX9_reach 0 = .ok (.aload_n 0, 1) := by decide +kernel
theorem dX9_reach_1 : decode cX9_reach 1 = .ok (.getfield 20, 3) := by decide +kernel
theorem dX9_reach_4 : decode cX9_reach 4 = .ok (.iload_n 1, 1) := by decide +kernel
theorem dX9_reach_5 : decode cX9_reach 5 = .ok (.invokevirtual 139, 3) := by decide +kernel
theorem dX9_reach_8 : decode cX9_reach 8 = .ok (.ifCond .eq 14, 3) := by decide +kernel
theorem dX9_reach_22 : decode cX9_reach 22 = .ok (.bipush (-2), 2) := by decide +kernel
theorem dX9_reach_24 : decode cX9_reach 24 = .ok (.ireturn, 1) := by decide +kernel
theorem dX9_bidden_0 : decode cX9_bidden 0 = .ok (.aload_n 0, 1) := by decide +kernel
theorem dX9_bidden_1 : decode cX9_bidden 1 = .ok (.getfield 20, 3) := by decide +kernel
theorem dX9_bidden_4 : decode cX9_bidden 4 = .ok (.iload_n 1, 1) := by decide +kernel
theorem dX9_bidden_5 : decode cX9_bidden 5 = .ok (.invokevirtual 139, 3) := by decide +kernel
theorem dX9_bidden_8 : decode cX9_bidden 8 = .ok (.ifCond .eq 14, 3) := by decide +kernel
theorem dX9_bidden_22 : decode cX9_bidden 22 = .ok (.bipush (-2), 2) := by decide +kernel
theorem dX9_bidden_24 : decode cX9_bidden 24 = .ok (.ireturn, 1) := by decide +kernel
theorem dX9_at_0 : decode cX9_at 0 = .ok (.aload_n 0, 1) := by decide +kernel
theorem dX9_at_1 : decode cX9_at 1 = .ok (.getfield 20, 3) := by decide +kernel
theorem dX9_at_4 : decode cX9_at 4 = .ok (.iload_n 1, 1) := by decide +kernel
theorem dX9_at_5 : decode cX9_at 5 = .ok (.invokevirtual 139, 3) := by decide +kernel
theorem dX9_at_8 : decode cX9_at 8 = .ok (.ifCond .eq 14, 3) := by decide +kernel
theorem dX9_at_22 : decode cX9_at 22 = .ok (.bipush (-2), 2) := by decide +kernel
theorem dX9_at_24 : decode cX9_at 24 = .ok (.ireturn, 1) := by decide +kernel
theorem dX9_within_0 : decode cX9_within 0 = .ok (.aload_n 0, 1) := by decide +kernel
theorem dX9_within_1 : decode cX9_within 1 = .ok (.getfield 20, 3) := by decide +kernel
theorem dX9_within_4 : decode cX9_within 4 = .ok (.iload_n 1, 1) := by decide +kernel
theorem dX9_within_5 : decode cX9_within 5 = .ok (.invokevirtual 143, 3) := by decide +kernel
theorem dX0_hasRoom_0 : decode cX0_hasRoom 0 = .ok (.iload_n 1, 1) := by decide +kernel
theorem dX0_hasRoom_1 : decode cX0_hasRoom 1 = .ok (.ifCond .lt 15, 3) := by decide +kernel
theorem dX0_hasRoom_16 : decode cX0_hasRoom 16 = .ok (.iconst 0, 1) := by decide +kernel
theorem dX0_hasRoom_17 : decode cX0_hasRoom 17 = .ok (.ireturn, 1) := by decide +kernel
theorem dX0_hasRoom_4 : decode cX0_hasRoom 4 = .ok (.iload_n 1, 1) := by decide +kernel
theorem dX0_hasRoom_5 : decode cX0_hasRoom 5 = .ok (.aload_n 0, 1) := by decide +kernel
theorem dX0_hasRoom_6 : decode cX0_hasRoom 6 = .ok (.getfield 36, 3) := by decide +kernel
theorem dX0_hasRoom_9 : decode cX0_hasRoom 9 = .ok (.if_icmp .ge 7, 3) := by decide +kernel
theorem dX9_within_8 : decode cX9_within 8 = .ok (.ifCond .eq 14, 3) := by decide +kernel
theorem dX9_within_22 : decode cX9_within 22 = .ok (.bipush (-2), 2) := by decide +kernel
theorem dX9_within_24 : decode cX9_within 24 = .ok (.ireturn, 1) := by decide +kernel
theorem dX9_steps_0 : decode cX9_steps 0 = .ok (.aload_n 0, 1) := by decide +kernel
theorem dX9_steps_1 : decode cX9_steps 1 = .ok (.getfield 20, 3) := by decide +kernel
theorem dX9_steps_4 : decode cX9_steps 4 = .ok (.iload_n 1, 1) := by decide +kernel
theorem dX9_steps_5 : decode cX9_steps 5 = .ok (.invokevirtual 139, 3) := by decide +kernel
theorem dX9_steps_8 : decode cX9_steps 8 = .ok (.ifCond .eq 14, 3) := by decide +kernel
theorem dX9_steps_22 : decode cX9_steps 22 = .ok (.bipush (-2), 2) := by decide +kernel
theorem dX9_steps_24 : decode cX9_steps 24 = .ok (.ireturn, 1) := by decide +kernel
theorem dX9_sees_0 : decode cX9_sees 0 = .ok (.aload_n 0, 1) := by decide +kernel
theorem dX9_sees_1 : decode cX9_sees 1 = .ok (.getfield 20, 3) := by decide +kernel
theorem dX9_sees_4 : decode cX9_sees 4 = .ok (.iload_n 1, 1) := by decide +kernel
theorem dX9_sees_5 : decode cX9_sees 5 = .ok (.invokevirtual 139, 3) := by decide +kernel
theorem dX9_sees_8 : decode cX9_sees 8 = .ok (.ifCond .ne 6, 3) := by decide +kernel
theorem dX9_sees_11 : decode cX9_sees 11 = .ok (.bipush (-2), 2) := by decide +kernel
theorem dX9_sees_13 : decode cX9_sees 13 = .ok (.ireturn, 1) := by decide +kernel
theorem dX9_meets_0 : decode cX9_meets 0 = .ok (.aload_n 0, 1) := by decide +kernel
theorem dX9_meets_1 : decode cX9_meets 1 = .ok (.getfield 20, 3) := by decide +kernel
theorem dX9_meets_4 : decode cX9_meets 4 = .ok (.iload_n 1, 1) := by decide +kernel
theorem dX9_meets_5 : decode cX9_meets 5 = .ok (.invokevirtual 139, 3) := by decide +kernel
theorem dX9_meets_8 : decode cX9_meets 8 = .ok (.ifCond .eq 14, 3) := by decide +kernel
theorem dX9_meets_22 : decode cX9_meets 22 = .ok (.bipush (-2), 2) := by decide +kernel
theorem dX9_meets_24 : decode cX9_meets 24 = .ok (.ireturn, 1) := by decide +kernel
theorem dX9_often_0 : decode cX9_often 0 = .ok (.aload_n 0, 1) := by decide +kernel
theorem dX9_often_1 : decode cX9_often 1 = .ok (.getfield 20, 3) := by decide +kernel
theorem dX9_often_4 : decode cX9_often 4 = .ok (.iload_n 1, 1) := by decide +kernel
theorem dX9_often_5 : decode cX9_often 5 = .ok (.invokevirtual 139, 3) := by decide +kernel
theorem dX9_often_8 : decode cX9_often 8 = .ok (.ifCond .eq 14, 3) := by decide +kernel
theorem dX9_often_22 : decode cX9_often 22 = .ok (.bipush (-2), 2) := by decide +kernel
theorem dX9_often_24 : decode cX9_often 24 = .ok (.ireturn, 1) := by decide +kernel
theorem dX9_friends_0 : decode cX9_friends 0 = .ok (.aload_n 0, 1) := by decide +kernel
theorem dX9_friends_1 : decode cX9_friends 1 = .ok (.getfield 20, 3) := by decide +kernel
theorem dX9_friends_4 : decode cX9_friends 4 = .ok (.iload_n 1, 1) := by decide +kernel
theorem dX9_friends_5 : decode cX9_friends 5 = .ok (.invokevirtual 139, 3) := by decide +kernel
theorem dX9_friends_8 : decode cX9_friends 8 = .ok (.ifCond .eq 14, 3) := by decide +kernel
theorem dX9_friends_22 : decode cX9_friends 22 = .ok (.bipush (-2), 2) := by decide +kernel
theorem dX9_friends_24 : decode cX9_friends 24 = .ok (.ireturn, 1) := by decide +kernel
theorem dX9_crush_0 : decode cX9_crush 0 = .ok (.aload_n 0, 1) := by decide +kernel
theorem dX9_crush_1 : decode cX9_crush 1 = .ok (.getfield 20, 3) := by decide +kernel
theorem dX9_crush_4 : decode cX9_crush 4 = .ok (.invokevirtual 184, 3) := by decide +kernel
theorem dX0_isTold_0 : decode cX0_isTold 0 = .ok (.aload_n 0, 1) := by decide +kernel
theorem dX0_isTold_1 : decode cX0_isTold 1 = .ok (.getfield 32, 3) := by decide +kernel
theorem dX0_isTold_4 : decode cX0_isTold 4 = .ok (.ifCond .le 7, 3) := by decide +kernel
theorem dX0_isTold_11 : decode cX0_isTold 11 = .ok (.iconst 0, 1) := by decide +kernel
theorem dX0_isTold_12 : decode cX0_isTold 12 = .ok (.ireturn, 1) := by decide +kernel
theorem dX9_crush_7 : decode cX9_crush 7 = .ok (.ifCond .ne 6, 3) := by decide +kernel
theorem dX9_crush_10 : decode cX9_crush 10 = .ok (.bipush (-2), 2) := by decide +kernel
theorem dX9_crush_12 : decode cX9_crush 12 = .ok (.ireturn, 1) := by decide +kernel
theorem dX9_crushed_0 : decode cX9_crushed 0 = .ok (.aload_n 0, 1) := by decide +kernel
theorem dX9_crushed_1 : decode cX9_crushed 1 = .ok (.invokevirtual 196, 3) := by decide +kernel
theorem dX9_crushed_4 : decode cX9_crushed 4 = .ok (.istore_n 1, 1) := by decide +kernel
theorem dX9_crushed_5 : decode cX9_crushed 5 = .ok (.iload_n 1, 1) := by decide +kernel
theorem dX9_crushed_6 : decode cX9_crushed 6 = .ok (.ifCond .ge 6, 3) := by decide +kernel
theorem dX9_crushed_9 : decode cX9_crushed 9 = .ok (.bipush (-2), 2) := by decide +kernel
theorem dX9_crushed_11 : decode cX9_crushed 11 = .ok (.ireturn, 1) := by decide +kernel
theorem dX9_likes_0 : decode cX9_likes 0 = .ok (.aload_n 0, 1) := by decide +kernel
theorem dX9_likes_1 : decode cX9_likes 1 = .ok (.getfield 20, 3) := by decide +kernel
theorem dX9_likes_4 : decode cX9_likes 4 = .ok (.iload_n 1, 1) := by decide +kernel
theorem dX9_likes_5 : decode cX9_likes 5 = .ok (.invokevirtual 139, 3) := by decide +kernel
theorem dX9_likes_8 : decode cX9_likes 8 = .ok (.ifCond .ne 6, 3) := by decide +kernel
theorem dX9_likes_11 : decode cX9_likes 11 = .ok (.bipush (-2), 2) := by decide +kernel
theorem dX9_likes_13 : decode cX9_likes 13 = .ok (.ireturn, 1) := by decide +kernel
theorem dX9_apart_0 : decode cX9_apart 0 = .ok (.aload_n 0, 1) := by decide +kernel
theorem dX9_apart_1 : decode cX9_apart 1 = .ok (.getfield 20, 3) := by decide +kernel
theorem dX9_apart_4 : decode cX9_apart 4 = .ok (.iload_n 1, 1) := by decide +kernel
theorem dX9_apart_5 : decode cX9_apart 5 = .ok (.invokevirtual 139, 3) := by decide +kernel
theorem dX9_apart_8 : decode cX9_apart 8 = .ok (.ifCond .eq 25, 3) := by decide +kernel
theorem dX9_apart_33 : decode cX9_apart 33 = .ok (.bipush (-2), 2) := by decide +kernel
theorem dX9_apart_35 : decode cX9_apart 35 = .ok (.ireturn, 1) := by decide +kernel
theorem dX9_alone_0 : decode cX9_alone 0 = .ok (.aload_n 0, 1) := by decide +kernel
theorem dX9_alone_1 : decode cX9_alone 1 = .ok (.getfield 20, 3) := by decide +kernel
theorem dX9_alone_4 : decode cX9_alone 4 = .ok (.iload_n 1, 1) := by decide +kernel
theorem dX9_alone_5 : decode cX9_alone 5 = .ok (.invokevirtual 153, 3) := by decide +kernel
theorem dX0_hasDance_0 : decode cX0_hasDance 0 = .ok (.aload_n 0, 1) := by decide +kernel
theorem dX0_hasDance_1 : decode cX0_hasDance 1 = .ok (.invokevirtual 59, 3) := by decide +kernel
theorem dX0_hasDance_4 : decode cX0_hasDance 4 = .ok (.ifCond .eq 19, 3) := by decide +kernel
theorem dX0_hasDance_23 : decode cX0_hasDance 23 = .ok (.iconst 0, 1) := by decide +kernel
theorem dX0_hasDance_24 : decode cX0_hasDance 24 = .ok (.ireturn, 1) := by decide +kernel
theorem dX9_alone_8 : decode cX9_alone 8 = .ok (.ifCond .ne 6, 3) := by decide +kernel
theorem dX9_alone_11 : decode cX9_alone 11 = .ok (.bipush (-2), 2) := by decide +kernel
theorem dX9_alone_13 : decode cX9_alone 13 = .ok (.ireturn, 1) := by decide +kernel
theorem dX9_empty_0 : decode cX9_empty 0 = .ok (.aload_n 0, 1) := by decide +kernel
theorem dX9_empty_1 : decode cX9_empty 1 = .ok (.getfield 20, 3) := by decide +kernel
theorem dX9_empty_4 : decode cX9_empty 4 = .ok (.iload_n 1, 1) := by decide +kernel
theorem dX9_empty_5 : decode cX9_empty 5 = .ok (.invokevirtual 153, 3) := by decide +kernel
theorem dX9_empty_8 : decode cX9_empty 8 = .ok (.ifCond .ne 6, 3) := by decide +kernel
theorem dX9_empty_11 : decode cX9_empty 11 = .ok (.bipush (-2), 2) := by decide +kernel
theorem dX9_empty_13 : decode cX9_empty 13 = .ok (.ireturn, 1) := by decide +kernel
theorem dX9_late_0 : decode cX9_late 0 = .ok (.aload_n 0, 1) := by decide +kernel
theorem dX9_late_1 : decode cX9_late 1 = .ok (.getfield 20, 3) := by decide +kernel
theorem dX9_late_4 : decode cX9_late 4 = .ok (.iload_n 1, 1) := by decide +kernel
theorem dX9_late_5 : decode cX9_late 5 = .ok (.invokevirtual 139, 3) := by decide +kernel
theorem dX9_late_8 : decode cX9_late 8 = .ok (.ifCond .ne 6, 3) := by decide +kernel
theorem dX9_late_11 : decode cX9_late 11 = .ok (.bipush (-2), 2) := by decide +kernel
theorem dX9_late_13 : decode cX9_late 13 = .ok (.ireturn, 1) := by decide +kernel
theorem dX9_waits_0 : decode cX9_waits 0 = .ok (.aload_n 0, 1) := by decide +kernel
theorem dX9_waits_1 : decode cX9_waits 1 = .ok (.getfield 20, 3) := by decide +kernel
theorem dX9_waits_4 : decode cX9_waits 4 = .ok (.iload_n 1, 1) := by decide +kernel
theorem dX9_waits_5 : decode cX9_waits 5 = .ok (.invokevirtual 139, 3) := by decide +kernel
theorem dX9_waits_8 : decode cX9_waits 8 = .ok (.ifCond .ne 6, 3) := by decide +kernel
theorem dX9_waits_11 : decode cX9_waits 11 = .ok (.bipush (-2), 2) := by decide +kernel
theorem dX9_waits_13 : decode cX9_waits 13 = .ok (.ireturn, 1) := by decide +kernel
theorem dX9_mate_0 : decode cX9_mate 0 = .ok (.aload_n 0, 1) := by decide +kernel
theorem dX9_mate_1 : decode cX9_mate 1 = .ok (.getfield 20, 3) := by decide +kernel
theorem dX9_mate_4 : decode cX9_mate 4 = .ok (.iload_n 1, 1) := by decide +kernel
theorem dX9_mate_5 : decode cX9_mate 5 = .ok (.invokevirtual 139, 3) := by decide +kernel
theorem dX9_mate_8 : decode cX9_mate 8 = .ok (.ifCond .ne 6, 3) := by decide +kernel
theorem dX9_mate_11 : decode cX9_mate 11 = .ok (.bipush (-2), 2) := by decide +kernel
theorem dX9_mate_13 : decode cX9_mate 13 = .ok (.ireturn, 1) := by decide +kernel
theorem dX9_hears_0 : decode cX9_hears 0 = .ok (.aload_n 0, 1) := by decide +kernel
theorem dX9_hears_1 : decode cX9_hears 1 = .ok (.getfield 20, 3) := by decide +kernel
theorem dX9_hears_4 : decode cX9_hears 4 = .ok (.iload_n 1, 1) := by decide +kernel
theorem dX9_hears_5 : decode cX9_hears 5 = .ok (.invokevirtual 139, 3) := by decide +kernel
theorem dX9_hears_8 : decode cX9_hears 8 = .ok (.ifCond .ne 6, 3) := by decide +kernel
theorem dX9_hears_11 : decode cX9_hears 11 = .ok (.bipush (-2), 2) := by decide +kernel
theorem dX9_hears_13 : decode cX9_hears 13 = .ok (.ireturn, 1) := by decide +kernel
theorem dX9_hands_0 : decode cX9_hands 0 = .ok (.aload_n 0, 1) := by decide +kernel
theorem dX9_hands_1 : decode cX9_hands 1 = .ok (.getfield 20, 3) := by decide +kernel
theorem dX9_hands_4 : decode cX9_hands 4 = .ok (.iload_n 1, 1) := by decide +kernel
theorem dX9_hands_5 : decode cX9_hands 5 = .ok (.invokevirtual 139, 3) := by decide +kernel
theorem dX9_hands_8 : decode cX9_hands 8 = .ok (.ifCond .eq 14, 3) := by decide +kernel
theorem dX9_hands_22 : decode cX9_hands 22 = .ok (.bipush (-2), 2) := by decide +kernel
theorem dX9_hands_24 : decode cX9_hands 24 = .ok (.ireturn, 1) := by decide +kernel
theorem dX9_dummies_0 : decode cX9_dummies 0 = .ok (.aload_n 0, 1) := by decide +kernel
theorem dX9_dummies_1 : decode cX9_dummies 1 = .ok (.getfield 20, 3) := by decide +kernel
theorem dX9_dummies_4 : decode cX9_dummies 4 = .ok (.invokevirtual 184, 3) := by decide +kernel
theorem dX9_dummies_7 : decode cX9_dummies 7 = .ok (.ifCond .ne 6, 3) := by decide +kernel
theorem dX9_dummies_10 : decode cX9_dummies 10 = .ok (.bipush (-2), 2) := by decide +kernel
theorem dX9_dummies_12 : decode cX9_dummies 12 = .ok (.ireturn, 1) := by decide +kernel
theorem dX9_blocks_0 : decode cX9_blocks 0 = .ok (.aload_n 0, 1) := by decide +kernel
theorem dX9_blocks_1 : decode cX9_blocks 1 = .ok (.getfield 20, 3) := by decide +kernel
theorem dX9_blocks_4 : decode cX9_blocks 4 = .ok (.iload_n 1, 1) := by decide +kernel
theorem dX9_blocks_5 : decode cX9_blocks 5 = .ok (.invokevirtual 308, 3) := by decide +kernel
theorem dX0_hasSet_0 : decode cX0_hasSet 0 = .ok (.aload_n 0, 1) := by decide +kernel
theorem dX0_hasSet_1 : decode cX0_hasSet 1 = .ok (.invokevirtual 59, 3) := by decide +kernel
theorem dX0_hasSet_4 : decode cX0_hasSet 4 = .ok (.ifCond .eq 19, 3) := by decide +kernel
theorem dX0_hasSet_23 : decode cX0_hasSet 23 = .ok (.iconst 0, 1) := by decide +kernel
theorem dX0_hasSet_24 : decode cX0_hasSet 24 = .ok (.ireturn, 1) := by decide +kernel
theorem dX9_blocks_8 : decode cX9_blocks 8 = .ok (.ifCond .ne 6, 3) := by decide +kernel
theorem dX9_blocks_11 : decode cX9_blocks 11 = .ok (.bipush (-2), 2) := by decide +kernel
theorem dX9_blocks_13 : decode cX9_blocks 13 = .ok (.ireturn, 1) := by decide +kernel
theorem dX9_strongest_0 : decode cX9_strongest 0 = .ok (.aload_n 0, 1) := by decide +kernel
theorem dX9_strongest_1 : decode cX9_strongest 1 = .ok (.getfield 20, 3) := by decide +kernel
theorem dX9_strongest_4 : decode cX9_strongest 4 = .ok (.invokevirtual 184, 3) := by decide +kernel
theorem dX9_strongest_7 : decode cX9_strongest 7 = .ok (.ifCond .ne 6, 3) := by decide +kernel
theorem dX9_strongest_10 : decode cX9_strongest 10 = .ok (.bipush (-2), 2) := by decide +kernel
theorem dX9_strongest_12 : decode cX9_strongest 12 = .ok (.ireturn, 1) := by decide +kernel
theorem dX9_have_0 : decode cX9_have 0 = .ok (.aload_n 0, 1) := by decide +kernel
theorem dX9_have_1 : decode cX9_have 1 = .ok (.getfield 20, 3) := by decide +kernel
theorem dX9_have_4 : decode cX9_have 4 = .ok (.iload_n 1, 1) := by decide +kernel
theorem dX9_have_5 : decode cX9_have 5 = .ok (.invokevirtual 139, 3) := by decide +kernel
theorem dX9_have_8 : decode cX9_have 8 = .ok (.ifCond .eq 14, 3) := by decide +kernel
theorem dX9_have_22 : decode cX9_have 22 = .ok (.bipush (-2), 2) := by decide +kernel
theorem dX9_have_24 : decode cX9_have 24 = .ok (.ireturn, 1) := by decide +kernel
theorem dX9_gets_0 : decode cX9_gets 0 = .ok (.aload_n 0, 1) := by decide +kernel
theorem dX9_gets_1 : decode cX9_gets 1 = .ok (.getfield 20, 3) := by decide +kernel
theorem dX9_gets_4 : decode cX9_gets 4 = .ok (.iload_n 1, 1) := by decide +kernel
theorem dX9_gets_5 : decode cX9_gets 5 = .ok (.invokevirtual 139, 3) := by decide +kernel
theorem dX9_gets_8 : decode cX9_gets 8 = .ok (.ifCond .eq 14, 3) := by decide +kernel
theorem dX9_gets_22 : decode cX9_gets 22 = .ok (.bipush (-2), 2) := by decide +kernel
theorem dX9_gets_24 : decode cX9_gets 24 = .ok (.ireturn, 1) := by decide +kernel
theorem dX9_from_0 : decode cX9_from 0 = .ok (.aload_n 0, 1) := by decide +kernel
theorem dX9_from_1 : decode cX9_from 1 = .ok (.getfield 20, 3) := by decide +kernel
theorem dX9_from_4 : decode cX9_from 4 = .ok (.iload_n 1, 1) := by decide +kernel
theorem dX9_from_5 : decode cX9_from 5 = .ok (.invokevirtual 139, 3) := by decide +kernel
theorem dX9_from_8 : decode cX9_from 8 = .ok (.ifCond .eq 14, 3) := by decide +kernel
theorem dX9_from_22 : decode cX9_from 22 = .ok (.bipush (-2), 2) := by decide +kernel
theorem dX9_from_24 : decode cX9_from 24 = .ok (.ireturn, 1) := by decide +kernel
theorem dX9_all_0 : decode cX9_all 0 = .ok (.aload_n 0, 1) := by decide +kernel
theorem dX9_all_1 : decode cX9_all 1 = .ok (.getfield 20, 3) := by decide +kernel
theorem dX9_all_4 : decode cX9_all 4 = .ok (.iload_n 1, 1) := by decide +kernel
theorem dX9_all_5 : decode cX9_all 5 = .ok (.invokevirtual 139, 3) := by decide +kernel
theorem dX9_all_8 : decode cX9_all 8 = .ok (.ifCond .ne 6, 3) := by decide +kernel
theorem dX9_all_11 : decode cX9_all 11 = .ok (.bipush (-2), 2) := by decide +kernel
theorem dX9_all_13 : decode cX9_all 13 = .ok (.ireturn, 1) := by decide +kernel
theorem dX9_best_0 : decode cX9_best 0 = .ok (.aload_n 0, 1) := by decide +kernel
theorem dX9_best_1 : decode cX9_best 1 = .ok (.getfield 20, 3) := by decide +kernel
theorem dX9_best_4 : decode cX9_best 4 = .ok (.invokevirtual 184, 3) := by decide +kernel
theorem dX9_best_7 : decode cX9_best 7 = .ok (.ifCond .ne 6, 3) := by decide +kernel
theorem dX9_best_10 : decode cX9_best 10 = .ok (.bipush (-2), 2) := by decide +kernel
theorem dX9_best_12 : decode cX9_best 12 = .ok (.ireturn, 1) := by decide +kernel
theorem dX9_lasts_0 : decode cX9_lasts 0 = .ok (.aload_n 0, 1) := by decide +kernel
theorem dX9_lasts_1 : decode cX9_lasts 1 = .ok (.getfield 20, 3) := by decide +kernel
theorem dX9_lasts_4 : decode cX9_lasts 4 = .ok (.iload_n 1, 1) := by decide +kernel
theorem dX9_lasts_5 : decode cX9_lasts 5 = .ok (.invokevirtual 139, 3) := by decide +kernel
theorem dX9_lasts_8 : decode cX9_lasts 8 = .ok (.ifCond .ne 6, 3) := by decide +kernel
theorem dX9_lasts_11 : decode cX9_lasts 11 = .ok (.bipush (-2), 2) := by decide +kernel
theorem dX9_lasts_13 : decode cX9_lasts 13 = .ok (.ireturn, 1) := by decide +kernel
theorem dX9_needed_0 : decode cX9_needed 0 = .ok (.aload_n 0, 1) := by decide +kernel
theorem dX9_needed_1 : decode cX9_needed 1 = .ok (.getfield 20, 3) := by decide +kernel
theorem dX9_needed_4 : decode cX9_needed 4 = .ok (.iload_n 1, 1) := by decide +kernel
theorem dX9_needed_5 : decode cX9_needed 5 = .ok (.invokevirtual 139, 3) := by decide +kernel
theorem dX9_needed_8 : decode cX9_needed 8 = .ok (.ifCond .ne 6, 3) := by decide +kernel
theorem dX9_needed_11 : decode cX9_needed 11 = .ok (.bipush (-2), 2) := by decide +kernel
theorem dX9_needed_13 : decode cX9_needed 13 = .ok (.ireturn, 1) := by decide +kernel
theorem dX9_by_0 : decode cX9_by 0 = .ok (.aload_n 0, 1) := by decide +kernel
theorem dX9_by_1 : decode cX9_by 1 = .ok (.getfield 20, 3) := by decide +kernel
theorem dX9_by_4 : decode cX9_by 4 = .ok (.iload_n 1, 1) := by decide +kernel
theorem dX9_by_5 : decode cX9_by 5 = .ok (.invokevirtual 139, 3) := by decide +kernel
theorem dX9_by_8 : decode cX9_by 8 = .ok (.ifCond .eq 12, 3) := by decide +kernel
theorem dX9_by_20 : decode cX9_by 20 = .ok (.bipush (-2), 2) := by decide +kernel
theorem dX9_by_22 : decode cX9_by 22 = .ok (.ireturn, 1) := by decide +kernel
theorem dX9_carry_0 : decode cX9_carry 0 = .ok (.aload_n 0, 1) := by decide +kernel
theorem dX9_carry_1 : decode cX9_carry 1 = .ok (.getfield 20, 3) := by decide +kernel
theorem dX9_carry_4 : decode cX9_carry 4 = .ok (.iload_n 1, 1) := by decide +kernel
theorem dX9_carry_5 : decode cX9_carry 5 = .ok (.invokevirtual 139, 3) := by decide +kernel
theorem dX9_carry_8 : decode cX9_carry 8 = .ok (.ifCond .eq 30, 3) := by decide +kernel
theorem dX9_carry_38 : decode cX9_carry 38 = .ok (.bipush (-2), 2) := by decide +kernel
theorem dX9_carry_40 : decode cX9_carry 40 = .ok (.ireturn, 1) := by decide +kernel
theorem dX9_walk_0 : decode cX9_walk 0 = .ok (.aload_n 0, 1) := by decide +kernel
theorem dX9_walk_1 : decode cX9_walk 1 = .ok (.getfield 20, 3) := by decide +kernel
theorem dX9_walk_4 : decode cX9_walk 4 = .ok (.iload 4, 2) := by decide +kernel
theorem dX9_walk_6 : decode cX9_walk 6 = .ok (.invokevirtual 153, 3) := by decide +kernel
theorem dX9_walk_9 : decode cX9_walk 9 = .ok (.ifCond .ne 6, 3) := by decide +kernel
theorem dX9_walk_12 : decode cX9_walk 12 = .ok (.bipush (-2), 2) := by decide +kernel
theorem dX9_walk_14 : decode cX9_walk 14 = .ok (.ireturn, 1) := by decide +kernel
theorem dX9_widen_0 : decode cX9_widen 0 = .ok (.aload_n 0, 1) := by decide +kernel
theorem dX9_widen_1 : decode cX9_widen 1 = .ok (.getfield 20, 3) := by decide +kernel
theorem dX9_widen_4 : decode cX9_widen 4 = .ok (.iload_n 1, 1) := by decide +kernel
theorem dX9_widen_5 : decode cX9_widen 5 = .ok (.invokevirtual 139, 3) := by decide +kernel
theorem dX9_widen_8 : decode cX9_widen 8 = .ok (.ifCond .eq 17, 3) := by decide +kernel
theorem dX9_widen_25 : decode cX9_widen 25 = .ok (.bipush (-2), 2) := by decide +kernel
theorem dX9_widen_27 : decode cX9_widen 27 = .ok (.ireturn, 1) := by decide +kernel
theorem dX9_shut_0 : decode cX9_shut 0 = .ok (.aload_n 0, 1) := by decide +kernel
theorem dX9_shut_1 : decode cX9_shut 1 = .ok (.getfield 20, 3) := by decide +kernel
theorem dX9_shut_4 : decode cX9_shut 4 = .ok (.iload_n 1, 1) := by decide +kernel
theorem dX9_shut_5 : decode cX9_shut 5 = .ok (.invokevirtual 139, 3) := by decide +kernel
theorem dX9_shut_8 : decode cX9_shut 8 = .ok (.ifCond .eq 17, 3) := by decide +kernel
theorem dX9_shut_25 : decode cX9_shut 25 = .ok (.bipush (-2), 2) := by decide +kernel
theorem dX9_shut_27 : decode cX9_shut 27 = .ok (.ireturn, 1) := by decide +kernel
theorem dX9_bars_0 : decode cX9_bars 0 = .ok (.aload_n 0, 1) := by decide +kernel
theorem dX9_bars_1 : decode cX9_bars 1 = .ok (.getfield 20, 3) := by decide +kernel
theorem dX9_bars_4 : decode cX9_bars 4 = .ok (.iload_n 1, 1) := by decide +kernel
theorem dX9_bars_5 : decode cX9_bars 5 = .ok (.invokevirtual 139, 3) := by decide +kernel
theorem dX9_bars_8 : decode cX9_bars 8 = .ok (.ifCond .eq 25, 3) := by decide +kernel
theorem dX9_bars_33 : decode cX9_bars 33 = .ok (.bipush (-2), 2) := by decide +kernel
theorem dX9_bars_35 : decode cX9_bars 35 = .ok (.ireturn, 1) := by decide +kernel
theorem dX9_firsts_0 : decode cX9_firsts 0 = .ok (.aload_n 0, 1) := by decide +kernel
theorem dX9_firsts_1 : decode cX9_firsts 1 = .ok (.iload_n 1, 1) := by decide +kernel
theorem dX9_firsts_2 : decode cX9_firsts 2 = .ok (.invokevirtual 263, 3) := by decide +kernel
theorem dX9_seenFault_0 : decode cX9_seenFault 0 = .ok (.iload_n 1, 1) := by decide +kernel
theorem dX9_seenFault_1 : decode cX9_seenFault 1 = .ok (.invokestatic 276, 3) := by decide +kernel
theorem dX9_isSlot_0 : decode cX9_isSlot 0 = .ok (.iload_n 0, 1) := by decide +kernel
theorem dX9_isSlot_1 : decode cX9_isSlot 1 = .ok (.ifCond .lt 12, 3) := by decide +kernel
theorem dX9_isSlot_13 : decode cX9_isSlot 13 = .ok (.iconst 0, 1) := by decide +kernel
theorem dX9_isSlot_14 : decode cX9_isSlot 14 = .ok (.ireturn, 1) := by decide +kernel
theorem dX9_isSlot_4 : decode cX9_isSlot 4 = .ok (.iload_n 0, 1) := by decide +kernel
theorem dX9_isSlot_5 : decode cX9_isSlot 5 = .ok (.iconst 4, 1) := by decide +kernel
theorem dX9_isSlot_6 : decode cX9_isSlot 6 = .ok (.if_icmp .ge 7, 3) := by decide +kernel
theorem dX9_isSlot_9 : decode cX9_isSlot 9 = .ok (.iconst 1, 1) := by decide +kernel
theorem dX9_isSlot_10 : decode cX9_isSlot 10 = .ok (.goto 4, 3) := by decide +kernel
theorem dX9_seenFault_4 : decode cX9_seenFault 4 = .ok (.ifCond .eq 13, 3) := by decide +kernel
theorem dX9_seenFault_7 : decode cX9_seenFault 7 = .ok (.aload_n 0, 1) := by decide +kernel
theorem dX9_seenFault_8 : decode cX9_seenFault 8 = .ok (.getfield 20, 3) := by decide +kernel
theorem dX9_seenFault_11 : decode cX9_seenFault 11 = .ok (.invokevirtual 184, 3) := by decide +kernel
theorem dX9_seenFault_14 : decode cX9_seenFault 14 = .ok (.ifCond .ne 6, 3) := by decide +kernel
theorem dX9_seenFault_17 : decode cX9_seenFault 17 = .ok (.bipush (-2), 2) := by decide +kernel
theorem dX9_seenFault_19 : decode cX9_seenFault 19 = .ok (.ireturn, 1) := by decide +kernel
theorem dX9_firsts_5 : decode cX9_firsts 5 = .ok (.istore_n 2, 1) := by decide +kernel
theorem dX9_firsts_6 : decode cX9_firsts 6 = .ok (.iload_n 2, 1) := by decide +kernel
theorem dX9_firsts_7 : decode cX9_firsts 7 = .ok (.ifCond .eq 7, 3) := by decide +kernel
theorem dX9_firsts_10 : decode cX9_firsts 10 = .ok (.iload_n 2, 1) := by decide +kernel
theorem dX9_firsts_11 : decode cX9_firsts 11 = .ok (.goto 13, 3) := by decide +kernel
theorem dX9_firsts_24 : decode cX9_firsts 24 = .ok (.ireturn, 1) := by decide +kernel
theorem dX9_ask_0 : decode cX9_ask 0 = .ok (.aload_n 0, 1) := by decide +kernel
theorem dX9_ask_1 : decode cX9_ask 1 = .ok (.iload_n 1, 1) := by decide +kernel
theorem dX9_ask_2 : decode cX9_ask 2 = .ok (.invokevirtual 263, 3) := by decide +kernel
theorem dX9_ask_5 : decode cX9_ask 5 = .ok (.istore_n 2, 1) := by decide +kernel
theorem dX9_ask_6 : decode cX9_ask 6 = .ok (.iload_n 2, 1) := by decide +kernel
theorem dX9_ask_7 : decode cX9_ask 7 = .ok (.ifCond .eq 7, 3) := by decide +kernel
theorem dX9_ask_10 : decode cX9_ask 10 = .ok (.iload_n 2, 1) := by decide +kernel
theorem dX9_ask_11 : decode cX9_ask 11 = .ok (.goto 17, 3) := by decide +kernel
theorem dX9_ask_28 : decode cX9_ask 28 = .ok (.ireturn, 1) := by decide +kernel
theorem dX9_leaves_0 : decode cX9_leaves 0 = .ok (.aload_n 0, 1) := by decide +kernel
theorem dX9_leaves_1 : decode cX9_leaves 1 = .ok (.iload_n 1, 1) := by decide +kernel
theorem dX9_leaves_2 : decode cX9_leaves 2 = .ok (.invokevirtual 263, 3) := by decide +kernel
theorem dX9_leaves_5 : decode cX9_leaves 5 = .ok (.istore_n 2, 1) := by decide +kernel
theorem dX9_leaves_6 : decode cX9_leaves 6 = .ok (.iload_n 2, 1) := by decide +kernel
theorem dX9_leaves_7 : decode cX9_leaves 7 = .ok (.ifCond .eq 5, 3) := by decide +kernel
theorem dX9_leaves_10 : decode cX9_leaves 10 = .ok (.iload_n 2, 1) := by decide +kernel
theorem dX9_leaves_11 : decode cX9_leaves 11 = .ok (.ireturn, 1) := by decide +kernel
theorem dX9_seats_0 : decode cX9_seats 0 = .ok (.aload_n 0, 1) := by decide +kernel
theorem dX9_seats_1 : decode cX9_seats 1 = .ok (.getfield 20, 3) := by decide +kernel
theorem dX9_seats_4 : decode cX9_seats 4 = .ok (.iload_n 1, 1) := by decide +kernel
theorem dX9_seats_5 : decode cX9_seats 5 = .ok (.invokevirtual 139, 3) := by decide +kernel
theorem dX9_seats_8 : decode cX9_seats 8 = .ok (.ifCond .eq 14, 3) := by decide +kernel
theorem dX9_seats_22 : decode cX9_seats 22 = .ok (.bipush (-2), 2) := by decide +kernel
theorem dX9_seats_24 : decode cX9_seats 24 = .ok (.ireturn, 1) := by decide +kernel
theorem dX9_under_0 : decode cX9_under 0 = .ok (.aload_n 0, 1) := by decide +kernel
theorem dX9_under_1 : decode cX9_under 1 = .ok (.getfield 20, 3) := by decide +kernel
theorem dX9_under_4 : decode cX9_under 4 = .ok (.iload_n 1, 1) := by decide +kernel
theorem dX9_under_5 : decode cX9_under 5 = .ok (.invokevirtual 139, 3) := by decide +kernel
theorem dX9_under_8 : decode cX9_under 8 = .ok (.ifCond .eq 14, 3) := by decide +kernel
theorem dX9_under_22 : decode cX9_under 22 = .ok (.bipush (-2), 2) := by decide +kernel
theorem dX9_under_24 : decode cX9_under 24 = .ok (.ireturn, 1) := by decide +kernel
theorem dX9_holds_0 : decode cX9_holds 0 = .ok (.aload_n 0, 1) := by decide +kernel
theorem dX9_holds_1 : decode cX9_holds 1 = .ok (.getfield 20, 3) := by decide +kernel
theorem dX9_holds_4 : decode cX9_holds 4 = .ok (.iload_n 1, 1) := by decide +kernel
theorem dX9_holds_5 : decode cX9_holds 5 = .ok (.invokevirtual 308, 3) := by decide +kernel
theorem dX9_holds_8 : decode cX9_holds 8 = .ok (.ifCond .ne 6, 3) := by decide +kernel
theorem dX9_holds_11 : decode cX9_holds 11 = .ok (.bipush (-2), 2) := by decide +kernel
theorem dX9_holds_13 : decode cX9_holds 13 = .ok (.ireturn, 1) := by decide +kernel
theorem dX9_power_0 : decode cX9_power 0 = .ok (.aload_n 0, 1) := by decide +kernel
theorem dX9_power_1 : decode cX9_power 1 = .ok (.getfield 20, 3) := by decide +kernel
theorem dX9_power_4 : decode cX9_power 4 = .ok (.iload_n 1, 1) := by decide +kernel
theorem dX9_power_5 : decode cX9_power 5 = .ok (.invokevirtual 139, 3) := by decide +kernel
theorem dX9_power_8 : decode cX9_power 8 = .ok (.ifCond .ne 6, 3) := by decide +kernel
theorem dX9_power_11 : decode cX9_power 11 = .ok (.bipush (-2), 2) := by decide +kernel
theorem dX9_power_13 : decode cX9_power 13 = .ok (.ireturn, 1) := by decide +kernel
theorem dX9_part_0 : decode cX9_part 0 = .ok (.aload_n 0, 1) := by decide +kernel
theorem dX9_part_1 : decode cX9_part 1 = .ok (.getfield 20, 3) := by decide +kernel
theorem dX9_part_4 : decode cX9_part 4 = .ok (.iload_n 1, 1) := by decide +kernel
theorem dX9_part_5 : decode cX9_part 5 = .ok (.invokevirtual 139, 3) := by decide +kernel
theorem dX9_part_8 : decode cX9_part 8 = .ok (.ifCond .eq 10, 3) := by decide +kernel
theorem dX9_part_18 : decode cX9_part 18 = .ok (.bipush (-2), 2) := by decide +kernel
theorem dX9_part_20 : decode cX9_part 20 = .ok (.ireturn, 1) := by decide +kernel
theorem dX9_cabinet_0 : decode cX9_cabinet 0 = .ok (.aload_n 0, 1) := by decide +kernel
theorem dX9_cabinet_1 : decode cX9_cabinet 1 = .ok (.getfield 20, 3) := by decide +kernel
theorem dX9_cabinet_4 : decode cX9_cabinet 4 = .ok (.invokevirtual 184, 3) := by decide +kernel
theorem dX9_cabinet_7 : decode cX9_cabinet 7 = .ok (.ifCond .ne 6, 3) := by decide +kernel
theorem dX9_cabinet_10 : decode cX9_cabinet 10 = .ok (.bipush (-2), 2) := by decide +kernel
theorem dX9_cabinet_12 : decode cX9_cabinet 12 = .ok (.ireturn, 1) := by decide +kernel
theorem dX9_cabinets_0 : decode cX9_cabinets 0 = .ok (.aload_n 0, 1) := by decide +kernel
theorem dX9_cabinets_1 : decode cX9_cabinets 1 = .ok (.getfield 20, 3) := by decide +kernel
theorem dX9_cabinets_4 : decode cX9_cabinets 4 = .ok (.invokevirtual 184, 3) := by decide +kernel
theorem dX9_cabinets_7 : decode cX9_cabinets 7 = .ok (.ifCond .ne 6, 3) := by decide +kernel
theorem dX9_cabinets_10 : decode cX9_cabinets 10 = .ok (.bipush (-2), 2) := by decide +kernel
theorem dX9_cabinets_12 : decode cX9_cabinets 12 = .ok (.ireturn, 1) := by decide +kernel
theorem dX9_kingmaker_0 : decode cX9_kingmaker 0 = .ok (.aload_n 0, 1) := by decide +kernel
theorem dX9_kingmaker_1 : decode cX9_kingmaker 1 = .ok (.getfield 20, 3) := by decide +kernel
theorem dX9_kingmaker_4 : decode cX9_kingmaker 4 = .ok (.invokevirtual 184, 3) := by decide +kernel
theorem dX9_kingmaker_7 : decode cX9_kingmaker 7 = .ok (.ifCond .ne 6, 3) := by decide +kernel
theorem dX9_kingmaker_10 : decode cX9_kingmaker 10 = .ok (.bipush (-2), 2) := by decide +kernel
theorem dX9_kingmaker_12 : decode cX9_kingmaker 12 = .ok (.ireturn, 1) := by decide +kernel
theorem dX9_rests_0 : decode cX9_rests 0 = .ok (.aload_n 0, 1) := by decide +kernel
theorem dX9_rests_1 : decode cX9_rests 1 = .ok (.getfield 20, 3) := by decide +kernel
theorem dX9_rests_4 : decode cX9_rests 4 = .ok (.iload_n 1, 1) := by decide +kernel
theorem dX9_rests_5 : decode cX9_rests 5 = .ok (.invokevirtual 139, 3) := by decide +kernel
theorem dX9_rests_8 : decode cX9_rests 8 = .ok (.ifCond .eq 19, 3) := by decide +kernel
theorem dX9_rests_27 : decode cX9_rests 27 = .ok (.bipush (-2), 2) := by decide +kernel
theorem dX9_rests_29 : decode cX9_rests 29 = .ok (.ireturn, 1) := by decide +kernel
theorem dX9_gains_0 : decode cX9_gains 0 = .ok (.aload_n 0, 1) := by decide +kernel
theorem dX9_gains_1 : decode cX9_gains 1 = .ok (.getfield 20, 3) := by decide +kernel
theorem dX9_gains_4 : decode cX9_gains 4 = .ok (.iload_n 1, 1) := by decide +kernel
theorem dX9_gains_5 : decode cX9_gains 5 = .ok (.invokevirtual 139, 3) := by decide +kernel
theorem dX9_gains_8 : decode cX9_gains 8 = .ok (.ifCond .eq 34, 3) := by decide +kernel
theorem dX9_gains_42 : decode cX9_gains 42 = .ok (.sipush (-1000), 3) := by decide +kernel
theorem dX9_gains_45 : decode cX9_gains 45 = .ok (.ireturn, 1) := by decide +kernel
theorem dX9_chance_0 : decode cX9_chance 0 = .ok (.aload_n 0, 1) := by decide +kernel
theorem dX9_chance_1 : decode cX9_chance 1 = .ok (.getfield 20, 3) := by decide +kernel
theorem dX9_chance_4 : decode cX9_chance 4 = .ok (.iload_n 1, 1) := by decide +kernel
theorem dX9_chance_5 : decode cX9_chance 5 = .ok (.invokevirtual 139, 3) := by decide +kernel
theorem dX9_chance_8 : decode cX9_chance 8 = .ok (.ifCond .eq 30, 3) := by decide +kernel
theorem dX9_chance_38 : decode cX9_chance 38 = .ok (.ldc2_w 362, 3) := by decide +kernel
theorem dX9_chance_41 : decode cX9_chance 41 = .ok (.lreturn, 1) := by decide +kernel
theorem dX9_mean_0 : decode cX9_mean 0 = .ok (.aload_n 0, 1) := by decide +kernel
theorem dX9_mean_1 : decode cX9_mean 1 = .ok (.getfield 20, 3) := by decide +kernel
theorem dX9_mean_4 : decode cX9_mean 4 = .ok (.iload_n 1, 1) := by decide +kernel
theorem dX9_mean_5 : decode cX9_mean 5 = .ok (.invokevirtual 139, 3) := by decide +kernel
theorem dX9_mean_8 : decode cX9_mean 8 = .ok (.ifCond .eq 18, 3) := by decide +kernel
theorem dX9_mean_26 : decode cX9_mean 26 = .ok (.ldc2_w 362, 3) := by decide +kernel
theorem dX9_mean_29 : decode cX9_mean 29 = .ok (.lreturn, 1) := by decide +kernel
theorem dX9_bid_0 : decode cX9_bid 0 = .ok (.aload_n 0, 1) := by decide +kernel
theorem dX9_bid_1 : decode cX9_bid 1 = .ok (.getfield 20, 3) := by decide +kernel
theorem dX9_bid_4 : decode cX9_bid 4 = .ok (.iload_n 1, 1) := by decide +kernel
theorem dX9_bid_5 : decode cX9_bid 5 = .ok (.invokevirtual 139, 3) := by decide +kernel
theorem dX9_bid_8 : decode cX9_bid 8 = .ok (.ifCond .eq 24, 3) := by decide +kernel
theorem dX9_bid_32 : decode cX9_bid 32 = .ok (.bipush (-2), 2) := by decide +kernel
theorem dX9_bid_34 : decode cX9_bid 34 = .ok (.ireturn, 1) := by decide +kernel
theorem dX9_move_0 : decode cX9_move 0 = .ok (.aload_n 0, 1) := by decide +kernel
theorem dX9_move_1 : decode cX9_move 1 = .ok (.getfield 20, 3) := by decide +kernel
theorem dX9_move_4 : decode cX9_move 4 = .ok (.getfield 136, 3) := by decide +kernel
theorem dX9_move_7 : decode cX9_move 7 = .ok (.iload_n 1, 1) := by decide +kernel
theorem dX9_move_8 : decode cX9_move 8 = .ok (.invokevirtual 257, 3) := by decide +kernel
theorem dX9_move_11 : decode cX9_move 11 = .ok (.ifCond .eq 14, 3) := by decide +kernel
theorem dX9_move_25 : decode cX9_move 25 = .ok (.bipush (-2), 2) := by decide +kernel
theorem dX9_move_27 : decode cX9_move 27 = .ok (.ireturn, 1) := by decide +kernel
theorem dX9_undo_0 : decode cX9_undo 0 = .ok (.aload_n 0, 1) := by decide +kernel
theorem dX9_undo_1 : decode cX9_undo 1 = .ok (.getfield 20, 3) := by decide +kernel
theorem dX9_undo_4 : decode cX9_undo 4 = .ok (.invokevirtual 184, 3) := by decide +kernel
theorem dX9_undo_7 : decode cX9_undo 7 = .ok (.ifCond .ne 6, 3) := by decide +kernel
theorem dX9_undo_10 : decode cX9_undo 10 = .ok (.bipush (-2), 2) := by decide +kernel
theorem dX9_undo_12 : decode cX9_undo 12 = .ok (.ireturn, 1) := by decide +kernel
theorem dX9_anew_0 : decode cX9_anew 0 = .ok (.aload_n 0, 1) := by decide +kernel
theorem dX9_anew_1 : decode cX9_anew 1 = .ok (.getfield 20, 3) := by decide +kernel
theorem dX9_anew_4 : decode cX9_anew 4 = .ok (.invokevirtual 184, 3) := by decide +kernel
theorem dX9_anew_7 : decode cX9_anew 7 = .ok (.ifCond .ne 6, 3) := by decide +kernel
theorem dX9_anew_10 : decode cX9_anew 10 = .ok (.bipush (-2), 2) := by decide +kernel
theorem dX9_anew_12 : decode cX9_anew 12 = .ok (.ireturn, 1) := by decide +kernel
theorem dX9_drawn_0 : decode cX9_drawn 0 = .ok (.iload_n 1, 1) := by decide +kernel
theorem dX9_drawn_1 : decode cX9_drawn 1 = .ok (.invokestatic 381, 3) := by decide +kernel
theorem dX9_isSeed_0 : decode cX9_isSeed 0 = .ok (.iload_n 0, 1) := by decide +kernel
theorem dX9_isSeed_1 : decode cX9_isSeed 1 = .ok (.ifCond .lt 14, 3) := by decide +kernel
theorem dX9_isSeed_15 : decode cX9_isSeed 15 = .ok (.iconst 0, 1) := by decide +kernel
theorem dX9_isSeed_16 : decode cX9_isSeed 16 = .ok (.ireturn, 1) := by decide +kernel
theorem dX9_isSeed_4 : decode cX9_isSeed 4 = .ok (.iload_n 0, 1) := by decide +kernel
theorem dX9_isSeed_5 : decode cX9_isSeed 5 = .ok (.ldc_w 448, 3) := by decide +kernel
theorem dX9_isSeed_8 : decode cX9_isSeed 8 = .ok (.if_icmp .gt 7, 3) := by decide +kernel
theorem dX9_isSeed_11 : decode cX9_isSeed 11 = .ok (.iconst 1, 1) := by decide +kernel
theorem dX9_isSeed_12 : decode cX9_isSeed 12 = .ok (.goto 4, 3) := by decide +kernel
theorem dX9_drawn_4 : decode cX9_drawn 4 = .ok (.ifCond .eq 21, 3) := by decide +kernel
theorem dX9_drawn_25 : decode cX9_drawn 25 = .ok (.bipush (-2), 2) := by decide +kernel
theorem dX9_drawn_27 : decode cX9_drawn 27 = .ok (.ireturn, 1) := by decide +kernel
theorem dX9_drawn_7 : decode cX9_drawn 7 = .ok (.aload_n 0, 1) := by decide +kernel
theorem dX9_drawn_8 : decode cX9_drawn 8 = .ok (.getfield 20, 3) := by decide +kernel
theorem dX9_drawn_11 : decode cX9_drawn 11 = .ok (.iload_n 2, 1) := by decide +kernel
theorem dX9_drawn_12 : decode cX9_drawn 12 = .ok (.invokevirtual 139, 3) := by decide +kernel
theorem dX9_drawn_15 : decode cX9_drawn 15 = .ok (.ifCond .eq 10, 3) := by decide +kernel
theorem dX9_luck_0 : decode cX9_luck 0 = .ok (.iload_n 1, 1) := by decide +kernel
theorem dX9_luck_1 : decode cX9_luck 1 = .ok (.invokestatic 381, 3) := by decide +kernel
theorem dX9_luck_4 : decode cX9_luck 4 = .ok (.ifCond .eq 37, 3) := by decide +kernel
theorem dX9_luck_41 : decode cX9_luck 41 = .ok (.bipush (-2), 2) := by decide +kernel
theorem dX9_luck_43 : decode cX9_luck 43 = .ok (.ireturn, 1) := by decide +kernel
theorem dX9_luck_7 : decode cX9_luck 7 = .ok (.iload_n 2, 1) := by decide +kernel
theorem dX9_luck_8 : decode cX9_luck 8 = .ok (.iconst 1, 1) := by decide +kernel
theorem dX9_luck_9 : decode cX9_luck 9 = .ok (.if_icmp .lt 32, 3) := by decide +kernel
theorem dX9_luck_12 : decode cX9_luck 12 = .ok (.iload_n 2, 1) := by decide +kernel
theorem dX9_luck_13 : decode cX9_luck 13 = .ok (.bipush 20, 2) := by decide +kernel
theorem dX9_luck_15 : decode cX9_luck 15 = .ok (.if_icmp .gt 26, 3) := by decide +kernel
theorem dX9_luck_18 : decode cX9_luck 18 = .ok (.aload_n 0, 1) := by decide +kernel
theorem dX9_luck_19 : decode cX9_luck 19 = .ok (.getfield 20, 3) := by decide +kernel
theorem dX9_luck_22 : decode cX9_luck 22 = .ok (.iload_n 3, 1) := by decide +kernel
theorem dX9_luck_23 : decode cX9_luck 23 = .ok (.invokevirtual 139, 3) := by decide +kernel
theorem dX9_luck_26 : decode cX9_luck 26 = .ok (.ifCond .eq 15, 3) := by decide +kernel
theorem dX9_hang_0 : decode cX9_hang 0 = .ok (.aload_n 0, 1) := by decide +kernel
theorem dX9_hang_1 : decode cX9_hang 1 = .ok (.getfield 20, 3) := by decide +kernel
theorem dX9_hang_4 : decode cX9_hang 4 = .ok (.getfield 119, 3) := by decide +kernel
theorem dX9_hang_7 : decode cX9_hang 7 = .ok (.iload_n 1, 1) := by decide +kernel
theorem dX9_hang_8 : decode cX9_hang 8 = .ok (.invokevirtual 257, 3) := by decide +kernel
theorem dX9_hang_11 : decode cX9_hang 11 = .ok (.ifCond .eq 14, 3) := by decide +kernel
theorem dX9_hang_25 : decode cX9_hang 25 = .ok (.bipush (-2), 2) := by decide +kernel
theorem dX9_hang_27 : decode cX9_hang 27 = .ok (.ireturn, 1) := by decide +kernel
theorem dX9_count_0 : decode cX9_count 0 = .ok (.iload_n 1, 1) := by decide +kernel
theorem dX9_count_1 : decode cX9_count 1 = .ok (.tableswitch 168 0 11 #[63, 71, 79, 87, 95, 106, 117, 128, 139, 150, 158, 163], 63) := by decide +kernel
theorem dX9_count_169 : decode cX9_count 169 = .ok (.iconst (-1), 1) := by decide +kernel
theorem dX9_count_170 : decode cX9_count 170 = .ok (.ireturn, 1) := by decide +kernel
theorem dX9_count_64 : decode cX9_count 64 = .ok (.aload_n 0, 1) := by decide +kernel
theorem dX9_count_65 : decode cX9_count 65 = .ok (.getfield 20, 3) := by decide +kernel
theorem dX9_count_68 : decode cX9_count 68 = .ok (.getfield 208, 3) := by decide +kernel
theorem dX9_count_71 : decode cX9_count 71 = .ok (.ireturn, 1) := by decide +kernel
theorem dX9_count_72 : decode cX9_count 72 = .ok (.aload_n 0, 1) := by decide +kernel
theorem dX9_count_73 : decode cX9_count 73 = .ok (.getfield 20, 3) := by decide +kernel
theorem dX9_count_76 : decode cX9_count 76 = .ok (.getfield 169, 3) := by decide +kernel
theorem dX9_count_79 : decode cX9_count 79 = .ok (.ireturn, 1) := by decide +kernel
theorem dX9_count_80 : decode cX9_count 80 = .ok (.aload_n 0, 1) := by decide +kernel
theorem dX9_count_81 : decode cX9_count 81 = .ok (.getfield 20, 3) := by decide +kernel
theorem dX9_count_84 : decode cX9_count 84 = .ok (.getfield 214, 3) := by decide +kernel
theorem dX9_count_87 : decode cX9_count 87 = .ok (.ireturn, 1) := by decide +kernel
theorem dX9_count_88 : decode cX9_count 88 = .ok (.aload_n 0, 1) := by decide +kernel
theorem dX9_count_89 : decode cX9_count 89 = .ok (.getfield 20, 3) := by decide +kernel
theorem dX9_count_92 : decode cX9_count 92 = .ok (.getfield 364, 3) := by decide +kernel
theorem dX9_count_95 : decode cX9_count 95 = .ok (.ireturn, 1) := by decide +kernel
theorem dX9_count_96 : decode cX9_count 96 = .ok (.aload_n 0, 1) := by decide +kernel
theorem dX9_count_97 : decode cX9_count 97 = .ok (.getfield 20, 3) := by decide +kernel
theorem dX9_count_100 : decode cX9_count 100 = .ok (.getfield 119, 3) := by decide +kernel
theorem dX9_count_103 : decode cX9_count 103 = .ok (.getfield 200, 3) := by decide +kernel
theorem dX9_count_106 : decode cX9_count 106 = .ok (.ireturn, 1) := by decide +kernel
theorem dX9_count_107 : decode cX9_count 107 = .ok (.aload_n 0, 1) := by decide +kernel
theorem dX9_count_108 : decode cX9_count 108 = .ok (.getfield 20, 3) := by decide +kernel
theorem dX9_count_111 : decode cX9_count 111 = .ok (.getfield 133, 3) := by decide +kernel
theorem dX9_count_114 : decode cX9_count 114 = .ok (.getfield 200, 3) := by decide +kernel
theorem dX9_count_117 : decode cX9_count 117 = .ok (.ireturn, 1) := by decide +kernel
theorem dX9_count_118 : decode cX9_count 118 = .ok (.aload_n 0, 1) := by decide +kernel
theorem dX9_count_119 : decode cX9_count 119 = .ok (.getfield 20, 3) := by decide +kernel
theorem dX9_count_122 : decode cX9_count 122 = .ok (.getfield 136, 3) := by decide +kernel
theorem dX9_count_125 : decode cX9_count 125 = .ok (.getfield 200, 3) := by decide +kernel
theorem dX9_count_128 : decode cX9_count 128 = .ok (.ireturn, 1) := by decide +kernel
theorem dX9_count_129 : decode cX9_count 129 = .ok (.aload_n 0, 1) := by decide +kernel
theorem dX9_count_130 : decode cX9_count 130 = .ok (.getfield 20, 3) := by decide +kernel
theorem dX9_count_133 : decode cX9_count 133 = .ok (.getfield 420, 3) := by decide +kernel
theorem dX9_count_136 : decode cX9_count 136 = .ok (.getfield 200, 3) := by decide +kernel
theorem dX9_count_139 : decode cX9_count 139 = .ok (.ireturn, 1) := by decide +kernel
theorem dX9_count_140 : decode cX9_count 140 = .ok (.aload_n 0, 1) := by decide +kernel
theorem dX9_count_141 : decode cX9_count 141 = .ok (.getfield 20, 3) := by decide +kernel
theorem dX9_count_144 : decode cX9_count 144 = .ok (.getfield 400, 3) := by decide +kernel
theorem dX9_count_147 : decode cX9_count 147 = .ok (.getfield 200, 3) := by decide +kernel
theorem dX9_count_150 : decode cX9_count 150 = .ok (.ireturn, 1) := by decide +kernel
theorem dX9_count_151 : decode cX9_count 151 = .ok (.aload_n 0, 1) := by decide +kernel
theorem dX9_count_152 : decode cX9_count 152 = .ok (.getfield 20, 3) := by decide +kernel
theorem dX9_count_155 : decode cX9_count 155 = .ok (.getfield 110, 3) := by decide +kernel
theorem dX9_count_158 : decode cX9_count 158 = .ok (.ireturn, 1) := by decide +kernel
theorem dX9_count_159 : decode cX9_count 159 = .ok (.aload_n 0, 1) := by decide +kernel
theorem dX9_count_160 : decode cX9_count 160 = .ok (.getfield 13, 3) := by decide +kernel
theorem dX9_count_163 : decode cX9_count 163 = .ok (.ireturn, 1) := by decide +kernel
theorem dX9_count_164 : decode cX9_count 164 = .ok (.aload_n 0, 1) := by decide +kernel
theorem dX9_count_165 : decode cX9_count 165 = .ok (.invokevirtual 423, 3) := by decide +kernel
theorem dX9_slotsWithRow_0 : decode cX9_slotsWithRow 0 = .ok (.iconst 0, 1) := by decide +kernel
theorem dX9_slotsWithRow_1 : decode cX9_slotsWithRow 1 = .ok (.istore_n 1, 1) := by decide +kernel
theorem dX9_slotsWithRow_2 : decode cX9_slotsWithRow 2 = .ok (.iconst 0, 1) := by decide +kernel
theorem dX9_slotsWithRow_3 : decode cX9_slotsWithRow 3 = .ok (.istore_n 2, 1) := by decide +kernel
theorem dX9_slotsWithRow_4 : decode cX9_slotsWithRow 4 = .ok (.iload_n 2, 1) := by decide +kernel
theorem dX9_slotsWithRow_5 : decode cX9_slotsWithRow 5 = .ok (.iconst 4, 1) := by decide +kernel
theorem dX9_slotsWithRow_6 : decode cX9_slotsWithRow 6 = .ok (.if_icmp .ge 24, 3) := by decide +kernel
theorem dX9_slotsWithRow_9 : decode cX9_slotsWithRow 9 = .ok (.aload_n 0, 1) := by decide +kernel
theorem dX9_slotsWithRow_10 : decode cX9_slotsWithRow 10 = .ok (.getfield 46, 3) := by decide +kernel
theorem dX9_slotsWithRow_13 : decode cX9_slotsWithRow 13 = .ok (.iload_n 2, 1) := by decide +kernel
theorem dX9_slotsWithRow_14 : decode cX9_slotsWithRow 14 = .ok (.aaload, 1) := by decide +kernel
theorem dX9_slotsWithRow_15 : decode cX9_slotsWithRow 15 = .ok (.invokevirtual 279, 3) := by decide +kernel
theorem dX7_isBare_0 : decode cX7_isBare 0 = .ok (.aload_n 0, 1) := by decide +kernel
theorem dX7_isBare_1 : decode cX7_isBare 1 = .ok (.getfield 15, 3) := by decide +kernel
theorem dX7_isBare_4 : decode cX7_isBare 4 = .ok (.ifCond .ge 7, 3) := by decide +kernel
theorem dX7_isBare_7 : decode cX7_isBare 7 = .ok (.iconst 1, 1) := by decide +kernel
theorem dX7_isBare_8 : decode cX7_isBare 8 = .ok (.goto 4, 3) := by decide +kernel
theorem dX7_isBare_12 : decode cX7_isBare 12 = .ok (.ireturn, 1) := by decide +kernel
theorem dX9_slotsWithRow_18 : decode cX9_slotsWithRow 18 = .ok (.ifCond .ne 6, 3) := by decide +kernel
theorem dX9_slotsWithRow_24 : decode cX9_slotsWithRow 24 = .ok (.iinc 2 1, 3) := by decide +kernel
theorem dX9_slotsWithRow_27 : decode cX9_slotsWithRow 27 = .ok (.goto (-23), 3) := by decide +kernel
theorem dX9_slotsWithRow_30 : decode cX9_slotsWithRow 30 = .ok (.iload_n 1, 1) := by decide +kernel
theorem dX9_slotsWithRow_31 : decode cX9_slotsWithRow 31 = .ok (.ireturn, 1) := by decide +kernel
theorem dX9_count_168 : decode cX9_count 168 = .ok (.ireturn, 1) := by decide +kernel
theorem dX9_image_0 : decode cX9_image 0 = .ok (.iload_n 1, 1) := by decide +kernel
theorem dX9_image_1 : decode cX9_image 1 = .ok (.ifCond .lt 8, 3) := by decide +kernel
theorem dX9_image_9 : decode cX9_image 9 = .ok (.bipush (-2), 2) := by decide +kernel
theorem dX9_image_11 : decode cX9_image 11 = .ok (.ireturn, 1) := by decide +kernel
theorem dX9_image_4 : decode cX9_image 4 = .ok (.iload_n 1, 1) := by decide +kernel
theorem dX9_image_5 : decode cX9_image 5 = .ok (.iconst 3, 1) := by decide +kernel
theorem dX9_image_6 : decode cX9_image 6 = .ok (.if_icmp .lt 6, 3) := by decide +kernel
theorem dX9_image_12 : decode cX9_image 12 = .ok (.aload_n 0, 1) := by decide +kernel
theorem dX9_image_13 : decode cX9_image 13 = .ok (.getfield 36, 3) := by decide +kernel
theorem dX9_image_16 : decode cX9_image 16 = .ok (.iload_n 1, 1) := by decide +kernel
theorem dX9_image_17 : decode cX9_image 17 = .ok (.aaload, 1) := by decide +kernel
theorem dX9_image_18 : decode cX9_image 18 = .ok (.aload_n 0, 1) := by decide +kernel
theorem dX9_image_19 : decode cX9_image 19 = .ok (.getfield 20, 3) := by decide +kernel
theorem dX9_image_22 : decode cX9_image 22 = .ok (.invokevirtual 103, 3) := by decide +kernel
theorem dX0_copyFrom_0 : decode cX0_copyFrom 0 = .ok (.aload_n 0, 1) := by decide +kernel
theorem dX0_copyFrom_1 : decode cX0_copyFrom 1 = .ok (.aload_n 1, 1) := by decide +kernel
theorem dX0_copyFrom_2 : decode cX0_copyFrom 2 = .ok (.getfield 32, 3) := by decide +kernel
theorem dX0_copyFrom_5 : decode cX0_copyFrom 5 = .ok (.putfield 32, 3) := by decide +kernel
theorem dX0_copyFrom_8 : decode cX0_copyFrom 8 = .ok (.aload_n 0, 1) := by decide +kernel
theorem dX0_copyFrom_9 : decode cX0_copyFrom 9 = .ok (.aload_n 1, 1) := by decide +kernel
theorem dX0_copyFrom_10 : decode cX0_copyFrom 10 = .ok (.getfield 36, 3) := by decide +kernel
theorem dX0_copyFrom_13 : decode cX0_copyFrom 13 = .ok (.putfield 36, 3) := by decide +kernel
theorem dX0_copyFrom_16 : decode cX0_copyFrom 16 = .ok (.aload_n 0, 1) := by decide +kernel
theorem dX0_copyFrom_17 : decode cX0_copyFrom 17 = .ok (.aload_n 1, 1) := by decide +kernel
theorem dX0_copyFrom_18 : decode cX0_copyFrom 18 = .ok (.getfield 39, 3) := by decide +kernel
theorem dX0_copyFrom_21 : decode cX0_copyFrom 21 = .ok (.putfield 39, 3) := by decide +kernel
theorem dX0_copyFrom_24 : decode cX0_copyFrom 24 = .ok (.aload_n 0, 1) := by decide +kernel
theorem dX0_copyFrom_25 : decode cX0_copyFrom 25 = .ok (.aload_n 1, 1) := by decide +kernel
theorem dX0_copyFrom_26 : decode cX0_copyFrom 26 = .ok (.getfield 42, 3) := by decide +kernel
theorem dX0_copyFrom_29 : decode cX0_copyFrom 29 = .ok (.putfield 42, 3) := by decide +kernel
theorem dX0_copyFrom_32 : decode cX0_copyFrom 32 = .ok (.aload_n 0, 1) := by decide +kernel
theorem dX0_copyFrom_33 : decode cX0_copyFrom 33 = .ok (.aload_n 1, 1) := by decide +kernel
theorem dX0_copyFrom_34 : decode cX0_copyFrom 34 = .ok (.getfield 45, 3) := by decide +kernel
theorem dX0_copyFrom_37 : decode cX0_copyFrom 37 = .ok (.putfield 45, 3) := by decide +kernel
theorem dX0_copyFrom_40 : decode cX0_copyFrom 40 = .ok (.aload_n 0, 1) := by decide +kernel
theorem dX0_copyFrom_41 : decode cX0_copyFrom 41 = .ok (.getfield 14, 3) := by decide +kernel
theorem dX0_copyFrom_44 : decode cX0_copyFrom 44 = .ok (.aload_n 1, 1) := by decide +kernel
theorem dX0_copyFrom_45 : decode cX0_copyFrom 45 = .ok (.getfield 14, 3) := by decide +kernel
theorem dX0_copyFrom_48 : decode cX0_copyFrom 48 = .ok (.invokevirtual 51, 3) := by decide +kernel
theorem dX8_copyFrom_0 : decode cX8_copyFrom 0 = .ok (.aload_n 1, 1) := by decide +kernel
theorem dX8_copyFrom_1 : decode cX8_copyFrom 1 = .ok (.getfield 24, 3) := by decide +kernel
theorem dX8_copyFrom_4 : decode cX8_copyFrom 4 = .ok (.iconst 0, 1) := by decide +kernel
theorem dX8_copyFrom_5 : decode cX8_copyFrom 5 = .ok (.aload_n 0, 1) := by decide +kernel
theorem dX8_copyFrom_6 : decode cX8_copyFrom 6 = .ok (.getfield 24, 3) := by decide +kernel
theorem dX8_copyFrom_9 : decode cX8_copyFrom 9 = .ok (.iconst 0, 1) := by decide +kernel
theorem dX8_copyFrom_10 : decode cX8_copyFrom 10 = .ok (.aload_n 0, 1) := by decide +kernel
theorem dX8_copyFrom_11 : decode cX8_copyFrom 11 = .ok (.getfield 24, 3) := by decide +kernel
theorem dX8_copyFrom_14 : decode cX8_copyFrom 14 = .ok (.arraylength, 1) := by decide +kernel
theorem dX8_copyFrom_15 : decode cX8_copyFrom 15 = .ok (.aload_n 1, 1) := by decide +kernel
theorem dX8_copyFrom_16 : decode cX8_copyFrom 16 = .ok (.getfield 24, 3) := by decide +kernel
theorem dX8_copyFrom_19 : decode cX8_copyFrom 19 = .ok (.arraylength, 1) := by decide +kernel
theorem dX8_copyFrom_20 : decode cX8_copyFrom 20 = .ok (.invokestatic 43, 3) := by decide +kernel
theorem dX8_copyFrom_23 : decode cX8_copyFrom 23 = .ok (.invokestatic 46, 3) := by decide +kernel
theorem dX8_copyFrom_26 : decode cX8_copyFrom 26 = .ok (.aload_n 0, 1) := by decide +kernel
theorem dX8_copyFrom_27 : decode cX8_copyFrom 27 = .ok (.aload_n 1, 1) := by decide +kernel
theorem dX8_copyFrom_28 : decode cX8_copyFrom 28 = .ok (.getfield 28, 3) := by decide +kernel
theorem dX8_copyFrom_31 : decode cX8_copyFrom 31 = .ok (.putfield 28, 3) := by decide +kernel
theorem dX8_copyFrom_34 : decode cX8_copyFrom 34 = .ok (.return_, 1) := by decide +kernel
theorem dX0_copyFrom_51 : decode cX0_copyFrom 51 = .ok (.aload_n 0, 1) := by decide +kernel
theorem dX0_copyFrom_52 : decode cX0_copyFrom 52 = .ok (.getfield 20, 3) := by decide +kernel
theorem dX0_copyFrom_55 : decode cX0_copyFrom 55 = .ok (.aload_n 1, 1) := by decide +kernel
theorem dX0_copyFrom_56 : decode cX0_copyFrom 56 = .ok (.getfield 20, 3) := by decide +kernel
theorem dX0_copyFrom_59 : decode cX0_copyFrom 59 = .ok (.invokevirtual 51, 3) := by decide +kernel
theorem dX0_copyFrom_62 : decode cX0_copyFrom 62 = .ok (.aload_n 0, 1) := by decide +kernel
theorem dX0_copyFrom_63 : decode cX0_copyFrom 63 = .ok (.getfield 23, 3) := by decide +kernel
theorem dX0_copyFrom_66 : decode cX0_copyFrom 66 = .ok (.aload_n 1, 1) := by decide +kernel
theorem dX0_copyFrom_67 : decode cX0_copyFrom 67 = .ok (.getfield 23, 3) := by decide +kernel
theorem dX0_copyFrom_70 : decode cX0_copyFrom 70 = .ok (.invokevirtual 51, 3) := by decide +kernel
theorem dX0_copyFrom_73 : decode cX0_copyFrom 73 = .ok (.aload_n 0, 1) := by decide +kernel
theorem dX0_copyFrom_74 : decode cX0_copyFrom 74 = .ok (.getfield 26, 3) := by decide +kernel
theorem dX0_copyFrom_77 : decode cX0_copyFrom 77 = .ok (.aload_n 1, 1) := by decide +kernel
theorem dX0_copyFrom_78 : decode cX0_copyFrom 78 = .ok (.getfield 26, 3) := by decide +kernel
theorem dX0_copyFrom_81 : decode cX0_copyFrom 81 = .ok (.invokevirtual 51, 3) := by decide +kernel
theorem dX0_copyFrom_84 : decode cX0_copyFrom 84 = .ok (.aload_n 0, 1) := by decide +kernel
theorem dX0_copyFrom_85 : decode cX0_copyFrom 85 = .ok (.getfield 29, 3) := by decide +kernel
theorem dX0_copyFrom_88 : decode cX0_copyFrom 88 = .ok (.aload_n 1, 1) := by decide +kernel
theorem dX0_copyFrom_89 : decode cX0_copyFrom 89 = .ok (.getfield 29, 3) := by decide +kernel
theorem dX0_copyFrom_92 : decode cX0_copyFrom 92 = .ok (.invokevirtual 51, 3) := by decide +kernel
theorem dX0_copyFrom_95 : decode cX0_copyFrom 95 = .ok (.return_, 1) := by decide +kernel
theorem dX9_image_25 : decode cX9_image 25 = .ok (.aload_n 0, 1) := by decide +kernel
theorem dX9_image_26 : decode cX9_image 26 = .ok (.getfield 40, 3) := by decide +kernel
theorem dX9_image_29 : decode cX9_image 29 = .ok (.iload_n 1, 1) := by decide +kernel
theorem dX9_image_30 : decode cX9_image 30 = .ok (.iconst 1, 1) := by decide +kernel
theorem dX9_image_31 : decode cX9_image 31 = .ok (.bastore, 1) := by decide +kernel
theorem dX9_image_32 : decode cX9_image 32 = .ok (.iconst 0, 1) := by decide +kernel
theorem dX9_image_33 : decode cX9_image 33 = .ok (.ireturn, 1) := by decide +kernel
theorem dX9_back_0 : decode cX9_back 0 = .ok (.iload_n 1, 1) := by decide +kernel
theorem dX9_back_1 : decode cX9_back 1 = .ok (.ifCond .lt 8, 3) := by decide +kernel
theorem dX9_back_9 : decode cX9_back 9 = .ok (.bipush (-2), 2) := by decide +kernel
theorem dX9_back_11 : decode cX9_back 11 = .ok (.ireturn, 1) := by decide +kernel
theorem dX9_back_4 : decode cX9_back 4 = .ok (.iload_n 1, 1) := by decide +kernel
theorem dX9_back_5 : decode cX9_back 5 = .ok (.iconst 3, 1) := by decide +kernel
theorem dX9_back_6 : decode cX9_back 6 = .ok (.if_icmp .lt 6, 3) := by decide +kernel
theorem dX9_back_12 : decode cX9_back 12 = .ok (.aload_n 0, 1) := by decide +kernel
theorem dX9_back_13 : decode cX9_back 13 = .ok (.getfield 40, 3) := by decide +kernel
theorem dX9_back_16 : decode cX9_back 16 = .ok (.iload_n 1, 1) := by decide +kernel
theorem dX9_back_17 : decode cX9_back 17 = .ok (.baload, 1) := by decide +kernel
theorem dX9_back_18 : decode cX9_back 18 = .ok (.ifCond .ne 6, 3) := by decide +kernel
theorem dX9_back_21 : decode cX9_back 21 = .ok (.bipush (-6), 2) := by decide +kernel
theorem dX9_back_23 : decode cX9_back 23 = .ok (.ireturn, 1) := by decide +kernel
theorem dX9_row_0 : decode cX9_row 0 = .ok (.iload_n 1, 1) := by decide +kernel
theorem dX9_row_1 : decode cX9_row 1 = .ok (.invokestatic 276, 3) := by decide +kernel
theorem dX9_row_4 : decode cX9_row 4 = .ok (.ifCond .eq 18, 3) := by decide +kernel
theorem dX9_row_7 : decode cX9_row 7 = .ok (.iload_n 2, 1) := by decide +kernel
theorem dX9_row_8 : decode cX9_row 8 = .ok (.ifCond .lt 14, 3) := by decide +kernel
theorem dX9_row_22 : decode cX9_row 22 = .ok (.bipush (-2), 2) := by decide +kernel
theorem dX9_row_24 : decode cX9_row 24 = .ok (.ireturn, 1) := by decide +kernel
theorem dX9_row_11 : decode cX9_row 11 = .ok (.iload_n 2, 1) := by decide +kernel
theorem dX9_row_12 : decode cX9_row 12 = .ok (.iconst 3, 1) := by decide +kernel
theorem dX9_row_13 : decode cX9_row 13 = .ok (.if_icmp .gt 9, 3) := by decide +kernel
theorem dX9_row_16 : decode cX9_row 16 = .ok (.iload_n 3, 1) := by decide +kernel
theorem dX9_row_17 : decode cX9_row 17 = .ok (.bipush 60, 2) := by decide +kernel
theorem dX9_row_19 : decode cX9_row 19 = .ok (.if_icmp .le 6, 3) := by decide +kernel
theorem dX9_row_25 : decode cX9_row 25 = .ok (.iload_n 3, 1) := by decide +kernel
theorem dX9_row_26 : decode cX9_row 26 = .ok (.ifCond .ge 6, 3) := by decide +kernel
theorem dX9_row_32 : decode cX9_row 32 = .ok (.aload_n 0, 1) := by decide +kernel
theorem dX9_row_33 : decode cX9_row 33 = .ok (.getfield 46, 3) := by decide +kernel
theorem dX9_row_36 : decode cX9_row 36 = .ok (.iload_n 1, 1) := by decide +kernel
theorem dX9_row_37 : decode cX9_row 37 = .ok (.aaload, 1) := by decide +kernel
theorem dX9_row_38 : decode cX9_row 38 = .ok (.iload_n 2, 1) := by decide +kernel
theorem dX9_row_39 : decode cX9_row 39 = .ok (.iload_n 3, 1) := by decide +kernel
theorem dX9_row_40 : decode cX9_row 40 = .ok (.invokevirtual 426, 3) := by decide +kernel
theorem dX7_start_0 : decode cX7_start 0 = .ok (.aload_n 0, 1) := by decide +kernel
theorem dX7_start_1 : decode cX7_start 1 = .ok (.iload_n 1, 1) := by decide +kernel
theorem dX7_start_2 : decode cX7_start 2 = .ok (.putfield 19, 3) := by decide +kernel
theorem dX7_start_5 : decode cX7_start 5 = .ok (.aload_n 0, 1) := by decide +kernel
theorem dX7_start_6 : decode cX7_start 6 = .ok (.bipush 60, 2) := by decide +kernel
theorem dX7_start_8 : decode cX7_start 8 = .ok (.iload_n 2, 1) := by decide +kernel
theorem dX7_start_9 : decode cX7_start 9 = .ok (.invokestatic 22, 3) := by decide +kernel
theorem dX7_start_12 : decode cX7_start 12 = .ok (.putfield 15, 3) := by decide +kernel
theorem dX7_start_15 : decode cX7_start 15 = .ok (.aload_n 0, 1) := by decide +kernel
theorem dX7_start_16 : decode cX7_start 16 = .ok (.getfield 11, 3) := by decide +kernel
theorem dX7_start_19 : decode cX7_start 19 = .ok (.lconst 0, 1) := by decide +kernel
theorem dX7_start_20 : decode cX7_start 20 = .ok (.invokestatic 28, 3) := by decide +kernel
theorem dJ7_fill_d0a16_0 : decode cJ7_fill_d0a16 0 = .ok (.iconst 0, 1) := by decide +kernel
theorem dJ7_fill_d0a16_1 : decode cJ7_fill_d0a16 1 = .ok (.istore_n 3, 1) := by decide +kernel
theorem dJ7_fill_d0a16_2 : decode cJ7_fill_d0a16 2 = .ok (.aload_n 0, 1) := by decide +kernel
theorem dJ7_fill_d0a16_3 : decode cJ7_fill_d0a16 3 = .ok (.arraylength, 1) := by decide +kernel
theorem dJ7_fill_d0a16_4 : decode cJ7_fill_d0a16 4 = .ok (.istore 4, 2) := by decide +kernel
theorem dJ7_fill_d0a16_6 : decode cJ7_fill_d0a16 6 = .ok (.iload_n 3, 1) := by decide +kernel
theorem dJ7_fill_d0a16_7 : decode cJ7_fill_d0a16 7 = .ok (.iload 4, 2) := by decide +kernel
theorem dJ7_fill_d0a16_9 : decode cJ7_fill_d0a16 9 = .ok (.if_icmp .ge 13, 3) := by decide +kernel
theorem dJ7_fill_d0a16_12 : decode cJ7_fill_d0a16 12 = .ok (.aload_n 0, 1) := by decide +kernel
theorem dJ7_fill_d0a16_13 : decode cJ7_fill_d0a16 13 = .ok (.iload_n 3, 1) := by decide +kernel
theorem dJ7_fill_d0a16_14 : decode cJ7_fill_d0a16 14 = .ok (.lload_n 1, 1) := by decide +kernel
theorem dJ7_fill_d0a16_15 : decode cJ7_fill_d0a16 15 = .ok (.lastore, 1) := by decide +kernel
theorem dJ7_fill_d0a16_16 : decode cJ7_fill_d0a16 16 = .ok (.iinc 3 1, 3) := by decide +kernel
theorem dJ7_fill_d0a16_19 : decode cJ7_fill_d0a16 19 = .ok (.goto (-13), 3) := by decide +kernel
theorem dJ7_fill_d0a16_22 : decode cJ7_fill_d0a16 22 = .ok (.return_, 1) := by decide +kernel
theorem dX7_start_23 : decode cX7_start 23 = .ok (.return_, 1) := by decide +kernel
theorem dX9_row_43 : decode cX9_row 43 = .ok (.iconst 0, 1) := by decide +kernel
theorem dX9_row_44 : decode cX9_row 44 = .ok (.ireturn, 1) := by decide +kernel
theorem dX9_row_29 : decode cX9_row 29 = .ok (.bipush (-3), 2) := by decide +kernel
theorem dX9_row_31 : decode cX9_row 31 = .ok (.ireturn, 1) := by decide +kernel
theorem dX9_write_0 : decode cX9_write 0 = .ok (.iload_n 1, 1) := by decide +kernel
theorem dX9_write_1 : decode cX9_write 1 = .ok (.invokestatic 276, 3) := by decide +kernel
theorem dX9_write_4 : decode cX9_write 4 = .ok (.ifCond .ne 6, 3) := by decide +kernel
theorem dX9_write_10 : decode cX9_write 10 = .ok (.aload_n 0, 1) := by decide +kernel
theorem dX9_write_11 : decode cX9_write 11 = .ok (.getfield 46, 3) := by decide +kernel
theorem dX9_write_14 : decode cX9_write 14 = .ok (.iload_n 1, 1) := by decide +kernel
theorem dX9_write_15 : decode cX9_write 15 = .ok (.aaload, 1) := by decide +kernel
theorem dX9_write_16 : decode cX9_write 16 = .ok (.invokevirtual 279, 3) := by decide +kernel
theorem dX9_write_19 : decode cX9_write 19 = .ok (.ifCond .eq 6, 3) := by decide +kernel
theorem dX9_write_22 : decode cX9_write 22 = .ok (.bipush (-6), 2) := by decide +kernel
theorem dX9_write_24 : decode cX9_write 24 = .ok (.ireturn, 1) := by decide +kernel
theorem dX9_write_7 : decode cX9_write 7 = .ok (.bipush (-2), 2) := by decide +kernel
theorem dX9_write_9 : decode cX9_write 9 = .ok (.ireturn, 1) := by decide +kernel
theorem dX9_paste_0 : decode cX9_paste 0 = .ok (.iload_n 1, 1) := by decide +kernel
theorem dX9_paste_1 : decode cX9_paste 1 = .ok (.invokestatic 276, 3) := by decide +kernel
theorem dX9_paste_4 : decode cX9_paste 4 = .ok (.ifCond .eq 10, 3) := by decide +kernel
theorem dX9_paste_7 : decode cX9_paste 7 = .ok (.iload_n 3, 1) := by decide +kernel
theorem dX9_paste_8 : decode cX9_paste 8 = .ok (.invokestatic 276, 3) := by decide +kernel
theorem dX9_paste_11 : decode cX9_paste 11 = .ok (.ifCond .ne 6, 3) := by decide +kernel
theorem dX9_paste_17 : decode cX9_paste 17 = .ok (.aload_n 0, 1) := by decide +kernel
theorem dX9_paste_18 : decode cX9_paste 18 = .ok (.getfield 46, 3) := by decide +kernel
theorem dX9_paste_21 : decode cX9_paste 21 = .ok (.iload_n 1, 1) := by decide +kernel
theorem dX9_paste_22 : decode cX9_paste 22 = .ok (.aaload, 1) := by decide +kernel
theorem dX9_paste_23 : decode cX9_paste 23 = .ok (.astore 6, 2) := by decide +kernel
theorem dX9_paste_25 : decode cX9_paste 25 = .ok (.aload_n 0, 1) := by decide +kernel
theorem dX9_paste_26 : decode cX9_paste 26 = .ok (.getfield 46, 3) := by decide +kernel
theorem dX9_paste_29 : decode cX9_paste 29 = .ok (.iload_n 3, 1) := by decide +kernel
theorem dX9_paste_30 : decode cX9_paste 30 = .ok (.aaload, 1) := by decide +kernel
theorem dX9_paste_31 : decode cX9_paste 31 = .ok (.astore 7, 2) := by decide +kernel
theorem dX9_paste_33 : decode cX9_paste 33 = .ok (.aload 6, 2) := by decide +kernel
theorem dX9_paste_35 : decode cX9_paste 35 = .ok (.invokevirtual 279, 3) := by decide +kernel
theorem dX9_paste_38 : decode cX9_paste 38 = .ok (.ifCond .ne 11, 3) := by decide +kernel
theorem dX9_paste_49 : decode cX9_paste 49 = .ok (.bipush (-6), 2) := by decide +kernel
theorem dX9_paste_51 : decode cX9_paste 51 = .ok (.ireturn, 1) := by decide +kernel
theorem dX9_paste_14 : decode cX9_paste 14 = .ok (.bipush (-2), 2) := by decide +kernel
theorem dX9_paste_16 : decode cX9_paste 16 = .ok (.ireturn, 1) := by decide +kernel
theorem dX10_feed_0 : decode cX10_feed 0 = .ok (.aload_n 0, 1) := by decide +kernel
theorem dX10_feed_1 : decode cX10_feed 1 = .ok (.getfield 90, 3) := by decide +kernel
theorem dX10_feed_4 : decode cX10_feed 4 = .ok (.bipush 20, 2) := by decide +kernel
theorem dX10_feed_6 : decode cX10_feed 6 = .ok (.iadd, 1) := by decide +kernel
theorem dX10_feed_7 : decode cX10_feed 7 = .ok (.sipush 1000, 3) := by decide +kernel
theorem dX10_feed_10 : decode cX10_feed 10 = .ok (.if_icmp .le 5, 3) := by decide +kernel
theorem dX10_feed_15 : decode cX10_feed 15 = .ok (.aload_n 0, 1) := by decide +kernel
theorem dX10_feed_16 : decode cX10_feed 16 = .ok (.getfield 24, 3) := by decide +kernel
theorem dX10_feed_19 : decode cX10_feed 19 = .ok (.iconst 0, 1) := by decide +kernel
theorem dX10_feed_20 : decode cX10_feed 20 = .ok (.iload_n 1, 1) := by decide +kernel
theorem dX10_feed_21 : decode cX10_feed 21 = .ok (.iastore, 1) := by decide +kernel
theorem dX10_feed_22 : decode cX10_feed 22 = .ok (.aload_n 0, 1) := by decide +kernel
theorem dX10_feed_23 : decode cX10_feed 23 = .ok (.getfield 24, 3) := by decide +kernel
theorem dX10_feed_26 : decode cX10_feed 26 = .ok (.iconst 1, 1) := by decide +kernel
theorem dX10_feed_27 : decode cX10_feed 27 = .ok (.iload_n 2, 1) := by decide +kernel
theorem dX10_feed_28 : decode cX10_feed 28 = .ok (.iastore, 1) := by decide +kernel
theorem dX10_feed_29 : decode cX10_feed 29 = .ok (.aload_n 0, 1) := by decide +kernel
theorem dX10_feed_30 : decode cX10_feed 30 = .ok (.getfield 24, 3) := by decide +kernel
theorem dX10_feed_33 : decode cX10_feed 33 = .ok (.iconst 2, 1) := by decide +kernel
theorem dX10_feed_34 : decode cX10_feed 34 = .ok (.iload_n 3, 1) := by decide +kernel
theorem dX10_feed_35 : decode cX10_feed 35 = .ok (.iastore, 1) := by decide +kernel
theorem dX10_feed_36 : decode cX10_feed 36 = .ok (.aload_n 0, 1) := by decide +kernel
theorem dX10_feed_37 : decode cX10_feed 37 = .ok (.getfield 24, 3) := by decide +kernel
theorem dX10_feed_40 : decode cX10_feed 40 = .ok (.iconst 3, 1) := by decide +kernel
theorem dX10_feed_41 : decode cX10_feed 41 = .ok (.iload 4, 2) := by decide +kernel
theorem dX10_feed_43 : decode cX10_feed 43 = .ok (.iastore, 1) := by decide +kernel
theorem dX10_feed_44 : decode cX10_feed 44 = .ok (.aload_n 0, 1) := by decide +kernel
theorem dX10_feed_45 : decode cX10_feed 45 = .ok (.getfield 24, 3) := by decide +kernel
theorem dX10_feed_48 : decode cX10_feed 48 = .ok (.iconst 4, 1) := by decide +kernel
theorem dX10_feed_49 : decode cX10_feed 49 = .ok (.iload 5, 2) := by decide +kernel
theorem dX10_feed_51 : decode cX10_feed 51 = .ok (.iastore, 1) := by decide +kernel
theorem dX10_feed_52 : decode cX10_feed 52 = .ok (.iconst 0, 1) := by decide +kernel
theorem dX10_feed_53 : decode cX10_feed 53 = .ok (.istore 6, 2) := by decide +kernel
theorem dX10_feed_55 : decode cX10_feed 55 = .ok (.iload 6, 2) := by decide +kernel
theorem dX10_feed_57 : decode cX10_feed 57 = .ok (.bipush 20, 2) := by decide +kernel
theorem dX10_feed_59 : decode cX10_feed 59 = .ok (.if_icmp .ge 42, 3) := by decide +kernel
theorem dX10_feed_62 : decode cX10_feed 62 = .ok (.aload_n 0, 1) := by decide +kernel
theorem dX10_feed_63 : decode cX10_feed 63 = .ok (.getfield 20, 3) := by decide +kernel
theorem dX10_feed_66 : decode cX10_feed 66 = .ok (.aload_n 0, 1) := by decide +kernel
theorem dX10_feed_67 : decode cX10_feed 67 = .ok (.getfield 90, 3) := by decide +kernel
theorem dX10_feed_70 : decode cX10_feed 70 = .ok (.iload 6, 2) := by decide +kernel
theorem dX10_feed_72 : decode cX10_feed 72 = .ok (.iadd, 1) := by decide +kernel
theorem dX10_feed_73 : decode cX10_feed 73 = .ok (.aload_n 0, 1) := by decide +kernel
theorem dX10_feed_74 : decode cX10_feed 74 = .ok (.getfield 24, 3) := by decide +kernel
theorem dX10_feed_77 : decode cX10_feed 77 = .ok (.iload 6, 2) := by decide +kernel
theorem dX10_feed_79 : decode cX10_feed 79 = .ok (.iconst 4, 1) := by decide +kernel
theorem dX10_feed_80 : decode cX10_feed 80 = .ok (.idiv, 1) := by decide +kernel
theorem dX10_feed_81 : decode cX10_feed 81 = .ok (.iaload, 1) := by decide +kernel
theorem dX10_feed_82 : decode cX10_feed 82 = .ok (.bipush 24, 2) := by decide +kernel
theorem dX10_feed_84 : decode cX10_feed 84 = .ok (.bipush 8, 2) := by decide +kernel
theorem dX10_feed_86 : decode cX10_feed 86 = .ok (.iload 6, 2) := by decide +kernel
theorem dX10_feed_88 : decode cX10_feed 88 = .ok (.iconst 4, 1) := by decide +kernel
theorem dX10_feed_89 : decode cX10_feed 89 = .ok (.irem, 1) := by decide +kernel
theorem dX10_feed_90 : decode cX10_feed 90 = .ok (.imul, 1) := by decide +kernel
theorem dX10_feed_91 : decode cX10_feed 91 = .ok (.isub, 1) := by decide +kernel
theorem dX10_feed_92 : decode cX10_feed 92 = .ok (.ishr, 1) := by decide +kernel
theorem dX10_feed_93 : decode cX10_feed 93 = .ok (.i2b, 1) := by decide +kernel
theorem dX10_feed_94 : decode cX10_feed 94 = .ok (.bastore, 1) := by decide +kernel
theorem dX10_feed_95 : decode cX10_feed 95 = .ok (.iinc 6 1, 3) := by decide +kernel
theorem dX10_feed_98 : decode cX10_feed 98 = .ok (.goto (-43), 3) := by decide +kernel
theorem dX10_feed_101 : decode cX10_feed 101 = .ok (.aload_n 0, 1) := by decide +kernel
theorem dX10_feed_102 : decode cX10_feed 102 = .ok (.dup, 1) := by decide +kernel
theorem dX10_feed_103 : decode cX10_feed 103 = .ok (.getfield 90, 3) := by decide +kernel
theorem dX10_feed_106 : decode cX10_feed 106 = .ok (.bipush 20, 2) := by decide +kernel
theorem dX10_feed_108 : decode cX10_feed 108 = .ok (.iadd, 1) := by decide +kernel
theorem dX10_feed_109 : decode cX10_feed 109 = .ok (.putfield 90, 3) := by decide +kernel
theorem dX10_feed_112 : decode cX10_feed 112 = .ok (.aload_n 0, 1) := by decide +kernel
theorem dX10_feed_113 : decode cX10_feed 113 = .ok (.getfield 90, 3) := by decide +kernel
theorem dX10_feed_116 : decode cX10_feed 116 = .ok (.ireturn, 1) := by decide +kernel
theorem dX10_end_0 : decode cX10_end 0 = .ok (.iload_n 1, 1) := by decide +kernel
theorem dX10_end_1 : decode cX10_end 1 = .ok (.i2l, 1) := by decide +kernel
theorem dX10_end_2 : decode cX10_end 2 = .ok (.lconst 0, 1) := by decide +kernel
theorem dX10_end_3 : decode cX10_end 3 = .ok (.aload_n 0, 1) := by decide +kernel
theorem dX10_end_4 : decode cX10_end 4 = .ok (.getfield 90, 3) := by decide +kernel
theorem dX10_end_7 : decode cX10_end 7 = .ok (.i2l, 1) := by decide +kernel
theorem dX10_end_8 : decode cX10_end 8 = .ok (.invokestatic 82, 3) := by decide +kernel
theorem dX10_in_0 : decode cX10_in 0 = .ok (.lload_n 0, 1) := by decide +kernel
theorem dX10_in_1 : decode cX10_in 1 = .ok (.lload_n 2, 1) := by decide +kernel
theorem dX10_in_2 : decode cX10_in 2 = .ok (.lcmp, 1) := by decide +kernel
theorem dX10_in_3 : decode cX10_in 3 = .ok (.ifCond .lt 14, 3) := by decide +kernel
theorem dX10_in_17 : decode cX10_in 17 = .ok (.iconst 0, 1) := by decide +kernel
theorem dX10_in_18 : decode cX10_in 18 = .ok (.ireturn, 1) := by decide +kernel
theorem dX10_in_6 : decode cX10_in 6 = .ok (.lload_n 0, 1) := by decide +kernel
theorem dX10_in_7 : decode cX10_in 7 = .ok (.lload 4, 2) := by decide +kernel
theorem dX10_in_9 : decode cX10_in 9 = .ok (.lcmp, 1) := by decide +kernel
theorem dX10_in_10 : decode cX10_in 10 = .ok (.ifCond .gt 7, 3) := by decide +kernel
theorem dX10_in_13 : decode cX10_in 13 = .ok (.iconst 1, 1) := by decide +kernel
theorem dX10_in_14 : decode cX10_in 14 = .ok (.goto 4, 3) := by decide +kernel
theorem dX10_end_11 : decode cX10_end 11 = .ok (.ifCond .ne 5, 3) := by decide +kernel
theorem dX10_end_16 : decode cX10_end 16 = .ok (.aload_n 0, 1) := by decide +kernel
theorem dX10_end_17 : decode cX10_end 17 = .ok (.iload_n 1, 1) := by decide +kernel
theorem dX10_end_18 : decode cX10_end 18 = .ok (.putfield 90, 3) := by decide +kernel
theorem dX10_end_21 : decode cX10_end 21 = .ok (.iload_n 1, 1) := by decide +kernel
theorem dX10_end_22 : decode cX10_end 22 = .ok (.ireturn, 1) := by decide +kernel
theorem dX10_end_14 : decode cX10_end 14 = .ok (.iconst (-1), 1) := by decide +kernel
theorem dX10_end_15 : decode cX10_end 15 = .ok (.ireturn, 1) := by decide +kernel
theorem dX10_fault_0 : decode cX10_fault 0 = .ok (.iload_n 1, 1) := by decide +kernel
theorem dX10_fault_1 : decode cX10_fault 1 = .ok (.ifCond .ne 10, 3) := by decide +kernel
theorem dX10_fault_11 : decode cX10_fault 11 = .ok (.iload_n 1, 1) := by decide +kernel
theorem dX10_fault_12 : decode cX10_fault 12 = .ok (.iconst 1, 1) := by decide +kernel
theorem dX10_fault_13 : decode cX10_fault 13 = .ok (.if_icmp .ne 10, 3) := by decide +kernel
theorem dX10_fault_23 : decode cX10_fault 23 = .ok (.iconst (-1), 1) := by decide +kernel
theorem dX10_fault_24 : decode cX10_fault 24 = .ok (.ireturn, 1) := by decide +kernel
theorem dX10_fault_16 : decode cX10_fault 16 = .ok (.aload_n 0, 1) := by decide +kernel
theorem dX10_fault_17 : decode cX10_fault 17 = .ok (.getfield 27, 3) := by decide +kernel
theorem dX10_fault_20 : decode cX10_fault 20 = .ok (.goto 4, 3) := by decide +kernel
theorem dX10_fault_4 : decode cX10_fault 4 = .ok (.aload_n 0, 1) := by decide +kernel
theorem dX10_fault_5 : decode cX10_fault 5 = .ok (.getfield 127, 3) := by decide +kernel
theorem dX10_fault_8 : decode cX10_fault 8 = .ok (.goto 16, 3) := by decide +kernel
theorem dX10_door_0 : decode cX10_door 0 = .ok (.aload_n 0, 1) := by decide +kernel
theorem dX10_door_1 : decode cX10_door 1 = .ok (.iload_n 1, 1) := by decide +kernel
theorem dX10_door_2 : decode cX10_door 2 = .ok (.invokevirtual 218, 3) := by decide +kernel
theorem dX10_isDoor_0 : decode cX10_isDoor 0 = .ok (.iload_n 1, 1) := by decide +kernel
theorem dX10_isDoor_1 : decode cX10_isDoor 1 = .ok (.i2l, 1) := by decide +kernel
theorem dX10_isDoor_2 : decode cX10_isDoor 2 = .ok (.lconst 0, 1) := by decide +kernel
theorem dX10_isDoor_3 : decode cX10_isDoor 3 = .ok (.aload_n 0, 1) := by decide +kernel
theorem dX10_isDoor_4 : decode cX10_isDoor 4 = .ok (.getfield 9, 3) := by decide +kernel
theorem dX10_isDoor_7 : decode cX10_isDoor 7 = .ok (.iconst 4, 1) := by decide +kernel
theorem dX10_isDoor_8 : decode cX10_isDoor 8 = .ok (.iaload, 1) := by decide +kernel
theorem dX10_isDoor_9 : decode cX10_isDoor 9 = .ok (.iconst 1, 1) := by decide +kernel
theorem dX10_isDoor_10 : decode cX10_isDoor 10 = .ok (.isub, 1) := by decide +kernel
theorem dX10_isDoor_11 : decode cX10_isDoor 11 = .ok (.i2l, 1) := by decide +kernel
theorem dX10_isDoor_12 : decode cX10_isDoor 12 = .ok (.invokestatic 82, 3) := by decide +kernel
theorem dX10_isDoor_15 : decode cX10_isDoor 15 = .ok (.ireturn, 1) := by decide +kernel
theorem dX10_door_5 : decode cX10_door 5 = .ok (.ifCond .eq 31, 3) := by decide +kernel
theorem dX10_door_36 : decode cX10_door 36 = .ok (.bipush (-2), 2) := by decide +kernel
theorem dX10_door_38 : decode cX10_door 38 = .ok (.ireturn, 1) := by decide +kernel
theorem dX10_lady_0 : decode cX10_lady 0 = .ok (.aload_n 0, 1) := by decide +kernel
theorem dX10_lady_1 : decode cX10_lady 1 = .ok (.iload_n 1, 1) := by decide +kernel
theorem dX10_lady_2 : decode cX10_lady 2 = .ok (.i2l, 1) := by decide +kernel
theorem dX10_lady_3 : decode cX10_lady 3 = .ok (.invokevirtual 222, 3) := by decide +kernel
theorem dX10_isLady_0 : decode cX10_isLady 0 = .ok (.lload_n 1, 1) := by decide +kernel
theorem dX10_isLady_1 : decode cX10_isLady 1 = .ok (.lconst 0, 1) := by decide +kernel
theorem dX10_isLady_2 : decode cX10_isLady 2 = .ok (.aload_n 0, 1) := by decide +kernel
theorem dX10_isLady_3 : decode cX10_isLady 3 = .ok (.getfield 9, 3) := by decide +kernel
theorem dX10_isLady_6 : decode cX10_isLady 6 = .ok (.iconst 5, 1) := by decide +kernel
theorem dX10_isLady_7 : decode cX10_isLady 7 = .ok (.iaload, 1) := by decide +kernel
theorem dX10_isLady_8 : decode cX10_isLady 8 = .ok (.iconst 1, 1) := by decide +kernel
theorem dX10_isLady_9 : decode cX10_isLady 9 = .ok (.isub, 1) := by decide +kernel
theorem dX10_isLady_10 : decode cX10_isLady 10 = .ok (.i2l, 1) := by decide +kernel
theorem dX10_isLady_11 : decode cX10_isLady 11 = .ok (.invokestatic 82, 3) := by decide +kernel
theorem dX10_isLady_14 : decode cX10_isLady 14 = .ok (.ireturn, 1) := by decide +kernel
theorem dX10_lady_6 : decode cX10_lady 6 = .ok (.ifCond .eq 29, 3) := by decide +kernel
theorem dX10_lady_35 : decode cX10_lady 35 = .ok (.bipush (-2), 2) := by decide +kernel
theorem dX10_lady_37 : decode cX10_lady 37 = .ok (.ireturn, 1) := by decide +kernel
theorem dX10_minister_0 : decode cX10_minister 0 = .ok (.aload_n 0, 1) := by decide +kernel
theorem dX10_minister_1 : decode cX10_minister 1 = .ok (.invokevirtual 279, 3) := by decide +kernel
theorem dX10_asItIs_0 : decode cX10_asItIs 0 = .ok (.aload_n 0, 1) := by decide +kernel
theorem dX10_asItIs_1 : decode cX10_asItIs 1 = .ok (.iconst (-1), 1) := by decide +kernel
theorem dX10_asItIs_2 : decode cX10_asItIs 2 = .ok (.putfield 227, 3) := by decide +kernel
theorem dX10_asItIs_5 : decode cX10_asItIs 5 = .ok (.aload_n 0, 1) := by decide +kernel
theorem dX10_asItIs_6 : decode cX10_asItIs 6 = .ok (.iconst 0, 1) := by decide +kernel
theorem dX10_asItIs_7 : decode cX10_asItIs 7 = .ok (.putfield 230, 3) := by decide +kernel
theorem dX10_asItIs_10 : decode cX10_asItIs 10 = .ok (.aload_n 0, 1) := by decide +kernel
theorem dX10_asItIs_11 : decode cX10_asItIs 11 = .ok (.iconst 0, 1) := by decide +kernel
theorem dX10_asItIs_12 : decode cX10_asItIs 12 = .ok (.putfield 264, 3) := by decide +kernel
theorem dX10_asItIs_15 : decode cX10_asItIs 15 = .ok (.aload_n 0, 1) := by decide +kernel
theorem dX10_asItIs_16 : decode cX10_asItIs 16 = .ok (.iconst 0, 1) := by decide +kernel
theorem dX10_asItIs_17 : decode cX10_asItIs 17 = .ok (.putfield 249, 3) := by decide +kernel
theorem dX10_asItIs_20 : decode cX10_asItIs 20 = .ok (.aload_n 0, 1) := by decide +kernel
theorem dX10_asItIs_21 : decode cX10_asItIs 21 = .ok (.aload_n 0, 1) := by decide +kernel
theorem dX10_asItIs_22 : decode cX10_asItIs 22 = .ok (.getfield 9, 3) := by decide +kernel
theorem dX10_asItIs_25 : decode cX10_asItIs 25 = .ok (.iconst 2, 1) := by decide +kernel
theorem dX10_asItIs_26 : decode cX10_asItIs 26 = .ok (.iaload, 1) := by decide +kernel
theorem dX10_asItIs_27 : decode cX10_asItIs 27 = .ok (.putfield 267, 3) := by decide +kernel
theorem dX10_asItIs_30 : decode cX10_asItIs 30 = .ok (.aload_n 0, 1) := by decide +kernel
theorem dX10_asItIs_31 : decode cX10_asItIs 31 = .ok (.iconst 0, 1) := by decide +kernel
theorem dX10_asItIs_32 : decode cX10_asItIs 32 = .ok (.putfield 270, 3) := by decide +kernel
theorem dX10_asItIs_35 : decode cX10_asItIs 35 = .ok (.aload_n 0, 1) := by decide +kernel
theorem dX10_asItIs_36 : decode cX10_asItIs 36 = .ok (.invokevirtual 273, 3) := by decide +kernel
theorem dX10_layMinisters_0 : decode cX10_layMinisters 0 = .ok (.iconst 0, 1) := by decide +kernel
theorem dX10_layMinisters_1 : decode cX10_layMinisters 1 = .ok (.istore_n 1, 1) := by decide +kernel
theorem dX10_layMinisters_2 : decode cX10_layMinisters 2 = .ok (.iload_n 1, 1) := by decide +kernel
theorem dX10_layMinisters_3 : decode cX10_layMinisters 3 = .ok (.aload_n 0, 1) := by decide +kernel
theorem dX10_layMinisters_4 : decode cX10_layMinisters 4 = .ok (.getfield 9, 3) := by decide +kernel
theorem dX10_layMinisters_7 : decode cX10_layMinisters 7 = .ok (.bipush 6, 2) := by decide +kernel
theorem dX10_layMinisters_9 : decode cX10_layMinisters 9 = .ok (.iaload, 1) := by decide +kernel
theorem dX10_layMinisters_10 : decode cX10_layMinisters 10 = .ok (.if_icmp .ge 26, 3) := by decide +kernel
theorem dX10_layMinisters_36 : decode cX10_layMinisters 36 = .ok (.iconst 0, 1) := by decide +kernel
theorem dX10_layMinisters_37 : decode cX10_layMinisters 37 = .ok (.istore_n 1, 1) := by decide +kernel
theorem dX10_layMinisters_38 : decode cX10_layMinisters 38 = .ok (.iload_n 1, 1) := by decide +kernel
theorem dX10_layMinisters_39 : decode cX10_layMinisters 39 = .ok (.aload_n 0, 1) := by decide +kernel
theorem dX10_layMinisters_40 : decode cX10_layMinisters 40 = .ok (.getfield 9, 3) := by decide +kernel
theorem dX10_layMinisters_43 : decode cX10_layMinisters 43 = .ok (.bipush 8, 2) := by decide +kernel
theorem dX10_layMinisters_45 : decode cX10_layMinisters 45 = .ok (.iaload, 1) := by decide +kernel
theorem dX10_layMinisters_46 : decode cX10_layMinisters 46 = .ok (.if_icmp .ge 39, 3) := by decide +kernel
theorem dX10_layMinisters_85 : decode cX10_layMinisters 85 = .ok (.iconst 0, 1) := by decide +kernel
theorem dX10_layMinisters_86 : decode cX10_layMinisters 86 = .ok (.istore_n 1, 1) := by decide +kernel
theorem dX10_layMinisters_87 : decode cX10_layMinisters 87 = .ok (.iload_n 1, 1) := by decide +kernel
theorem dX10_layMinisters_88 : decode cX10_layMinisters 88 = .ok (.bipush 6, 2) := by decide +kernel
theorem dX10_layMinisters_90 : decode cX10_layMinisters 90 = .ok (.if_icmp .ge 16, 3) := by decide +kernel
theorem dX10_layMinisters_93 : decode cX10_layMinisters 93 = .ok (.aload_n 0, 1) := by decide +kernel
theorem dX10_layMinisters_94 : decode cX10_layMinisters 94 = .ok (.getfield 43, 3) := by decide +kernel
theorem dX10_layMinisters_97 : decode cX10_layMinisters 97 = .ok (.iload_n 1, 1) := by decide +kernel
theorem dX10_layMinisters_98 : decode cX10_layMinisters 98 = .ok (.iconst 0, 1) := by decide +kernel
theorem dX10_layMinisters_99 : decode cX10_layMinisters 99 = .ok (.iastore, 1) := by decide +kernel
theorem dX10_layMinisters_100 : decode cX10_layMinisters 100 = .ok (.iinc 1 1, 3) := by decide +kernel
theorem dX10_layMinisters_103 : decode cX10_layMinisters 103 = .ok (.goto (-16), 3) := by decide +kernel
theorem dX10_layMinisters_106 : decode cX10_layMinisters 106 = .ok (.iconst 0, 1) := by decide +kernel
theorem dX10_layMinisters_107 : decode cX10_layMinisters 107 = .ok (.istore_n 1, 1) := by decide +kernel
theorem dX10_layMinisters_108 : decode cX10_layMinisters 108 = .ok (.iload_n 1, 1) := by decide +kernel
theorem dX10_layMinisters_109 : decode cX10_layMinisters 109 = .ok (.aload_n 0, 1) := by decide +kernel
theorem dX10_layMinisters_110 : decode cX10_layMinisters 110 = .ok (.getfield 9, 3) := by decide +kernel
theorem dX10_layMinisters_113 : decode cX10_layMinisters 113 = .ok (.bipush 6, 2) := by decide +kernel
theorem dX10_layMinisters_115 : decode cX10_layMinisters 115 = .ok (.iaload, 1) := by decide +kernel
theorem dX10_layMinisters_116 : decode cX10_layMinisters 116 = .ok (.if_icmp .ge 36, 3) := by decide +kernel
theorem dX10_layMinisters_152 : decode cX10_layMinisters 152 = .ok (.return_, 1) := by decide +kernel
theorem dX10_asItIs_39 : decode cX10_asItIs 39 = .ok (.aload_n 0, 1) := by decide +kernel
theorem dX10_asItIs_40 : decode cX10_asItIs 40 = .ok (.invokevirtual 276, 3) := by decide +kernel
theorem dX10_layPlaces_0 : decode cX10_layPlaces 0 = .ok (.aload_n 0, 1) := by decide +kernel
theorem dX10_layPlaces_1 : decode cX10_layPlaces 1 = .ok (.invokevirtual 241, 3) := by decide +kernel
theorem dX10_layWays_0 : decode cX10_layWays 0 = .ok (.aload_n 0, 1) := by decide +kernel
theorem dX10_layWays_1 : decode cX10_layWays 1 = .ok (.getfield 9, 3) := by decide +kernel
theorem dX10_layWays_4 : decode cX10_layWays 4 = .ok (.iconst 0, 1) := by decide +kernel
theorem dX10_layWays_5 : decode cX10_layWays 5 = .ok (.iaload, 1) := by decide +kernel
theorem dX10_layWays_6 : decode cX10_layWays 6 = .ok (.istore_n 1, 1) := by decide +kernel
theorem dX10_layWays_7 : decode cX10_layWays 7 = .ok (.iconst 1, 1) := by decide +kernel
theorem dX10_layWays_8 : decode cX10_layWays 8 = .ok (.istore_n 2, 1) := by decide +kernel
theorem dX10_layWays_9 : decode cX10_layWays 9 = .ok (.iload_n 2, 1) := by decide +kernel
theorem dX10_layWays_10 : decode cX10_layWays 10 = .ok (.bipush 9, 2) := by decide +kernel
theorem dX10_layWays_12 : decode cX10_layWays 12 = .ok (.if_icmp .gt 274, 3) := by decide +kernel
theorem dX10_layWays_15 : decode cX10_layWays 15 = .ok (.iload_n 2, 1) := by decide +kernel
theorem dX10_layWays_16 : decode cX10_layWays 16 = .ok (.bipush 8, 2) := by decide +kernel
theorem dX10_layWays_18 : decode cX10_layWays 18 = .ok (.imul, 1) := by decide +kernel
theorem dX10_layWays_19 : decode cX10_layWays 19 = .ok (.bipush 8, 2) := by decide +kernel
theorem dX10_layWays_21 : decode cX10_layWays 21 = .ok (.imul, 1) := by decide +kernel
theorem dX10_layWays_22 : decode cX10_layWays 22 = .ok (.istore_n 3, 1) := by decide +kernel
theorem dX10_layWays_23 : decode cX10_layWays 23 = .ok (.iconst 0, 1) := by decide +kernel
theorem dX10_layWays_24 : decode cX10_layWays 24 = .ok (.istore 4, 2) := by decide +kernel
theorem dX10_layWays_26 : decode cX10_layWays 26 = .ok (.iload 4, 2) := by decide +kernel
theorem dX10_layWays_28 : decode cX10_layWays 28 = .ok (.bipush 64, 2) := by decide +kernel
theorem dX10_layWays_30 : decode cX10_layWays 30 = .ok (.if_icmp .ge 37, 3) := by decide +kernel
theorem dX10_layWays_33 : decode cX10_layWays 33 = .ok (.aload_n 0, 1) := by decide +kernel
theorem dX10_layWays_34 : decode cX10_layWays 34 = .ok (.getfield 34, 3) := by decide +kernel
theorem dX10_layWays_37 : decode cX10_layWays 37 = .ok (.iload_n 3, 1) := by decide +kernel
theorem dX10_layWays_38 : decode cX10_layWays 38 = .ok (.iload 4, 2) := by decide +kernel
theorem dX10_layWays_40 : decode cX10_layWays 40 = .ok (.iadd, 1) := by decide +kernel
theorem dX10_layWays_41 : decode cX10_layWays 41 = .ok (.iload 4, 2) := by decide +kernel
theorem dX10_layWays_43 : decode cX10_layWays 43 = .ok (.bipush 8, 2) := by decide +kernel
theorem dX10_layWays_45 : decode cX10_layWays 45 = .ok (.idiv, 1) := by decide +kernel
theorem dX10_layWays_46 : decode cX10_layWays 46 = .ok (.iload 4, 2) := by decide +kernel
theorem dX10_layWays_48 : decode cX10_layWays 48 = .ok (.bipush 8, 2) := by decide +kernel
theorem dX10_layWays_50 : decode cX10_layWays 50 = .ok (.irem, 1) := by decide +kernel
theorem dX10_layWays_51 : decode cX10_layWays 51 = .ok (.if_icmp .ne 7, 3) := by decide +kernel
theorem dX10_layWays_58 : decode cX10_layWays 58 = .ok (.ldc 226, 2) := by decide +kernel
theorem dX10_layWays_60 : decode cX10_layWays 60 = .ok (.iastore, 1) := by decide +kernel
theorem dX10_layWays_61 : decode cX10_layWays 61 = .ok (.iinc 4 1, 3) := by decide +kernel
theorem dX10_layWays_64 : decode cX10_layWays 64 = .ok (.goto (-38), 3) := by decide +kernel
theorem dX10_layWays_54 : decode cX10_layWays 54 = .ok (.iconst 0, 1) := by decide +kernel
theorem dX10_layWays_55 : decode cX10_layWays 55 = .ok (.goto 5, 3) := by decide +kernel
theorem dX10_layWays_67 : decode cX10_layWays 67 = .ok (.iconst 0, 1) := by decide +kernel
theorem dX10_layWays_68 : decode cX10_layWays 68 = .ok (.istore 4, 2) := by decide +kernel
theorem dX10_layWays_70 : decode cX10_layWays 70 = .ok (.iload 4, 2) := by decide +kernel
theorem dX10_layWays_72 : decode cX10_layWays 72 = .ok (.aload_n 0, 1) := by decide +kernel
theorem dX10_layWays_73 : decode cX10_layWays 73 = .ok (.getfield 9, 3) := by decide +kernel
theorem dX10_layWays_76 : decode cX10_layWays 76 = .ok (.iconst 4, 1) := by decide +kernel
theorem dX10_layWays_77 : decode cX10_layWays 77 = .ok (.iaload, 1) := by decide +kernel
theorem dX10_layWays_78 : decode cX10_layWays 78 = .ok (.if_icmp .ge 112, 3) := by decide +kernel
theorem dX10_layWays_190 : decode cX10_layWays 190 = .ok (.iconst 0, 1) := by decide +kernel
theorem dX10_layWays_191 : decode cX10_layWays 191 = .ok (.istore 4, 2) := by decide +kernel
theorem dX10_layWays_193 : decode cX10_layWays 193 = .ok (.iload 4, 2) := by decide +kernel
theorem dX10_layWays_195 : decode cX10_layWays 195 = .ok (.iload_n 1, 1) := by decide +kernel
theorem dX10_layWays_196 : decode cX10_layWays 196 = .ok (.if_icmp .ge 84, 3) := by decide +kernel
theorem dX10_layWays_280 : decode cX10_layWays 280 = .ok (.iinc 2 1, 3) := by decide +kernel
theorem dX10_layWays_283 : decode cX10_layWays 283 = .ok (.goto (-274), 3) := by decide +kernel
theorem dX10_layWays_286 : decode cX10_layWays 286 = .ok (.return_, 1) := by decide +kernel
theorem dX10_layPlaces_4 : decode cX10_layPlaces 4 = .ok (.iconst 0, 1) := by decide +kernel
theorem dX10_layPlaces_5 : decode cX10_layPlaces 5 = .ok (.istore_n 1, 1) := by decide +kernel
theorem dX10_layPlaces_6 : decode cX10_layPlaces 6 = .ok (.iload_n 1, 1) := by decide +kernel
theorem dX10_layPlaces_7 : decode cX10_layPlaces 7 = .ok (.aload_n 0, 1) := by decide +kernel
theorem dX10_layPlaces_8 : decode cX10_layPlaces 8 = .ok (.invokevirtual 244, 3) := by decide +kernel
theorem dX10_ladies_0 : decode cX10_ladies 0 = .ok (.aload_n 0, 1) := by decide +kernel
theorem dX10_ladies_1 : decode cX10_ladies 1 = .ok (.getfield 9, 3) := by decide +kernel
theorem dX10_ladies_4 : decode cX10_ladies 4 = .ok (.iconst 5, 1) := by decide +kernel
theorem dX10_ladies_5 : decode cX10_ladies 5 = .ok (.iaload, 1) := by decide +kernel
theorem dX10_ladies_6 : decode cX10_ladies 6 = .ok (.ireturn, 1) := by decide +kernel
theorem dX10_layPlaces_11 : decode cX10_layPlaces 11 = .ok (.if_icmp .ge 93, 3) := by decide +kernel
theorem dX10_layPlaces_104 : decode cX10_layPlaces 104 = .ok (.return_, 1) := by decide +kernel
theorem dX10_asItIs_43 : decode cX10_asItIs 43 = .ok (.return_, 1) := by decide +kernel
theorem dX10_minister_4 : decode cX10_minister 4 = .ok (.aload_n 0, 1) := by decide +kernel
theorem dX10_minister_5 : decode cX10_minister 5 = .ok (.iload_n 1, 1) := by decide +kernel
theorem dX10_minister_6 : decode cX10_minister 6 = .ok (.invokevirtual 285, 3) := by decide +kernel
theorem dX10_isMinister_0 : decode cX10_isMinister 0 = .ok (.iload_n 1, 1) := by decide +kernel
theorem dX10_isMinister_1 : decode cX10_isMinister 1 = .ok (.i2l, 1) := by decide +kernel
theorem dX10_isMinister_2 : decode cX10_isMinister 2 = .ok (.lconst 0, 1) := by decide +kernel
theorem dX10_isMinister_3 : decode cX10_isMinister 3 = .ok (.aload_n 0, 1) := by decide +kernel
theorem dX10_isMinister_4 : decode cX10_isMinister 4 = .ok (.getfield 9, 3) := by decide +kernel
theorem dX10_isMinister_7 : decode cX10_isMinister 7 = .ok (.bipush 6, 2) := by decide +kernel
theorem dX10_isMinister_9 : decode cX10_isMinister 9 = .ok (.iaload, 1) := by decide +kernel
theorem dX10_isMinister_10 : decode cX10_isMinister 10 = .ok (.iconst 1, 1) := by decide +kernel
theorem dX10_isMinister_11 : decode cX10_isMinister 11 = .ok (.isub, 1) := by decide +kernel
theorem dX10_isMinister_12 : decode cX10_isMinister 12 = .ok (.i2l, 1) := by decide +kernel
theorem dX10_isMinister_13 : decode cX10_isMinister 13 = .ok (.invokestatic 82, 3) := by decide +kernel
theorem dX10_isMinister_16 : decode cX10_isMinister 16 = .ok (.ireturn, 1) := by decide +kernel
theorem dX10_minister_9 : decode cX10_minister 9 = .ok (.ifCond .eq 13, 3) := by decide +kernel
theorem dX10_minister_22 : decode cX10_minister 22 = .ok (.bipush (-2), 2) := by decide +kernel
theorem dX10_minister_24 : decode cX10_minister 24 = .ok (.ireturn, 1) := by decide +kernel
theorem dX10_way_0 : decode cX10_way 0 = .ok (.aload_n 0, 1) := by decide +kernel
theorem dX10_way_1 : decode cX10_way 1 = .ok (.iload_n 1, 1) := by decide +kernel
theorem dX10_way_2 : decode cX10_way 2 = .ok (.invokevirtual 288, 3) := by decide +kernel
theorem dX10_asksLady_0 : decode cX10_asksLady 0 = .ok (.aload_n 0, 1) := by decide +kernel
theorem dX10_asksLady_1 : decode cX10_asksLady 1 = .ok (.invokevirtual 279, 3) := by decide +kernel
theorem dX10_asksLady_4 : decode cX10_asksLady 4 = .ok (.aload_n 0, 1) := by decide +kernel
theorem dX10_asksLady_5 : decode cX10_asksLady 5 = .ok (.iload_n 1, 1) := by decide +kernel
theorem dX10_asksLady_6 : decode cX10_asksLady 6 = .ok (.i2l, 1) := by decide +kernel
theorem dX10_asksLady_7 : decode cX10_asksLady 7 = .ok (.invokevirtual 222, 3) := by decide +kernel
theorem dX10_asksLady_10 : decode cX10_asksLady 10 = .ok (.ireturn, 1) := by decide +kernel
theorem dX10_way_5 : decode cX10_way 5 = .ok (.ifCond .eq 19, 3) := by decide +kernel
theorem dX10_way_24 : decode cX10_way 24 = .ok (.bipush (-2), 2) := by decide +kernel
theorem dX10_way_26 : decode cX10_way 26 = .ok (.ireturn, 1) := by decide +kernel
theorem dX10_reach_0 : decode cX10_reach 0 = .ok (.aload_n 0, 1) := by decide +kernel
theorem dX10_reach_1 : decode cX10_reach 1 = .ok (.iload_n 1, 1) := by decide +kernel
theorem dX10_reach_2 : decode cX10_reach 2 = .ok (.invokevirtual 288, 3) := by decide +kernel
theorem dX10_reach_5 : decode cX10_reach 5 = .ok (.ifCond .eq 11, 3) := by decide +kernel
theorem dX10_reach_16 : decode cX10_reach 16 = .ok (.bipush (-2), 2) := by decide +kernel
theorem dX10_reach_18 : decode cX10_reach 18 = .ok (.ireturn, 1) := by decide +kernel
theorem dX10_bidden_0 : decode cX10_bidden 0 = .ok (.aload_n 0, 1) := by decide +kernel
theorem dX10_bidden_1 : decode cX10_bidden 1 = .ok (.iload_n 1, 1) := by decide +kernel
theorem dX10_bidden_2 : decode cX10_bidden 2 = .ok (.i2l, 1) := by decide +kernel
theorem dX10_bidden_3 : decode cX10_bidden 3 = .ok (.invokevirtual 222, 3) := by decide +kernel
theorem dX10_bidden_6 : decode cX10_bidden 6 = .ok (.ifCond .eq 21, 3) := by decide +kernel
theorem dX10_bidden_27 : decode cX10_bidden 27 = .ok (.bipush (-2), 2) := by decide +kernel
theorem dX10_bidden_29 : decode cX10_bidden 29 = .ok (.ireturn, 1) := by decide +kernel
theorem dX10_at_0 : decode cX10_at 0 = .ok (.aload_n 0, 1) := by decide +kernel
theorem dX10_at_1 : decode cX10_at 1 = .ok (.iload_n 2, 1) := by decide +kernel
theorem dX10_at_2 : decode cX10_at 2 = .ok (.invokevirtual 294, 3) := by decide +kernel
theorem dX10_asksDance_0 : decode cX10_asksDance 0 = .ok (.aload_n 0, 1) := by decide +kernel
theorem dX10_asksDance_1 : decode cX10_asksDance 1 = .ok (.invokevirtual 279, 3) := by decide +kernel
theorem dX10_asksDance_4 : decode cX10_asksDance 4 = .ok (.aload_n 0, 1) := by decide +kernel
theorem dX10_asksDance_5 : decode cX10_asksDance 5 = .ok (.iload_n 1, 1) := by decide +kernel
theorem dX10_asksDance_6 : decode cX10_asksDance 6 = .ok (.i2l, 1) := by decide +kernel
theorem dX10_asksDance_7 : decode cX10_asksDance 7 = .ok (.invokevirtual 282, 3) := by decide +kernel
theorem dX10_isDance_0 : decode cX10_isDance 0 = .ok (.aload_n 0, 1) := by decide +kernel
theorem dX10_isDance_1 : decode cX10_isDance 1 = .ok (.invokevirtual 86, 3) := by decide +kernel
theorem dX10_isBall_0 : decode cX10_isBall 0 = .ok (.aload_n 0, 1) := by decide +kernel
theorem dX10_isBall_1 : decode cX10_isBall 1 = .ok (.getfield 9, 3) := by decide +kernel
theorem dX10_isBall_4 : decode cX10_isBall 4 = .ok (.bipush 9, 2) := by decide +kernel
theorem dX10_isBall_6 : decode cX10_isBall 6 = .ok (.iaload, 1) := by decide +kernel
theorem dX10_isBall_7 : decode cX10_isBall 7 = .ok (.ifCond .le 7, 3) := by decide +kernel
theorem dX10_isBall_14 : decode cX10_isBall 14 = .ok (.iconst 0, 1) := by decide +kernel
theorem dX10_isBall_15 : decode cX10_isBall 15 = .ok (.ireturn, 1) := by decide +kernel
theorem dX10_isDance_4 : decode cX10_isDance 4 = .ok (.ifCond .eq 22, 3) := by decide +kernel
theorem dX10_isDance_26 : decode cX10_isDance 26 = .ok (.iconst 0, 1) := by decide +kernel
theorem dX10_isDance_27 : decode cX10_isDance 27 = .ok (.ireturn, 1) := by decide +kernel
theorem dX10_asksDance_10 : decode cX10_asksDance 10 = .ok (.ireturn, 1) := by decide +kernel
theorem dX10_at_5 : decode cX10_at 5 = .ok (.ifCond .eq 21, 3) := by decide +kernel
theorem dX10_at_26 : decode cX10_at 26 = .ok (.bipush (-2), 2) := by decide +kernel
theorem dX10_at_28 : decode cX10_at 28 = .ok (.ireturn, 1) := by decide +kernel
theorem dX10_within_0 : decode cX10_within 0 = .ok (.aload_n 0, 1) := by decide +kernel
theorem dX10_within_1 : decode cX10_within 1 = .ok (.iload_n 2, 1) := by decide +kernel
theorem dX10_within_2 : decode cX10_within 2 = .ok (.invokevirtual 294, 3) := by decide +kernel
theorem dX10_within_5 : decode cX10_within 5 = .ok (.ifCond .eq 20, 3) := by decide +kernel
theorem dX10_within_25 : decode cX10_within 25 = .ok (.bipush (-2), 2) := by decide +kernel
theorem dX10_within_27 : decode cX10_within 27 = .ok (.ireturn, 1) := by decide +kernel
theorem dX10_steps_0 : decode cX10_steps 0 = .ok (.aload_n 0, 1) := by decide +kernel
theorem dX10_steps_1 : decode cX10_steps 1 = .ok (.iload_n 1, 1) := by decide +kernel
theorem dX10_steps_2 : decode cX10_steps 2 = .ok (.invokevirtual 288, 3) := by decide +kernel
theorem dX10_steps_5 : decode cX10_steps 5 = .ok (.ifCond .eq 11, 3) := by decide +kernel
theorem dX10_steps_16 : decode cX10_steps 16 = .ok (.bipush (-2), 2) := by decide +kernel
theorem dX10_steps_18 : decode cX10_steps 18 = .ok (.ireturn, 1) := by decide +kernel
theorem dX10_sees_0 : decode cX10_sees 0 = .ok (.aload_n 0, 1) := by decide +kernel
theorem dX10_sees_1 : decode cX10_sees 1 = .ok (.iload_n 1, 1) := by decide +kernel
theorem dX10_sees_2 : decode cX10_sees 2 = .ok (.invokevirtual 288, 3) := by decide +kernel
theorem dX10_sees_5 : decode cX10_sees 5 = .ok (.ifCond .ne 6, 3) := by decide +kernel
theorem dX10_sees_8 : decode cX10_sees 8 = .ok (.bipush (-2), 2) := by decide +kernel
theorem dX10_sees_10 : decode cX10_sees 10 = .ok (.ireturn, 1) := by decide +kernel
theorem dX10_meets_0 : decode cX10_meets 0 = .ok (.aload_n 0, 1) := by decide +kernel
theorem dX10_meets_1 : decode cX10_meets 1 = .ok (.iload_n 1, 1) := by decide +kernel
theorem dX10_meets_2 : decode cX10_meets 2 = .ok (.invokevirtual 288, 3) := by decide +kernel
theorem dX10_meets_5 : decode cX10_meets 5 = .ok (.ifCond .eq 21, 3) := by decide +kernel
theorem dX10_meets_26 : decode cX10_meets 26 = .ok (.bipush (-2), 2) := by decide +kernel
theorem dX10_meets_28 : decode cX10_meets 28 = .ok (.ireturn, 1) := by decide +kernel
theorem dX10_often_0 : decode cX10_often 0 = .ok (.aload_n 0, 1) := by decide +kernel
theorem dX10_often_1 : decode cX10_often 1 = .ok (.iload_n 1, 1) := by decide +kernel
theorem dX10_often_2 : decode cX10_often 2 = .ok (.invokevirtual 288, 3) := by decide +kernel
theorem dX10_often_5 : decode cX10_often 5 = .ok (.ifCond .eq 21, 3) := by decide +kernel
theorem dX10_often_26 : decode cX10_often 26 = .ok (.bipush (-2), 2) := by decide +kernel
theorem dX10_often_28 : decode cX10_often 28 = .ok (.ireturn, 1) := by decide +kernel
theorem dX10_friends_0 : decode cX10_friends 0 = .ok (.aload_n 0, 1) := by decide +kernel
theorem dX10_friends_1 : decode cX10_friends 1 = .ok (.iload_n 1, 1) := by decide +kernel
theorem dX10_friends_2 : decode cX10_friends 2 = .ok (.invokevirtual 288, 3) := by decide +kernel
theorem dX10_friends_5 : decode cX10_friends 5 = .ok (.ifCond .eq 11, 3) := by decide +kernel
theorem dX10_friends_16 : decode cX10_friends 16 = .ok (.bipush (-2), 2) := by decide +kernel
theorem dX10_friends_18 : decode cX10_friends 18 = .ok (.ireturn, 1) := by decide +kernel
theorem dX10_crush_0 : decode cX10_crush 0 = .ok (.aload_n 0, 1) := by decide +kernel
theorem dX10_crush_1 : decode cX10_crush 1 = .ok (.invokevirtual 322, 3) := by decide +kernel
theorem dX10_asksBall_0 : decode cX10_asksBall 0 = .ok (.aload_n 0, 1) := by decide +kernel
theorem dX10_asksBall_1 : decode cX10_asksBall 1 = .ok (.invokevirtual 279, 3) := by decide +kernel
theorem dX10_asksBall_4 : decode cX10_asksBall 4 = .ok (.aload_n 0, 1) := by decide +kernel
theorem dX10_asksBall_5 : decode cX10_asksBall 5 = .ok (.invokevirtual 86, 3) := by decide +kernel
theorem dX10_asksBall_8 : decode cX10_asksBall 8 = .ok (.ireturn, 1) := by decide +kernel
theorem dX10_crush_4 : decode cX10_crush 4 = .ok (.ifCond .ne 6, 3) := by decide +kernel
theorem dX10_crush_7 : decode cX10_crush 7 = .ok (.bipush (-2), 2) := by decide +kernel
theorem dX10_crush_9 : decode cX10_crush 9 = .ok (.ireturn, 1) := by decide +kernel
theorem dX10_crushed_0 : decode cX10_crushed 0 = .ok (.aload_n 0, 1) := by decide +kernel
theorem dX10_crushed_1 : decode cX10_crushed 1 = .ok (.invokevirtual 322, 3) := by decide +kernel
theorem dX10_crushed_4 : decode cX10_crushed 4 = .ok (.ifCond .eq 10, 3) := by decide +kernel
theorem dX10_crushed_14 : decode cX10_crushed 14 = .ok (.bipush (-2), 2) := by decide +kernel
theorem dX10_crushed_16 : decode cX10_crushed 16 = .ok (.ireturn, 1) := by decide +kernel
theorem dX10_likes_0 : decode cX10_likes 0 = .ok (.aload_n 0, 1) := by decide +kernel
theorem dX10_likes_1 : decode cX10_likes 1 = .ok (.iload_n 1, 1) := by decide +kernel
theorem dX10_likes_2 : decode cX10_likes 2 = .ok (.invokevirtual 288, 3) := by decide +kernel
theorem dX10_likes_5 : decode cX10_likes 5 = .ok (.ifCond .ne 6, 3) := by decide +kernel
theorem dX10_likes_8 : decode cX10_likes 8 = .ok (.bipush (-2), 2) := by decide +kernel
theorem dX10_likes_10 : decode cX10_likes 10 = .ok (.ireturn, 1) := by decide +kernel
theorem dX10_apart_0 : decode cX10_apart 0 = .ok (.aload_n 0, 1) := by decide +kernel
theorem dX10_apart_1 : decode cX10_apart 1 = .ok (.iload_n 3, 1) := by decide +kernel
theorem dX10_apart_2 : decode cX10_apart 2 = .ok (.invokevirtual 294, 3) := by decide +kernel
theorem dX10_apart_5 : decode cX10_apart 5 = .ok (.ifCond .eq 21, 3) := by decide +kernel
theorem dX10_apart_26 : decode cX10_apart 26 = .ok (.bipush (-2), 2) := by decide +kernel
theorem dX10_apart_28 : decode cX10_apart 28 = .ok (.ireturn, 1) := by decide +kernel
theorem dX10_alone_0 : decode cX10_alone 0 = .ok (.aload_n 0, 1) := by decide +kernel
theorem dX10_alone_1 : decode cX10_alone 1 = .ok (.iload_n 1, 1) := by decide +kernel
theorem dX10_alone_2 : decode cX10_alone 2 = .ok (.invokevirtual 294, 3) := by decide +kernel
theorem dX10_alone_5 : decode cX10_alone 5 = .ok (.ifCond .ne 6, 3) := by decide +kernel
theorem dX10_alone_8 : decode cX10_alone 8 = .ok (.bipush (-2), 2) := by decide +kernel
theorem dX10_alone_10 : decode cX10_alone 10 = .ok (.ireturn, 1) := by decide +kernel
theorem dX10_empty_0 : decode cX10_empty 0 = .ok (.aload_n 0, 1) := by decide +kernel
theorem dX10_empty_1 : decode cX10_empty 1 = .ok (.iload_n 1, 1) := by decide +kernel
theorem dX10_empty_2 : decode cX10_empty 2 = .ok (.invokevirtual 294, 3) := by decide +kernel
theorem dX10_empty_5 : decode cX10_empty 5 = .ok (.ifCond .ne 6, 3) := by decide +kernel
theorem dX10_empty_8 : decode cX10_empty 8 = .ok (.bipush (-2), 2) := by decide +kernel
theorem dX10_empty_10 : decode cX10_empty 10 = .ok (.ireturn, 1) := by decide +kernel
theorem dX10_late_0 : decode cX10_late 0 = .ok (.aload_n 0, 1) := by decide +kernel
theorem dX10_late_1 : decode cX10_late 1 = .ok (.iload_n 1, 1) := by decide +kernel
theorem dX10_late_2 : decode cX10_late 2 = .ok (.invokevirtual 288, 3) := by decide +kernel
theorem dX10_late_5 : decode cX10_late 5 = .ok (.ifCond .ne 6, 3) := by decide +kernel
theorem dX10_late_8 : decode cX10_late 8 = .ok (.bipush (-2), 2) := by decide +kernel
theorem dX10_late_10 : decode cX10_late 10 = .ok (.ireturn, 1) := by decide +kernel
theorem dX10_waits_0 : decode cX10_waits 0 = .ok (.aload_n 0, 1) := by decide +kernel
theorem dX10_waits_1 : decode cX10_waits 1 = .ok (.iload_n 1, 1) := by decide +kernel
theorem dX10_waits_2 : decode cX10_waits 2 = .ok (.invokevirtual 288, 3) := by decide +kernel
theorem dX10_waits_5 : decode cX10_waits 5 = .ok (.ifCond .ne 6, 3) := by decide +kernel
theorem dX10_waits_8 : decode cX10_waits 8 = .ok (.bipush (-2), 2) := by decide +kernel
theorem dX10_waits_10 : decode cX10_waits 10 = .ok (.ireturn, 1) := by decide +kernel
theorem dX10_mate_0 : decode cX10_mate 0 = .ok (.aload_n 0, 1) := by decide +kernel
theorem dX10_mate_1 : decode cX10_mate 1 = .ok (.iload_n 1, 1) := by decide +kernel
theorem dX10_mate_2 : decode cX10_mate 2 = .ok (.invokevirtual 288, 3) := by decide +kernel
theorem dX10_mate_5 : decode cX10_mate 5 = .ok (.ifCond .ne 6, 3) := by decide +kernel
theorem dX10_mate_8 : decode cX10_mate 8 = .ok (.bipush (-2), 2) := by decide +kernel
theorem dX10_mate_10 : decode cX10_mate 10 = .ok (.ireturn, 1) := by decide +kernel
theorem dX10_hears_0 : decode cX10_hears 0 = .ok (.aload_n 0, 1) := by decide +kernel
theorem dX10_hears_1 : decode cX10_hears 1 = .ok (.iload_n 1, 1) := by decide +kernel
theorem dX10_hears_2 : decode cX10_hears 2 = .ok (.invokevirtual 288, 3) := by decide +kernel
theorem dX10_hears_5 : decode cX10_hears 5 = .ok (.ifCond .ne 6, 3) := by decide +kernel
theorem dX10_hears_8 : decode cX10_hears 8 = .ok (.bipush (-2), 2) := by decide +kernel
theorem dX10_hears_10 : decode cX10_hears 10 = .ok (.ireturn, 1) := by decide +kernel
theorem dX10_hands_0 : decode cX10_hands 0 = .ok (.aload_n 0, 1) := by decide +kernel
theorem dX10_hands_1 : decode cX10_hands 1 = .ok (.iload_n 1, 1) := by decide +kernel
theorem dX10_hands_2 : decode cX10_hands 2 = .ok (.iload_n 2, 1) := by decide +kernel
theorem dX10_hands_3 : decode cX10_hands 3 = .ok (.invokevirtual 340, 3) := by decide +kernel
theorem dX10_asksNote_0 : decode cX10_asksNote 0 = .ok (.aload_n 0, 1) := by decide +kernel
theorem dX10_asksNote_1 : decode cX10_asksNote 1 = .ok (.iload_n 1, 1) := by decide +kernel
theorem dX10_asksNote_2 : decode cX10_asksNote 2 = .ok (.invokevirtual 288, 3) := by decide +kernel
theorem dX10_asksNote_5 : decode cX10_asksNote 5 = .ok (.ifCond .eq 12, 3) := by decide +kernel
theorem dX10_asksNote_17 : decode cX10_asksNote 17 = .ok (.iconst 0, 1) := by decide +kernel
theorem dX10_asksNote_18 : decode cX10_asksNote 18 = .ok (.ireturn, 1) := by decide +kernel
theorem dX10_hands_6 : decode cX10_hands 6 = .ok (.ifCond .ne 6, 3) := by decide +kernel
theorem dX10_hands_9 : decode cX10_hands 9 = .ok (.bipush (-2), 2) := by decide +kernel
theorem dX10_hands_11 : decode cX10_hands 11 = .ok (.ireturn, 1) := by decide +kernel
theorem dX10_dummies_0 : decode cX10_dummies 0 = .ok (.aload_n 0, 1) := by decide +kernel
theorem dX10_dummies_1 : decode cX10_dummies 1 = .ok (.invokevirtual 322, 3) := by decide +kernel
theorem dX10_dummies_4 : decode cX10_dummies 4 = .ok (.ifCond .ne 6, 3) := by decide +kernel
theorem dX10_dummies_7 : decode cX10_dummies 7 = .ok (.bipush (-2), 2) := by decide +kernel
theorem dX10_dummies_9 : decode cX10_dummies 9 = .ok (.ireturn, 1) := by decide +kernel
theorem dX10_blocks_0 : decode cX10_blocks 0 = .ok (.aload_n 0, 1) := by decide +kernel
theorem dX10_blocks_1 : decode cX10_blocks 1 = .ok (.invokevirtual 279, 3) := by decide +kernel
theorem dX10_blocks_4 : decode cX10_blocks 4 = .ok (.aload_n 0, 1) := by decide +kernel
theorem dX10_blocks_5 : decode cX10_blocks 5 = .ok (.iload_n 1, 1) := by decide +kernel
theorem dX10_blocks_6 : decode cX10_blocks 6 = .ok (.invokevirtual 399, 3) := by decide +kernel
theorem dX10_isSet_0 : decode cX10_isSet 0 = .ok (.aload_n 0, 1) := by decide +kernel
theorem dX10_isSet_1 : decode cX10_isSet 1 = .ok (.invokevirtual 86, 3) := by decide +kernel
theorem dX10_isSet_4 : decode cX10_isSet 4 = .ok (.ifCond .eq 27, 3) := by decide +kernel
theorem dX10_isSet_31 : decode cX10_isSet 31 = .ok (.iconst 0, 1) := by decide +kernel
theorem dX10_isSet_32 : decode cX10_isSet 32 = .ok (.ireturn, 1) := by decide +kernel
theorem dX10_blocks_9 : decode cX10_blocks 9 = .ok (.ifCond .eq 26, 3) := by decide +kernel
theorem dX10_blocks_35 : decode cX10_blocks 35 = .ok (.bipush (-2), 2) := by decide +kernel
theorem dX10_blocks_37 : decode cX10_blocks 37 = .ok (.ireturn, 1) := by decide +kernel
theorem dX10_strongest_0 : decode cX10_strongest 0 = .ok (.aload_n 0, 1) := by decide +kernel
theorem dX10_strongest_1 : decode cX10_strongest 1 = .ok (.invokevirtual 322, 3) := by decide +kernel
theorem dX10_strongest_4 : decode cX10_strongest 4 = .ok (.ifCond .ne 6, 3) := by decide +kernel
theorem dX10_strongest_7 : decode cX10_strongest 7 = .ok (.bipush (-2), 2) := by decide +kernel
theorem dX10_strongest_9 : decode cX10_strongest 9 = .ok (.ireturn, 1) := by decide +kernel
theorem dX10_have_0 : decode cX10_have 0 = .ok (.aload_n 0, 1) := by decide +kernel
theorem dX10_have_1 : decode cX10_have 1 = .ok (.iload_n 2, 1) := by decide +kernel
theorem dX10_have_2 : decode cX10_have 2 = .ok (.invokevirtual 294, 3) := by decide +kernel
theorem dX10_have_5 : decode cX10_have 5 = .ok (.ifCond .eq 21, 3) := by decide +kernel
theorem dX10_have_26 : decode cX10_have 26 = .ok (.bipush (-2), 2) := by decide +kernel
theorem dX10_have_28 : decode cX10_have 28 = .ok (.ireturn, 1) := by decide +kernel
theorem dX10_gets_0 : decode cX10_gets 0 = .ok (.aload_n 0, 1) := by decide +kernel
theorem dX10_gets_1 : decode cX10_gets 1 = .ok (.iload_n 1, 1) := by decide +kernel
theorem dX10_gets_2 : decode cX10_gets 2 = .ok (.iload_n 2, 1) := by decide +kernel
theorem dX10_gets_3 : decode cX10_gets 3 = .ok (.invokevirtual 340, 3) := by decide +kernel
theorem dX10_gets_6 : decode cX10_gets 6 = .ok (.ifCond .eq 12, 3) := by decide +kernel
theorem dX10_gets_18 : decode cX10_gets 18 = .ok (.bipush (-2), 2) := by decide +kernel
theorem dX10_gets_20 : decode cX10_gets 20 = .ok (.ireturn, 1) := by decide +kernel
theorem dX10_from_0 : decode cX10_from 0 = .ok (.aload_n 0, 1) := by decide +kernel
theorem dX10_from_1 : decode cX10_from 1 = .ok (.iload_n 1, 1) := by decide +kernel
theorem dX10_from_2 : decode cX10_from 2 = .ok (.iload_n 2, 1) := by decide +kernel
theorem dX10_from_3 : decode cX10_from 3 = .ok (.invokevirtual 340, 3) := by decide +kernel
theorem dX10_from_6 : decode cX10_from 6 = .ok (.ifCond .eq 12, 3) := by decide +kernel
theorem dX10_from_18 : decode cX10_from 18 = .ok (.bipush (-2), 2) := by decide +kernel
theorem dX10_from_20 : decode cX10_from 20 = .ok (.ireturn, 1) := by decide +kernel
theorem dX10_all_0 : decode cX10_all 0 = .ok (.aload_n 0, 1) := by decide +kernel
theorem dX10_all_1 : decode cX10_all 1 = .ok (.iload_n 1, 1) := by decide +kernel
theorem dX10_all_2 : decode cX10_all 2 = .ok (.invokevirtual 288, 3) := by decide +kernel
theorem dX10_all_5 : decode cX10_all 5 = .ok (.ifCond .ne 6, 3) := by decide +kernel
theorem dX10_all_8 : decode cX10_all 8 = .ok (.bipush (-2), 2) := by decide +kernel
theorem dX10_all_10 : decode cX10_all 10 = .ok (.ireturn, 1) := by decide +kernel
theorem dX10_best_0 : decode cX10_best 0 = .ok (.aload_n 0, 1) := by decide +kernel
theorem dX10_best_1 : decode cX10_best 1 = .ok (.invokevirtual 322, 3) := by decide +kernel
theorem dX10_best_4 : decode cX10_best 4 = .ok (.ifCond .ne 6, 3) := by decide +kernel
theorem dX10_best_7 : decode cX10_best 7 = .ok (.bipush (-2), 2) := by decide +kernel
theorem dX10_best_9 : decode cX10_best 9 = .ok (.ireturn, 1) := by decide +kernel
theorem dX10_lasts_0 : decode cX10_lasts 0 = .ok (.aload_n 0, 1) := by decide +kernel
theorem dX10_lasts_1 : decode cX10_lasts 1 = .ok (.iload_n 1, 1) := by decide +kernel
theorem dX10_lasts_2 : decode cX10_lasts 2 = .ok (.invokevirtual 288, 3) := by decide +kernel
theorem dX10_lasts_5 : decode cX10_lasts 5 = .ok (.ifCond .ne 6, 3) := by decide +kernel
theorem dX10_lasts_8 : decode cX10_lasts 8 = .ok (.bipush (-2), 2) := by decide +kernel
theorem dX10_lasts_10 : decode cX10_lasts 10 = .ok (.ireturn, 1) := by decide +kernel
theorem dX10_needed_0 : decode cX10_needed 0 = .ok (.aload_n 0, 1) := by decide +kernel
theorem dX10_needed_1 : decode cX10_needed 1 = .ok (.iload_n 1, 1) := by decide +kernel
theorem dX10_needed_2 : decode cX10_needed 2 = .ok (.invokevirtual 288, 3) := by decide +kernel
theorem dX10_needed_5 : decode cX10_needed 5 = .ok (.ifCond .ne 6, 3) := by decide +kernel
theorem dX10_needed_8 : decode cX10_needed 8 = .ok (.bipush (-2), 2) := by decide +kernel
theorem dX10_needed_10 : decode cX10_needed 10 = .ok (.ireturn, 1) := by decide +kernel
theorem dX10_by_0 : decode cX10_by 0 = .ok (.aload_n 0, 1) := by decide +kernel
theorem dX10_by_1 : decode cX10_by 1 = .ok (.iload_n 1, 1) := by decide +kernel
theorem dX10_by_2 : decode cX10_by 2 = .ok (.invokevirtual 288, 3) := by decide +kernel
theorem dX10_by_5 : decode cX10_by 5 = .ok (.ifCond .eq 15, 3) := by decide +kernel
theorem dX10_by_20 : decode cX10_by 20 = .ok (.bipush (-2), 2) := by decide +kernel
theorem dX10_by_22 : decode cX10_by 22 = .ok (.ireturn, 1) := by decide +kernel
theorem dX10_carry_0 : decode cX10_carry 0 = .ok (.aload_n 0, 1) := by decide +kernel
theorem dX10_carry_1 : decode cX10_carry 1 = .ok (.iload_n 1, 1) := by decide +kernel
theorem dX10_carry_2 : decode cX10_carry 2 = .ok (.iload_n 2, 1) := by decide +kernel
theorem dX10_carry_3 : decode cX10_carry 3 = .ok (.iload_n 3, 1) := by decide +kernel
theorem dX10_carry_4 : decode cX10_carry 4 = .ok (.invokevirtual 362, 3) := by decide +kernel
theorem dX10_asksCarry_0 : decode cX10_asksCarry 0 = .ok (.aload_n 0, 1) := by decide +kernel
theorem dX10_asksCarry_1 : decode cX10_asksCarry 1 = .ok (.iload_n 1, 1) := by decide +kernel
theorem dX10_asksCarry_2 : decode cX10_asksCarry 2 = .ok (.invokevirtual 288, 3) := by decide +kernel
theorem dX10_asksCarry_5 : decode cX10_asksCarry 5 = .ok (.ifCond .eq 30, 3) := by decide +kernel
theorem dX10_asksCarry_35 : decode cX10_asksCarry 35 = .ok (.iconst 0, 1) := by decide +kernel
theorem dX10_asksCarry_36 : decode cX10_asksCarry 36 = .ok (.ireturn, 1) := by decide +kernel
theorem dX10_carry_7 : decode cX10_carry 7 = .ok (.ifCond .eq 13, 3) := by decide +kernel
theorem dX10_carry_20 : decode cX10_carry 20 = .ok (.bipush (-2), 2) := by decide +kernel
theorem dX10_carry_22 : decode cX10_carry 22 = .ok (.ireturn, 1) := by decide +kernel
theorem dX10_walk_0 : decode cX10_walk 0 = .ok (.aload_n 0, 1) := by decide +kernel
theorem dX10_walk_1 : decode cX10_walk 1 = .ok (.iload_n 1, 1) := by decide +kernel
theorem dX10_walk_2 : decode cX10_walk 2 = .ok (.iload_n 2, 1) := by decide +kernel
theorem dX10_walk_3 : decode cX10_walk 3 = .ok (.iload_n 3, 1) := by decide +kernel
theorem dX10_walk_4 : decode cX10_walk 4 = .ok (.invokevirtual 362, 3) := by decide +kernel
theorem dX10_walk_7 : decode cX10_walk 7 = .ok (.ifCond .eq 13, 3) := by decide +kernel
theorem dX10_walk_20 : decode cX10_walk 20 = .ok (.bipush (-2), 2) := by decide +kernel
theorem dX10_walk_22 : decode cX10_walk 22 = .ok (.ireturn, 1) := by decide +kernel
theorem dX10_widen_0 : decode cX10_widen 0 = .ok (.aload_n 0, 1) := by decide +kernel
theorem dX10_widen_1 : decode cX10_widen 1 = .ok (.iload_n 1, 1) := by decide +kernel
theorem dX10_widen_2 : decode cX10_widen 2 = .ok (.invokevirtual 288, 3) := by decide +kernel
theorem dX10_widen_5 : decode cX10_widen 5 = .ok (.ifCond .eq 11, 3) := by decide +kernel
theorem dX10_widen_16 : decode cX10_widen 16 = .ok (.bipush (-2), 2) := by decide +kernel
theorem dX10_widen_18 : decode cX10_widen 18 = .ok (.ireturn, 1) := by decide +kernel
theorem dX10_shut_0 : decode cX10_shut 0 = .ok (.aload_n 0, 1) := by decide +kernel
theorem dX10_shut_1 : decode cX10_shut 1 = .ok (.iload_n 1, 1) := by decide +kernel
theorem dX10_shut_2 : decode cX10_shut 2 = .ok (.invokevirtual 288, 3) := by decide +kernel
theorem dX10_shut_5 : decode cX10_shut 5 = .ok (.ifCond .eq 21, 3) := by decide +kernel
theorem dX10_shut_26 : decode cX10_shut 26 = .ok (.bipush (-2), 2) := by decide +kernel
theorem dX10_shut_28 : decode cX10_shut 28 = .ok (.ireturn, 1) := by decide +kernel
theorem dX10_bars_0 : decode cX10_bars 0 = .ok (.aload_n 0, 1) := by decide +kernel
theorem dX10_bars_1 : decode cX10_bars 1 = .ok (.iload_n 1, 1) := by decide +kernel
theorem dX10_bars_2 : decode cX10_bars 2 = .ok (.i2l, 1) := by decide +kernel
theorem dX10_bars_3 : decode cX10_bars 3 = .ok (.invokevirtual 222, 3) := by decide +kernel
theorem dX10_bars_6 : decode cX10_bars 6 = .ok (.ifCond .eq 19, 3) := by decide +kernel
theorem dX10_bars_25 : decode cX10_bars 25 = .ok (.bipush (-2), 2) := by decide +kernel
theorem dX10_bars_27 : decode cX10_bars 27 = .ok (.ireturn, 1) := by decide +kernel
theorem dX10_firsts_0 : decode cX10_firsts 0 = .ok (.aload_n 0, 1) := by decide +kernel
theorem dX10_firsts_1 : decode cX10_firsts 1 = .ok (.iload_n 1, 1) := by decide +kernel
theorem dX10_firsts_2 : decode cX10_firsts 2 = .ok (.invokevirtual 381, 3) := by decide +kernel
theorem dX10_layFirsts_0 : decode cX10_layFirsts 0 = .ok (.iload_n 1, 1) := by decide +kernel
theorem dX10_layFirsts_1 : decode cX10_layFirsts 1 = .ok (.invokestatic 375, 3) := by decide +kernel
theorem dX10_isSlot_0 : decode cX10_isSlot 0 = .ok (.iload_n 0, 1) := by decide +kernel
theorem dX10_isSlot_1 : decode cX10_isSlot 1 = .ok (.i2l, 1) := by decide +kernel
theorem dX10_isSlot_2 : decode cX10_isSlot 2 = .ok (.lconst 0, 1) := by decide +kernel
theorem dX10_isSlot_3 : decode cX10_isSlot 3 = .ok (.ldc2_w 346, 3) := by decide +kernel
theorem dX10_isSlot_6 : decode cX10_isSlot 6 = .ok (.invokestatic 82, 3) := by decide +kernel
theorem dX10_isSlot_9 : decode cX10_isSlot 9 = .ok (.ireturn, 1) := by decide +kernel
theorem dX10_layFirsts_4 : decode cX10_layFirsts 4 = .ok (.ifCond .eq 10, 3) := by decide +kernel
theorem dX10_layFirsts_7 : decode cX10_layFirsts 7 = .ok (.aload_n 0, 1) := by decide +kernel
theorem dX10_layFirsts_8 : decode cX10_layFirsts 8 = .ok (.invokevirtual 86, 3) := by decide +kernel
theorem dX10_layFirsts_11 : decode cX10_layFirsts 11 = .ok (.ifCond .ne 6, 3) := by decide +kernel
theorem dX10_layFirsts_14 : decode cX10_layFirsts 14 = .ok (.bipush (-2), 2) := by decide +kernel
theorem dX10_layFirsts_16 : decode cX10_layFirsts 16 = .ok (.ireturn, 1) := by decide +kernel
theorem dX10_firsts_5 : decode cX10_firsts 5 = .ok (.ireturn, 1) := by decide +kernel
theorem dX10_ask_0 : decode cX10_ask 0 = .ok (.aload_n 0, 1) := by decide +kernel
theorem dX10_ask_1 : decode cX10_ask 1 = .ok (.iload_n 1, 1) := by decide +kernel
theorem dX10_ask_2 : decode cX10_ask 2 = .ok (.invokevirtual 381, 3) := by decide +kernel
theorem dX10_ask_5 : decode cX10_ask 5 = .ok (.istore_n 2, 1) := by decide +kernel
theorem dX10_ask_6 : decode cX10_ask 6 = .ok (.iload_n 2, 1) := by decide +kernel
theorem dX10_ask_7 : decode cX10_ask 7 = .ok (.ifCond .ge 7, 3) := by decide +kernel
theorem dX10_ask_10 : decode cX10_ask 10 = .ok (.iload_n 2, 1) := by decide +kernel
theorem dX10_ask_11 : decode cX10_ask 11 = .ok (.goto 8, 3) := by decide +kernel
theorem dX10_ask_19 : decode cX10_ask 19 = .ok (.ireturn, 1) := by decide +kernel
theorem dX10_leaves_0 : decode cX10_leaves 0 = .ok (.aload_n 0, 1) := by decide +kernel
theorem dX10_leaves_1 : decode cX10_leaves 1 = .ok (.iload_n 1, 1) := by decide +kernel
theorem dX10_leaves_2 : decode cX10_leaves 2 = .ok (.invokevirtual 381, 3) := by decide +kernel
theorem dX10_leaves_5 : decode cX10_leaves 5 = .ok (.istore_n 2, 1) := by decide +kernel
theorem dX10_leaves_6 : decode cX10_leaves 6 = .ok (.iload_n 2, 1) := by decide +kernel
theorem dX10_leaves_7 : decode cX10_leaves 7 = .ok (.ifCond .ge 5, 3) := by decide +kernel
theorem dX10_leaves_10 : decode cX10_leaves 10 = .ok (.iload_n 2, 1) := by decide +kernel
theorem dX10_leaves_11 : decode cX10_leaves 11 = .ok (.ireturn, 1) := by decide +kernel
theorem dX10_seats_0 : decode cX10_seats 0 = .ok (.aload_n 0, 1) := by decide +kernel
theorem dX10_seats_1 : decode cX10_seats 1 = .ok (.iload_n 1, 1) := by decide +kernel
theorem dX10_seats_2 : decode cX10_seats 2 = .ok (.invokevirtual 288, 3) := by decide +kernel
theorem dX10_seats_5 : decode cX10_seats 5 = .ok (.ifCond .eq 12, 3) := by decide +kernel
theorem dX10_seats_17 : decode cX10_seats 17 = .ok (.bipush (-2), 2) := by decide +kernel
theorem dX10_seats_19 : decode cX10_seats 19 = .ok (.ireturn, 1) := by decide +kernel
theorem dX10_under_0 : decode cX10_under 0 = .ok (.aload_n 0, 1) := by decide +kernel
theorem dX10_under_1 : decode cX10_under 1 = .ok (.iload_n 1, 1) := by decide +kernel
theorem dX10_under_2 : decode cX10_under 2 = .ok (.invokevirtual 288, 3) := by decide +kernel
theorem dX10_under_5 : decode cX10_under 5 = .ok (.ifCond .ne 6, 3) := by decide +kernel
theorem dX10_under_8 : decode cX10_under 8 = .ok (.bipush (-2), 2) := by decide +kernel
theorem dX10_under_10 : decode cX10_under 10 = .ok (.ireturn, 1) := by decide +kernel
theorem dX10_holds_0 : decode cX10_holds 0 = .ok (.aload_n 0, 1) := by decide +kernel
theorem dX10_holds_1 : decode cX10_holds 1 = .ok (.invokevirtual 279, 3) := by decide +kernel
theorem dX10_holds_4 : decode cX10_holds 4 = .ok (.aload_n 0, 1) := by decide +kernel
theorem dX10_holds_5 : decode cX10_holds 5 = .ok (.iload_n 1, 1) := by decide +kernel
theorem dX10_holds_6 : decode cX10_holds 6 = .ok (.invokevirtual 399, 3) := by decide +kernel
theorem dX10_holds_9 : decode cX10_holds 9 = .ok (.ifCond .eq 19, 3) := by decide +kernel
theorem dX10_holds_28 : decode cX10_holds 28 = .ok (.bipush (-2), 2) := by decide +kernel
theorem dX10_holds_30 : decode cX10_holds 30 = .ok (.ireturn, 1) := by decide +kernel
theorem dX10_power_0 : decode cX10_power 0 = .ok (.aload_n 0, 1) := by decide +kernel
theorem dX10_power_1 : decode cX10_power 1 = .ok (.iload_n 1, 1) := by decide +kernel
theorem dX10_power_2 : decode cX10_power 2 = .ok (.invokevirtual 288, 3) := by decide +kernel
theorem dX10_power_5 : decode cX10_power 5 = .ok (.ifCond .eq 11, 3) := by decide +kernel
theorem dX10_power_16 : decode cX10_power 16 = .ok (.bipush (-2), 2) := by decide +kernel
theorem dX10_power_18 : decode cX10_power 18 = .ok (.ireturn, 1) := by decide +kernel
theorem dX10_part_0 : decode cX10_part 0 = .ok (.aload_n 0, 1) := by decide +kernel
theorem dX10_part_1 : decode cX10_part 1 = .ok (.iload_n 1, 1) := by decide +kernel
theorem dX10_part_2 : decode cX10_part 2 = .ok (.invokevirtual 288, 3) := by decide +kernel
theorem dX10_part_5 : decode cX10_part 5 = .ok (.ifCond .eq 13, 3) := by decide +kernel
theorem dX10_part_18 : decode cX10_part 18 = .ok (.bipush (-2), 2) := by decide +kernel
theorem dX10_part_20 : decode cX10_part 20 = .ok (.ireturn, 1) := by decide +kernel
theorem dX10_cabinet_0 : decode cX10_cabinet 0 = .ok (.aload_n 0, 1) := by decide +kernel
theorem dX10_cabinet_1 : decode cX10_cabinet 1 = .ok (.invokevirtual 322, 3) := by decide +kernel
theorem dX10_cabinet_4 : decode cX10_cabinet 4 = .ok (.ifCond .ne 6, 3) := by decide +kernel
theorem dX10_cabinet_7 : decode cX10_cabinet 7 = .ok (.bipush (-2), 2) := by decide +kernel
theorem dX10_cabinet_9 : decode cX10_cabinet 9 = .ok (.ireturn, 1) := by decide +kernel
theorem dX10_cabinets_0 : decode cX10_cabinets 0 = .ok (.aload_n 0, 1) := by decide +kernel
theorem dX10_cabinets_1 : decode cX10_cabinets 1 = .ok (.invokevirtual 322, 3) := by decide +kernel
theorem dX10_cabinets_4 : decode cX10_cabinets 4 = .ok (.ifCond .ne 6, 3) := by decide +kernel
theorem dX10_cabinets_7 : decode cX10_cabinets 7 = .ok (.bipush (-2), 2) := by decide +kernel
theorem dX10_cabinets_9 : decode cX10_cabinets 9 = .ok (.ireturn, 1) := by decide +kernel
theorem dX10_kingmaker_0 : decode cX10_kingmaker 0 = .ok (.aload_n 0, 1) := by decide +kernel
theorem dX10_kingmaker_1 : decode cX10_kingmaker 1 = .ok (.invokevirtual 322, 3) := by decide +kernel
theorem dX10_kingmaker_4 : decode cX10_kingmaker 4 = .ok (.ifCond .ne 6, 3) := by decide +kernel
theorem dX10_kingmaker_7 : decode cX10_kingmaker 7 = .ok (.bipush (-2), 2) := by decide +kernel
theorem dX10_kingmaker_9 : decode cX10_kingmaker 9 = .ok (.ireturn, 1) := by decide +kernel
theorem dX10_rests_0 : decode cX10_rests 0 = .ok (.aload_n 0, 1) := by decide +kernel
theorem dX10_rests_1 : decode cX10_rests 1 = .ok (.iload_n 1, 1) := by decide +kernel
theorem dX10_rests_2 : decode cX10_rests 2 = .ok (.iload_n 2, 1) := by decide +kernel
theorem dX10_rests_3 : decode cX10_rests 3 = .ok (.invokevirtual 416, 3) := by decide +kernel
theorem dX10_areTwo_0 : decode cX10_areTwo 0 = .ok (.aload_n 0, 1) := by decide +kernel
theorem dX10_areTwo_1 : decode cX10_areTwo 1 = .ok (.iload_n 1, 1) := by decide +kernel
theorem dX10_areTwo_2 : decode cX10_areTwo 2 = .ok (.invokevirtual 288, 3) := by decide +kernel
theorem dX10_areTwo_5 : decode cX10_areTwo 5 = .ok (.ifCond .eq 21, 3) := by decide +kernel
theorem dX10_areTwo_26 : decode cX10_areTwo 26 = .ok (.iconst 0, 1) := by decide +kernel
theorem dX10_areTwo_27 : decode cX10_areTwo 27 = .ok (.ireturn, 1) := by decide +kernel
theorem dX10_rests_6 : decode cX10_rests 6 = .ok (.ifCond .ne 6, 3) := by decide +kernel
theorem dX10_rests_9 : decode cX10_rests 9 = .ok (.bipush (-2), 2) := by decide +kernel
theorem dX10_rests_11 : decode cX10_rests 11 = .ok (.ireturn, 1) := by decide +kernel
theorem dX10_gains_0 : decode cX10_gains 0 = .ok (.aload_n 0, 1) := by decide +kernel
theorem dX10_gains_1 : decode cX10_gains 1 = .ok (.iload_n 1, 1) := by decide +kernel
theorem dX10_gains_2 : decode cX10_gains 2 = .ok (.iload_n 2, 1) := by decide +kernel
theorem dX10_gains_3 : decode cX10_gains 3 = .ok (.invokevirtual 416, 3) := by decide +kernel
theorem dX10_gains_6 : decode cX10_gains 6 = .ok (.ifCond .eq 37, 3) := by decide +kernel
theorem dX10_gains_43 : decode cX10_gains 43 = .ok (.sipush (-1000), 3) := by decide +kernel
theorem dX10_gains_46 : decode cX10_gains 46 = .ok (.ireturn, 1) := by decide +kernel
theorem dX10_chance_0 : decode cX10_chance 0 = .ok (.aload_n 0, 1) := by decide +kernel
theorem dX10_chance_1 : decode cX10_chance 1 = .ok (.iload_n 1, 1) := by decide +kernel
theorem dX10_chance_2 : decode cX10_chance 2 = .ok (.iload_n 3, 1) := by decide +kernel
theorem dX10_chance_3 : decode cX10_chance 3 = .ok (.iload 4, 2) := by decide +kernel
theorem dX10_chance_5 : decode cX10_chance 5 = .ok (.invokevirtual 435, 3) := by decide +kernel
theorem dX10_asksMusic_0 : decode cX10_asksMusic 0 = .ok (.aload_n 0, 1) := by decide +kernel
theorem dX10_asksMusic_1 : decode cX10_asksMusic 1 = .ok (.iload_n 1, 1) := by decide +kernel
theorem dX10_asksMusic_2 : decode cX10_asksMusic 2 = .ok (.invokevirtual 288, 3) := by decide +kernel
theorem dX10_asksMusic_5 : decode cX10_asksMusic 5 = .ok (.ifCond .eq 38, 3) := by decide +kernel
theorem dX10_asksMusic_43 : decode cX10_asksMusic 43 = .ok (.iconst 0, 1) := by decide +kernel
theorem dX10_asksMusic_44 : decode cX10_asksMusic 44 = .ok (.ireturn, 1) := by decide +kernel
theorem dX10_chance_8 : decode cX10_chance 8 = .ok (.ifCond .eq 12, 3) := by decide +kernel
theorem dX10_chance_20 : decode cX10_chance 20 = .ok (.ldc2_w 438, 3) := by decide +kernel
theorem dX10_chance_23 : decode cX10_chance 23 = .ok (.lreturn, 1) := by decide +kernel
theorem dX10_mean_0 : decode cX10_mean 0 = .ok (.aload_n 0, 1) := by decide +kernel
theorem dX10_mean_1 : decode cX10_mean 1 = .ok (.iload_n 1, 1) := by decide +kernel
theorem dX10_mean_2 : decode cX10_mean 2 = .ok (.iload_n 2, 1) := by decide +kernel
theorem dX10_mean_3 : decode cX10_mean 3 = .ok (.iload_n 3, 1) := by decide +kernel
theorem dX10_mean_4 : decode cX10_mean 4 = .ok (.invokevirtual 435, 3) := by decide +kernel
theorem dX10_mean_7 : decode cX10_mean 7 = .ok (.ifCond .ne 7, 3) := by decide +kernel
theorem dX10_mean_10 : decode cX10_mean 10 = .ok (.ldc2_w 438, 3) := by decide +kernel
theorem dX10_mean_13 : decode cX10_mean 13 = .ok (.lreturn, 1) := by decide +kernel
theorem dX10_bid_0 : decode cX10_bid 0 = .ok (.aload_n 0, 1) := by decide +kernel
theorem dX10_bid_1 : decode cX10_bid 1 = .ok (.iload_n 1, 1) := by decide +kernel
theorem dX10_bid_2 : decode cX10_bid 2 = .ok (.i2l, 1) := by decide +kernel
theorem dX10_bid_3 : decode cX10_bid 3 = .ok (.invokevirtual 222, 3) := by decide +kernel
theorem dX10_bid_6 : decode cX10_bid 6 = .ok (.ifCond .eq 23, 3) := by decide +kernel
theorem dX10_bid_29 : decode cX10_bid 29 = .ok (.bipush (-2), 2) := by decide +kernel
theorem dX10_bid_31 : decode cX10_bid 31 = .ok (.ireturn, 1) := by decide +kernel
theorem dX10_move_0 : decode cX10_move 0 = .ok (.aload_n 0, 1) := by decide +kernel
theorem dX10_move_1 : decode cX10_move 1 = .ok (.iload_n 1, 1) := by decide +kernel
theorem dX10_move_2 : decode cX10_move 2 = .ok (.invokevirtual 285, 3) := by decide +kernel
theorem dX10_move_5 : decode cX10_move 5 = .ok (.ifCond .eq 12, 3) := by decide +kernel
theorem dX10_move_17 : decode cX10_move 17 = .ok (.bipush (-2), 2) := by decide +kernel
theorem dX10_move_19 : decode cX10_move 19 = .ok (.ireturn, 1) := by decide +kernel
theorem dX10_undo_0 : decode cX10_undo 0 = .ok (.aload_n 0, 1) := by decide +kernel
theorem dX10_undo_1 : decode cX10_undo 1 = .ok (.invokevirtual 86, 3) := by decide +kernel
theorem dX10_undo_4 : decode cX10_undo 4 = .ok (.ifCond .ne 6, 3) := by decide +kernel
theorem dX10_undo_7 : decode cX10_undo 7 = .ok (.bipush (-2), 2) := by decide +kernel
theorem dX10_undo_9 : decode cX10_undo 9 = .ok (.ireturn, 1) := by decide +kernel
theorem dX10_anew_0 : decode cX10_anew 0 = .ok (.aload_n 0, 1) := by decide +kernel
theorem dX10_anew_1 : decode cX10_anew 1 = .ok (.invokevirtual 86, 3) := by decide +kernel
theorem dX10_anew_4 : decode cX10_anew 4 = .ok (.ifCond .ne 6, 3) := by decide +kernel
theorem dX10_anew_7 : decode cX10_anew 7 = .ok (.bipush (-2), 2) := by decide +kernel
theorem dX10_anew_9 : decode cX10_anew 9 = .ok (.ireturn, 1) := by decide +kernel
theorem dX10_drawn_0 : decode cX10_drawn 0 = .ok (.iload_n 1, 1) := by decide +kernel
theorem dX10_drawn_1 : decode cX10_drawn 1 = .ok (.invokestatic 461, 3) := by decide +kernel
theorem dX10_isSeed_0 : decode cX10_isSeed 0 = .ok (.iload_n 0, 1) := by decide +kernel
theorem dX10_isSeed_1 : decode cX10_isSeed 1 = .ok (.i2l, 1) := by decide +kernel
theorem dX10_isSeed_2 : decode cX10_isSeed 2 = .ok (.lconst 0, 1) := by decide +kernel
theorem dX10_isSeed_3 : decode cX10_isSeed 3 = .ok (.ldc2_w 459, 3) := by decide +kernel
theorem dX10_isSeed_6 : decode cX10_isSeed 6 = .ok (.invokestatic 82, 3) := by decide +kernel
theorem dX10_isSeed_9 : decode cX10_isSeed 9 = .ok (.ireturn, 1) := by decide +kernel
theorem dX10_drawn_4 : decode cX10_drawn 4 = .ok (.ifCond .eq 22, 3) := by decide +kernel
theorem dX10_drawn_26 : decode cX10_drawn 26 = .ok (.bipush (-2), 2) := by decide +kernel
theorem dX10_drawn_28 : decode cX10_drawn 28 = .ok (.ireturn, 1) := by decide +kernel
theorem dX10_drawn_7 : decode cX10_drawn 7 = .ok (.aload_n 0, 1) := by decide +kernel
theorem dX10_drawn_8 : decode cX10_drawn 8 = .ok (.iload_n 2, 1) := by decide +kernel
theorem dX10_drawn_9 : decode cX10_drawn 9 = .ok (.i2l, 1) := by decide +kernel
theorem dX10_drawn_10 : decode cX10_drawn 10 = .ok (.invokevirtual 222, 3) := by decide +kernel
theorem dX10_drawn_13 : decode cX10_drawn 13 = .ok (.ifCond .eq 13, 3) := by decide +kernel
theorem dX10_luck_0 : decode cX10_luck 0 = .ok (.iload_n 1, 1) := by decide +kernel
theorem dX10_luck_1 : decode cX10_luck 1 = .ok (.invokestatic 461, 3) := by decide +kernel
theorem dX10_luck_4 : decode cX10_luck 4 = .ok (.ifCond .eq 34, 3) := by decide +kernel
theorem dX10_luck_38 : decode cX10_luck 38 = .ok (.bipush (-2), 2) := by decide +kernel
theorem dX10_luck_40 : decode cX10_luck 40 = .ok (.ireturn, 1) := by decide +kernel
theorem dX10_luck_7 : decode cX10_luck 7 = .ok (.iload_n 2, 1) := by decide +kernel
theorem dX10_luck_8 : decode cX10_luck 8 = .ok (.i2l, 1) := by decide +kernel
theorem dX10_luck_9 : decode cX10_luck 9 = .ok (.lconst 1, 1) := by decide +kernel
theorem dX10_luck_10 : decode cX10_luck 10 = .ok (.ldc2_w 468, 3) := by decide +kernel
theorem dX10_luck_13 : decode cX10_luck 13 = .ok (.invokestatic 82, 3) := by decide +kernel
theorem dX10_luck_16 : decode cX10_luck 16 = .ok (.ifCond .eq 22, 3) := by decide +kernel
theorem dX10_luck_19 : decode cX10_luck 19 = .ok (.aload_n 0, 1) := by decide +kernel
theorem dX10_luck_20 : decode cX10_luck 20 = .ok (.iload_n 3, 1) := by decide +kernel
theorem dX10_luck_21 : decode cX10_luck 21 = .ok (.i2l, 1) := by decide +kernel
theorem dX10_luck_22 : decode cX10_luck 22 = .ok (.invokevirtual 222, 3) := by decide +kernel
theorem dX10_luck_25 : decode cX10_luck 25 = .ok (.ifCond .eq 13, 3) := by decide +kernel
theorem dX10_hang_0 : decode cX10_hang 0 = .ok (.aload_n 0, 1) := by decide +kernel
theorem dX10_hang_1 : decode cX10_hang 1 = .ok (.iload_n 1, 1) := by decide +kernel
theorem dX10_hang_2 : decode cX10_hang 2 = .ok (.invokevirtual 218, 3) := by decide +kernel
theorem dX10_hang_5 : decode cX10_hang 5 = .ok (.ifCond .eq 15, 3) := by decide +kernel
theorem dX10_hang_20 : decode cX10_hang 20 = .ok (.bipush (-2), 2) := by decide +kernel
theorem dX10_hang_22 : decode cX10_hang 22 = .ok (.ireturn, 1) := by decide +kernel
theorem dX10_count_0 : decode cX10_count 0 = .ok (.iload_n 1, 1) := by decide +kernel
theorem dX10_count_1 : decode cX10_count 1 = .ok (.i2l, 1) := by decide +kernel
theorem dX10_count_2 : decode cX10_count 2 = .ok (.lconst 0, 1) := by decide +kernel
theorem dX10_count_3 : decode cX10_count 3 = .ok (.ldc2_w 470, 3) := by decide +kernel
theorem dX10_count_6 : decode cX10_count 6 = .ok (.invokestatic 82, 3) := by decide +kernel
theorem dX10_count_9 : decode cX10_count 9 = .ok (.ifCond .eq 10, 3) := by decide +kernel
theorem dX10_count_12 : decode cX10_count 12 = .ok (.aload_n 0, 1) := by decide +kernel
theorem dX10_count_13 : decode cX10_count 13 = .ok (.getfield 9, 3) := by decide +kernel
theorem dX10_count_16 : decode cX10_count 16 = .ok (.iload_n 1, 1) := by decide +kernel
theorem dX10_count_17 : decode cX10_count 17 = .ok (.iaload, 1) := by decide +kernel
theorem dX10_count_18 : decode cX10_count 18 = .ok (.ireturn, 1) := by decide +kernel
theorem dX10_count_19 : decode cX10_count 19 = .ok (.iload_n 1, 1) := by decide +kernel
theorem dX10_count_20 : decode cX10_count 20 = .ok (.bipush 10, 2) := by decide +kernel
theorem dX10_count_22 : decode cX10_count 22 = .ok (.if_icmp .ne 8, 3) := by decide +kernel
theorem dX10_count_30 : decode cX10_count 30 = .ok (.iload_n 1, 1) := by decide +kernel
theorem dX10_count_31 : decode cX10_count 31 = .ok (.bipush 11, 2) := by decide +kernel
theorem dX10_count_33 : decode cX10_count 33 = .ok (.if_icmp .eq 5, 3) := by decide +kernel
theorem dX10_count_38 : decode cX10_count 38 = .ok (.iconst 0, 1) := by decide +kernel
theorem dX10_count_39 : decode cX10_count 39 = .ok (.istore_n 2, 1) := by decide +kernel
theorem dX10_count_40 : decode cX10_count 40 = .ok (.iconst 0, 1) := by decide +kernel
theorem dX10_count_41 : decode cX10_count 41 = .ok (.istore_n 3, 1) := by decide +kernel
theorem dX10_count_42 : decode cX10_count 42 = .ok (.iload_n 3, 1) := by decide +kernel
theorem dX10_count_43 : decode cX10_count 43 = .ok (.iconst 4, 1) := by decide +kernel
theorem dX10_count_44 : decode cX10_count 44 = .ok (.if_icmp .ge 27, 3) := by decide +kernel
theorem dX10_count_47 : decode cX10_count 47 = .ok (.iload_n 2, 1) := by decide +kernel
theorem dX10_count_48 : decode cX10_count 48 = .ok (.aload_n 0, 1) := by decide +kernel
theorem dX10_count_49 : decode cX10_count 49 = .ok (.getfield 64, 3) := by decide +kernel
theorem dX10_count_52 : decode cX10_count 52 = .ok (.iload_n 3, 1) := by decide +kernel
theorem dX10_count_53 : decode cX10_count 53 = .ok (.iaload, 1) := by decide +kernel
theorem dX10_count_54 : decode cX10_count 54 = .ok (.iconst (-1), 1) := by decide +kernel
theorem dX10_count_55 : decode cX10_count 55 = .ok (.if_icmp .ne 7, 3) := by decide +kernel
theorem dX10_count_58 : decode cX10_count 58 = .ok (.iconst 0, 1) := by decide +kernel
theorem dX10_count_59 : decode cX10_count 59 = .ok (.goto 4, 3) := by decide +kernel
theorem dX10_count_63 : decode cX10_count 63 = .ok (.iadd, 1) := by decide +kernel
theorem dX10_count_64 : decode cX10_count 64 = .ok (.istore_n 2, 1) := by decide +kernel
theorem dX10_count_65 : decode cX10_count 65 = .ok (.iinc 3 1, 3) := by decide +kernel
theorem dX10_count_68 : decode cX10_count 68 = .ok (.goto (-26), 3) := by decide +kernel
theorem dX10_count_71 : decode cX10_count 71 = .ok (.iload_n 2, 1) := by decide +kernel
theorem dX10_count_72 : decode cX10_count 72 = .ok (.ireturn, 1) := by decide +kernel
theorem dX10_count_36 : decode cX10_count 36 = .ok (.iconst (-1), 1) := by decide +kernel
theorem dX10_count_37 : decode cX10_count 37 = .ok (.ireturn, 1) := by decide +kernel
theorem dX10_count_25 : decode cX10_count 25 = .ok (.aload_n 0, 1) := by decide +kernel
theorem dX10_count_26 : decode cX10_count 26 = .ok (.getfield 90, 3) := by decide +kernel
theorem dX10_count_29 : decode cX10_count 29 = .ok (.ireturn, 1) := by decide +kernel
theorem dX10_image_0 : decode cX10_image 0 = .ok (.iload_n 1, 1) := by decide +kernel
theorem dX10_image_1 : decode cX10_image 1 = .ok (.i2l, 1) := by decide +kernel
theorem dX10_image_2 : decode cX10_image 2 = .ok (.lconst 0, 1) := by decide +kernel
theorem dX10_image_3 : decode cX10_image 3 = .ok (.ldc2_w 80, 3) := by decide +kernel
theorem dX10_image_6 : decode cX10_image 6 = .ok (.invokestatic 82, 3) := by decide +kernel
theorem dX10_image_9 : decode cX10_image 9 = .ok (.ifCond .ne 6, 3) := by decide +kernel
theorem dX10_image_15 : decode cX10_image 15 = .ok (.iconst 0, 1) := by decide +kernel
theorem dX10_image_16 : decode cX10_image 16 = .ok (.istore_n 2, 1) := by decide +kernel
theorem dX10_image_17 : decode cX10_image 17 = .ok (.iload_n 2, 1) := by decide +kernel
theorem dX10_image_18 : decode cX10_image 18 = .ok (.sipush 134, 3) := by decide +kernel
theorem dX10_image_21 : decode cX10_image 21 = .ok (.if_icmp .ge 27, 3) := by decide +kernel
theorem dX10_image_24 : decode cX10_image 24 = .ok (.aload_n 0, 1) := by decide +kernel
theorem dX10_image_25 : decode cX10_image 25 = .ok (.getfield 13, 3) := by decide +kernel
theorem dX10_image_28 : decode cX10_image 28 = .ok (.sipush 134, 3) := by decide +kernel
theorem dX10_image_31 : decode cX10_image 31 = .ok (.iload_n 1, 1) := by decide +kernel
theorem dX10_image_32 : decode cX10_image 32 = .ok (.imul, 1) := by decide +kernel
theorem dX10_image_33 : decode cX10_image 33 = .ok (.iload_n 2, 1) := by decide +kernel
theorem dX10_image_34 : decode cX10_image 34 = .ok (.iadd, 1) := by decide +kernel
theorem dX10_image_35 : decode cX10_image 35 = .ok (.aload_n 0, 1) := by decide +kernel
theorem dX10_image_36 : decode cX10_image 36 = .ok (.getfield 9, 3) := by decide +kernel
theorem dX10_image_39 : decode cX10_image 39 = .ok (.iload_n 2, 1) := by decide +kernel
theorem dX10_image_40 : decode cX10_image 40 = .ok (.iaload, 1) := by decide +kernel
theorem dX10_image_41 : decode cX10_image 41 = .ok (.iastore, 1) := by decide +kernel
theorem dX10_image_42 : decode cX10_image 42 = .ok (.iinc 2 1, 3) := by decide +kernel
theorem dX10_image_45 : decode cX10_image 45 = .ok (.goto (-28), 3) := by decide +kernel
theorem dX10_image_48 : decode cX10_image 48 = .ok (.aload_n 0, 1) := by decide +kernel
theorem dX10_image_49 : decode cX10_image 49 = .ok (.getfield 16, 3) := by decide +kernel
theorem dX10_image_52 : decode cX10_image 52 = .ok (.iload_n 1, 1) := by decide +kernel
theorem dX10_image_53 : decode cX10_image 53 = .ok (.iconst 1, 1) := by decide +kernel
theorem dX10_image_54 : decode cX10_image 54 = .ok (.bastore, 1) := by decide +kernel
theorem dX10_image_55 : decode cX10_image 55 = .ok (.iconst 0, 1) := by decide +kernel
theorem dX10_image_56 : decode cX10_image 56 = .ok (.ireturn, 1) := by decide +kernel
theorem dX10_image_12 : decode cX10_image 12 = .ok (.bipush (-2), 2) := by decide +kernel
theorem dX10_image_14 : decode cX10_image 14 = .ok (.ireturn, 1) := by decide +kernel
theorem dX10_back_0 : decode cX10_back 0 = .ok (.iload_n 1, 1) := by decide +kernel
theorem dX10_back_1 : decode cX10_back 1 = .ok (.i2l, 1) := by decide +kernel
theorem dX10_back_2 : decode cX10_back 2 = .ok (.lconst 0, 1) := by decide +kernel
theorem dX10_back_3 : decode cX10_back 3 = .ok (.ldc2_w 80, 3) := by decide +kernel
theorem dX10_back_6 : decode cX10_back 6 = .ok (.invokestatic 82, 3) := by decide +kernel
theorem dX10_back_9 : decode cX10_back 9 = .ok (.ifCond .ne 6, 3) := by decide +kernel
theorem dX10_back_15 : decode cX10_back 15 = .ok (.aload_n 0, 1) := by decide +kernel
theorem dX10_back_16 : decode cX10_back 16 = .ok (.getfield 16, 3) := by decide +kernel
theorem dX10_back_19 : decode cX10_back 19 = .ok (.iload_n 1, 1) := by decide +kernel
theorem dX10_back_20 : decode cX10_back 20 = .ok (.baload, 1) := by decide +kernel
theorem dX10_back_21 : decode cX10_back 21 = .ok (.ifCond .ne 6, 3) := by decide +kernel
theorem dX10_back_24 : decode cX10_back 24 = .ok (.bipush (-6), 2) := by decide +kernel
theorem dX10_back_26 : decode cX10_back 26 = .ok (.ireturn, 1) := by decide +kernel
theorem dX10_back_12 : decode cX10_back 12 = .ok (.bipush (-2), 2) := by decide +kernel
theorem dX10_back_14 : decode cX10_back 14 = .ok (.ireturn, 1) := by decide +kernel
theorem dX10_row_0 : decode cX10_row 0 = .ok (.iload_n 1, 1) := by decide +kernel
theorem dX10_row_1 : decode cX10_row 1 = .ok (.invokestatic 375, 3) := by decide +kernel
theorem dX10_row_4 : decode cX10_row 4 = .ok (.ifCond .eq 21, 3) := by decide +kernel
theorem dX10_row_7 : decode cX10_row 7 = .ok (.iload_n 2, 1) := by decide +kernel
theorem dX10_row_8 : decode cX10_row 8 = .ok (.i2l, 1) := by decide +kernel
theorem dX10_row_9 : decode cX10_row 9 = .ok (.lconst 0, 1) := by decide +kernel
theorem dX10_row_10 : decode cX10_row 10 = .ok (.ldc2_w 346, 3) := by decide +kernel
theorem dX10_row_13 : decode cX10_row 13 = .ok (.invokestatic 82, 3) := by decide +kernel
theorem dX10_row_16 : decode cX10_row 16 = .ok (.ifCond .eq 9, 3) := by decide +kernel
theorem dX10_row_19 : decode cX10_row 19 = .ok (.iload_n 3, 1) := by decide +kernel
theorem dX10_row_20 : decode cX10_row 20 = .ok (.bipush 60, 2) := by decide +kernel
theorem dX10_row_22 : decode cX10_row 22 = .ok (.if_icmp .le 6, 3) := by decide +kernel
theorem dX10_row_28 : decode cX10_row 28 = .ok (.iload_n 3, 1) := by decide +kernel
theorem dX10_row_29 : decode cX10_row 29 = .ok (.ifCond .ge 6, 3) := by decide +kernel
theorem dX10_row_35 : decode cX10_row 35 = .ok (.aload_n 0, 1) := by decide +kernel
theorem dX10_row_36 : decode cX10_row 36 = .ok (.getfield 64, 3) := by decide +kernel
theorem dX10_row_39 : decode cX10_row 39 = .ok (.iload_n 1, 1) := by decide +kernel
theorem dX10_row_40 : decode cX10_row 40 = .ok (.iload_n 3, 1) := by decide +kernel
theorem dX10_row_41 : decode cX10_row 41 = .ok (.iastore, 1) := by decide +kernel
theorem dX10_row_42 : decode cX10_row 42 = .ok (.aload_n 0, 1) := by decide +kernel
theorem dX10_row_43 : decode cX10_row 43 = .ok (.getfield 67, 3) := by decide +kernel
theorem dX10_row_46 : decode cX10_row 46 = .ok (.iload_n 1, 1) := by decide +kernel
theorem dX10_row_47 : decode cX10_row 47 = .ok (.iload_n 2, 1) := by decide +kernel
theorem dX10_row_48 : decode cX10_row 48 = .ok (.iastore, 1) := by decide +kernel
theorem dX10_row_49 : decode cX10_row 49 = .ok (.iconst 0, 1) := by decide +kernel
theorem dX10_row_50 : decode cX10_row 50 = .ok (.istore 4, 2) := by decide +kernel
theorem dX10_row_52 : decode cX10_row 52 = .ok (.iload 4, 2) := by decide +kernel
theorem dX10_row_54 : decode cX10_row 54 = .ok (.bipush 60, 2) := by decide +kernel
theorem dX10_row_56 : decode cX10_row 56 = .ok (.if_icmp .ge 22, 3) := by decide +kernel
theorem dX10_row_59 : decode cX10_row 59 = .ok (.aload_n 0, 1) := by decide +kernel
theorem dX10_row_60 : decode cX10_row 60 = .ok (.getfield 70, 3) := by decide +kernel
theorem dX10_row_63 : decode cX10_row 63 = .ok (.bipush 60, 2) := by decide +kernel
theorem dX10_row_65 : decode cX10_row 65 = .ok (.iload_n 1, 1) := by decide +kernel
theorem dX10_row_66 : decode cX10_row 66 = .ok (.imul, 1) := by decide +kernel
theorem dX10_row_67 : decode cX10_row 67 = .ok (.iload 4, 2) := by decide +kernel
theorem dX10_row_69 : decode cX10_row 69 = .ok (.iadd, 1) := by decide +kernel
theorem dX10_row_70 : decode cX10_row 70 = .ok (.lconst 0, 1) := by decide +kernel
theorem dX10_row_71 : decode cX10_row 71 = .ok (.lastore, 1) := by decide +kernel
theorem dX10_row_72 : decode cX10_row 72 = .ok (.iinc 4 1, 3) := by decide +kernel
theorem dX10_row_75 : decode cX10_row 75 = .ok (.goto (-23), 3) := by decide +kernel
theorem dX10_row_78 : decode cX10_row 78 = .ok (.iconst 0, 1) := by decide +kernel
theorem dX10_row_79 : decode cX10_row 79 = .ok (.ireturn, 1) := by decide +kernel
theorem dX10_row_32 : decode cX10_row 32 = .ok (.bipush (-3), 2) := by decide +kernel
theorem dX10_row_34 : decode cX10_row 34 = .ok (.ireturn, 1) := by decide +kernel
theorem dX10_row_25 : decode cX10_row 25 = .ok (.bipush (-2), 2) := by decide +kernel
theorem dX10_row_27 : decode cX10_row 27 = .ok (.ireturn, 1) := by decide +kernel
theorem dX10_write_0 : decode cX10_write 0 = .ok (.iload_n 1, 1) := by decide +kernel
theorem dX10_write_1 : decode cX10_write 1 = .ok (.invokestatic 375, 3) := by decide +kernel
theorem dX10_write_4 : decode cX10_write 4 = .ok (.ifCond .ne 6, 3) := by decide +kernel
theorem dX10_write_10 : decode cX10_write 10 = .ok (.aload_n 0, 1) := by decide +kernel
theorem dX10_write_11 : decode cX10_write 11 = .ok (.getfield 64, 3) := by decide +kernel
theorem dX10_write_14 : decode cX10_write 14 = .ok (.iload_n 1, 1) := by decide +kernel
theorem dX10_write_15 : decode cX10_write 15 = .ok (.iaload, 1) := by decide +kernel
theorem dX10_write_16 : decode cX10_write 16 = .ok (.iconst (-1), 1) := by decide +kernel
theorem dX10_write_17 : decode cX10_write 17 = .ok (.if_icmp .ne 6, 3) := by decide +kernel
theorem dX10_write_20 : decode cX10_write 20 = .ok (.bipush (-6), 2) := by decide +kernel
theorem dX10_write_22 : decode cX10_write 22 = .ok (.ireturn, 1) := by decide +kernel
theorem dX10_write_7 : decode cX10_write 7 = .ok (.bipush (-2), 2) := by decide +kernel
theorem dX10_write_9 : decode cX10_write 9 = .ok (.ireturn, 1) := by decide +kernel
theorem dX10_paste_0 : decode cX10_paste 0 = .ok (.iload_n 1, 1) := by decide +kernel
theorem dX10_paste_1 : decode cX10_paste 1 = .ok (.invokestatic 375, 3) := by decide +kernel
theorem dX10_paste_4 : decode cX10_paste 4 = .ok (.ifCond .eq 10, 3) := by decide +kernel
theorem dX10_paste_7 : decode cX10_paste 7 = .ok (.iload_n 3, 1) := by decide +kernel
theorem dX10_paste_8 : decode cX10_paste 8 = .ok (.invokestatic 375, 3) := by decide +kernel
theorem dX10_paste_11 : decode cX10_paste 11 = .ok (.ifCond .ne 6, 3) := by decide +kernel
theorem dX10_paste_17 : decode cX10_paste 17 = .ok (.aload_n 0, 1) := by decide +kernel
theorem dX10_paste_18 : decode cX10_paste 18 = .ok (.getfield 64, 3) := by decide +kernel
theorem dX10_paste_21 : decode cX10_paste 21 = .ok (.iload_n 1, 1) := by decide +kernel
theorem dX10_paste_22 : decode cX10_paste 22 = .ok (.iaload, 1) := by decide +kernel
theorem dX10_paste_23 : decode cX10_paste 23 = .ok (.iconst (-1), 1) := by decide +kernel
theorem dX10_paste_24 : decode cX10_paste 24 = .ok (.if_icmp .eq 13, 3) := by decide +kernel
theorem dX10_paste_37 : decode cX10_paste 37 = .ok (.bipush (-6), 2) := by decide +kernel
theorem dX10_paste_39 : decode cX10_paste 39 = .ok (.ireturn, 1) := by decide +kernel
theorem dX10_paste_14 : decode cX10_paste 14 = .ok (.bipush (-2), 2) := by decide +kernel
theorem dX10_paste_16 : decode cX10_paste 16 = .ok (.ireturn, 1) := by decide +kernel
