theorem dX9_feed_0 : decode cX9_feed 0 = .ok (.aload_n 0, 1) := by decide +kernel
theorem dX9_feed_1 : decode cX9_feed 1 = .ok (.getfield 13, 3) := by decide +kernel
theorem dX9_feed_4 : decode cX9_feed 4 = .ok (.sipush 980, 3) := by decide +kernel
theorem dX9_feed_7 : decode cX9_feed 7 = .ok (.if_icmp .le 5, 3) := by decide +kernel
theorem dX9_feed_12 : decode cX9_feed 12 = .ok (.aload_n 0, 1) := by decide +kernel
theorem dX9_feed_13 : decode cX9_feed 13 = .ok (.iload_n 1, 1) := by decide +kernel
theorem dX9_feed_14 : decode cX9_feed 14 = .ok (.invokevirtual 93, 3) := by decide +kernel
theorem dX9_appendFour_0 : decode cX9_appendFour 0 = .ok (.bipush 24, 2) := by decide +kernel
theorem dX9_appendFour_2 : decode cX9_appendFour 2 = .ok (.istore_n 2, 1) := by decide +kernel
theorem dX9_appendFour_3 : decode cX9_appendFour 3 = .ok (.iload_n 2, 1) := by decide +kernel
theorem dX9_appendFour_4 : decode cX9_appendFour 4 = .ok (.ifCond .lt 51, 3) := by decide +kernel
theorem dX9_appendFour_7 : decode cX9_appendFour 7 = .ok (.aload_n 0, 1) := by decide +kernel
theorem dX9_appendFour_8 : decode cX9_appendFour 8 = .ok (.getfield 13, 3) := by decide +kernel
theorem dX9_appendFour_11 : decode cX9_appendFour 11 = .ok (.ifCond .lt 38, 3) := by decide +kernel
theorem dX9_appendFour_14 : decode cX9_appendFour 14 = .ok (.aload_n 0, 1) := by decide +kernel
theorem dX9_appendFour_15 : decode cX9_appendFour 15 = .ok (.getfield 13, 3) := by decide +kernel
theorem dX9_appendFour_18 : decode cX9_appendFour 18 = .ok (.aload_n 0, 1) := by decide +kernel
theorem dX9_appendFour_19 : decode cX9_appendFour 19 = .ok (.getfield 9, 3) := by decide +kernel
theorem dX9_appendFour_22 : decode cX9_appendFour 22 = .ok (.arraylength, 1) := by decide +kernel
theorem dX9_appendFour_23 : decode cX9_appendFour 23 = .ok (.if_icmp .ge 26, 3) := by decide +kernel
theorem dX9_appendFour_49 : decode cX9_appendFour 49 = .ok (.iinc 2 (-8), 3) := by decide +kernel
theorem dX9_appendFour_52 : decode cX9_appendFour 52 = .ok (.goto (-49), 3) := by decide +kernel
theorem dX9_appendFour_26 : decode cX9_appendFour 26 = .ok (.aload_n 0, 1) := by decide +kernel
theorem dX9_appendFour_27 : decode cX9_appendFour 27 = .ok (.getfield 9, 3) := by decide +kernel
theorem dX9_appendFour_30 : decode cX9_appendFour 30 = .ok (.aload_n 0, 1) := by decide +kernel
theorem dX9_appendFour_31 : decode cX9_appendFour 31 = .ok (.getfield 13, 3) := by decide +kernel
theorem dX9_appendFour_34 : decode cX9_appendFour 34 = .ok (.iload_n 1, 1) := by decide +kernel
theorem dX9_appendFour_35 : decode cX9_appendFour 35 = .ok (.iload_n 2, 1) := by decide +kernel
theorem dX9_appendFour_36 : decode cX9_appendFour 36 = .ok (.iushr, 1) := by decide +kernel
theorem dX9_appendFour_37 : decode cX9_appendFour 37 = .ok (.i2b, 1) := by decide +kernel
theorem dX9_appendFour_38 : decode cX9_appendFour 38 = .ok (.bastore, 1) := by decide +kernel
theorem dX9_appendFour_39 : decode cX9_appendFour 39 = .ok (.aload_n 0, 1) := by decide +kernel
theorem dX9_appendFour_40 : decode cX9_appendFour 40 = .ok (.dup, 1) := by decide +kernel
theorem dX9_appendFour_41 : decode cX9_appendFour 41 = .ok (.getfield 13, 3) := by decide +kernel
theorem dX9_appendFour_44 : decode cX9_appendFour 44 = .ok (.iconst 1, 1) := by decide +kernel
theorem dX9_appendFour_45 : decode cX9_appendFour 45 = .ok (.iadd, 1) := by decide +kernel
theorem dX9_appendFour_46 : decode cX9_appendFour 46 = .ok (.putfield 13, 3) := by decide +kernel
theorem dX9_appendFour_55 : decode cX9_appendFour 55 = .ok (.return_, 1) := by decide +kernel
theorem dX9_feed_17 : decode cX9_feed 17 = .ok (.aload_n 0, 1) := by decide +kernel
theorem dX9_feed_18 : decode cX9_feed 18 = .ok (.iload_n 2, 1) := by decide +kernel
theorem dX9_feed_19 : decode cX9_feed 19 = .ok (.invokevirtual 93, 3) := by decide +kernel
theorem dX9_feed_22 : decode cX9_feed 22 = .ok (.aload_n 0, 1) := by decide +kernel
theorem dX9_feed_23 : decode cX9_feed 23 = .ok (.iload_n 3, 1) := by decide +kernel
theorem dX9_feed_24 : decode cX9_feed 24 = .ok (.invokevirtual 93, 3) := by decide +kernel
theorem dX9_feed_27 : decode cX9_feed 27 = .ok (.aload_n 0, 1) := by decide +kernel
theorem dX9_feed_28 : decode cX9_feed 28 = .ok (.iload 4, 2) := by decide +kernel
theorem dX9_feed_30 : decode cX9_feed 30 = .ok (.invokevirtual 93, 3) := by decide +kernel
theorem dX9_feed_33 : decode cX9_feed 33 = .ok (.aload_n 0, 1) := by decide +kernel
theorem dX9_feed_34 : decode cX9_feed 34 = .ok (.iload 5, 2) := by decide +kernel
theorem dX9_feed_36 : decode cX9_feed 36 = .ok (.invokevirtual 93, 3) := by decide +kernel
theorem dX9_feed_39 : decode cX9_feed 39 = .ok (.aload_n 0, 1) := by decide +kernel
theorem dX9_feed_40 : decode cX9_feed 40 = .ok (.getfield 13, 3) := by decide +kernel
theorem dX9_feed_43 : decode cX9_feed 43 = .ok (.ireturn, 1) := by decide +kernel
theorem dX9_feed_10 : decode cX9_feed 10 = .ok (.iconst (-1), 1) := by decide +kernel
theorem dX9_feed_11 : decode cX9_feed 11 = .ok (.ireturn, 1) := by decide +kernel
theorem dX9_end_0 : decode cX9_end 0 = .ok (.iload_n 1, 1) := by decide +kernel
theorem dX9_end_1 : decode cX9_end 1 = .ok (.ifCond .lt 11, 3) := by decide +kernel
theorem dX9_end_12 : decode cX9_end 12 = .ok (.iconst (-1), 1) := by decide +kernel
theorem dX9_end_13 : decode cX9_end 13 = .ok (.ireturn, 1) := by decide +kernel
theorem dX9_end_4 : decode cX9_end 4 = .ok (.iload_n 1, 1) := by decide +kernel
theorem dX9_end_5 : decode cX9_end 5 = .ok (.aload_n 0, 1) := by decide +kernel
theorem dX9_end_6 : decode cX9_end 6 = .ok (.getfield 13, 3) := by decide +kernel
theorem dX9_end_9 : decode cX9_end 9 = .ok (.if_icmp .le 5, 3) := by decide +kernel
theorem dX9_end_14 : decode cX9_end 14 = .ok (.aload_n 0, 1) := by decide +kernel
theorem dX9_end_15 : decode cX9_end 15 = .ok (.iload_n 1, 1) := by decide +kernel
theorem dX9_end_16 : decode cX9_end 16 = .ok (.putfield 13, 3) := by decide +kernel
theorem dX9_end_19 : decode cX9_end 19 = .ok (.iload_n 1, 1) := by decide +kernel
theorem dX9_end_20 : decode cX9_end 20 = .ok (.ireturn, 1) := by decide +kernel
theorem dX9_fault_0 : decode cX9_fault 0 = .ok (.iload_n 1, 1) := by decide +kernel
theorem dX9_fault_1 : decode cX9_fault 1 = .ok (.ifCond .ne 11, 3) := by decide +kernel
theorem dX9_fault_12 : decode cX9_fault 12 = .ok (.iload_n 1, 1) := by decide +kernel
theorem dX9_fault_13 : decode cX9_fault 13 = .ok (.iconst 1, 1) := by decide +kernel
theorem dX9_fault_14 : decode cX9_fault 14 = .ok (.if_icmp .ne 13, 3) := by decide +kernel
theorem dX9_fault_27 : decode cX9_fault 27 = .ok (.iconst (-1), 1) := by decide +kernel
theorem dX9_fault_28 : decode cX9_fault 28 = .ok (.ireturn, 1) := by decide +kernel
theorem dX9_fault_17 : decode cX9_fault 17 = .ok (.aload_n 0, 1) := by decide +kernel
theorem dX9_fault_18 : decode cX9_fault 18 = .ok (.getfield 32, 3) := by decide +kernel
theorem dX9_fault_21 : decode cX9_fault 21 = .ok (.getfield 113, 3) := by decide +kernel
theorem dX9_fault_24 : decode cX9_fault 24 = .ok (.goto 4, 3) := by decide +kernel
theorem dX9_fault_4 : decode cX9_fault 4 = .ok (.aload_n 0, 1) := by decide +kernel
theorem dX9_fault_5 : decode cX9_fault 5 = .ok (.getfield 32, 3) := by decide +kernel
theorem dX9_fault_8 : decode cX9_fault 8 = .ok (.getfield 100, 3) := by decide +kernel
theorem dX9_fault_11 : decode cX9_fault 11 = .ok (.ireturn, 1) := by decide +kernel
theorem dX9_door_0 : decode cX9_door 0 = .ok (.aload_n 0, 1) := by decide +kernel
theorem dX9_door_1 : decode cX9_door 1 = .ok (.getfield 20, 3) := by decide +kernel
theorem dX9_door_4 : decode cX9_door 4 = .ok (.getfield 119, 3) := by decide +kernel
theorem dX9_door_7 : decode cX9_door 7 = .ok (.iload_n 1, 1) := by decide +kernel
theorem dX9_door_8 : decode cX9_door 8 = .ok (.iload_n 2, 1) := by decide +kernel
theorem dX9_door_9 : decode cX9_door 9 = .ok (.invokevirtual 123, 3) := by decide +kernel
theorem dX8_hasCell_0 : decode cX8_hasCell 0 = .ok (.iload_n 1, 1) := by decide +kernel
theorem dX8_hasCell_1 : decode cX8_hasCell 1 = .ok (.ifCond .lt 27, 3) := by decide +kernel
theorem dX8_hasCell_28 : decode cX8_hasCell 28 = .ok (.iconst 0, 1) := by decide +kernel
theorem dX8_hasCell_29 : decode cX8_hasCell 29 = .ok (.ireturn, 1) := by decide +kernel
theorem dX8_hasCell_4 : decode cX8_hasCell 4 = .ok (.iload_n 1, 1) := by decide +kernel
theorem dX8_hasCell_5 : decode cX8_hasCell 5 = .ok (.aload_n 0, 1) := by decide +kernel
theorem dX8_hasCell_6 : decode cX8_hasCell 6 = .ok (.getfield 28, 3) := by decide +kernel
theorem dX8_hasCell_9 : decode cX8_hasCell 9 = .ok (.if_icmp .ge 19, 3) := by decide +kernel
theorem dX8_hasCell_12 : decode cX8_hasCell 12 = .ok (.iload_n 2, 1) := by decide +kernel
theorem dX8_hasCell_13 : decode cX8_hasCell 13 = .ok (.ifCond .lt 15, 3) := by decide +kernel
theorem dX8_hasCell_16 : decode cX8_hasCell 16 = .ok (.iload_n 2, 1) := by decide +kernel
theorem dX8_hasCell_17 : decode cX8_hasCell 17 = .ok (.aload_n 0, 1) := by decide +kernel
theorem dX8_hasCell_18 : decode cX8_hasCell 18 = .ok (.getfield 21, 3) := by decide +kernel
theorem dX8_hasCell_21 : decode cX8_hasCell 21 = .ok (.if_icmp .ge 7, 3) := by decide +kernel
theorem dX8_hasCell_24 : decode cX8_hasCell 24 = .ok (.iconst 1, 1) := by decide +kernel
theorem dX8_hasCell_25 : decode cX8_hasCell 25 = .ok (.goto 4, 3) := by decide +kernel
theorem dX9_door_12 : decode cX9_door 12 = .ok (.ifCond .eq 18, 3) := by decide +kernel
theorem dX9_door_30 : decode cX9_door 30 = .ok (.bipush (-2), 2) := by decide +kernel
theorem dX9_door_32 : decode cX9_door 32 = .ok (.ireturn, 1) := by decide +kernel
theorem dX9_door_15 : decode cX9_door 15 = .ok (.aload_n 0, 1) := by decide +kernel
theorem dX9_door_16 : decode cX9_door 16 = .ok (.getfield 20, 3) := by decide +kernel
theorem dX9_door_19 : decode cX9_door 19 = .ok (.getfield 119, 3) := by decide +kernel
theorem dX9_door_22 : decode cX9_door 22 = .ok (.iload_n 1, 1) := by decide +kernel
theorem dX9_door_23 : decode cX9_door 23 = .ok (.iload_n 2, 1) := by decide +kernel
theorem dX9_door_24 : decode cX9_door 24 = .ok (.invokevirtual 129, 3) := by decide +kernel
theorem dX8_cell_0 : decode cX8_cell 0 = .ok (.aload_n 0, 1) := by decide +kernel
theorem dX8_cell_1 : decode cX8_cell 1 = .ok (.iload_n 1, 1) := by decide +kernel
theorem dX8_cell_2 : decode cX8_cell 2 = .ok (.iload_n 2, 1) := by decide +kernel
theorem dX8_cell_3 : decode cX8_cell 3 = .ok (.invokevirtual 31, 3) := by decide +kernel
theorem dX8_cell_6 : decode cX8_cell 6 = .ok (.ifCond .eq 19, 3) := by decide +kernel
theorem dX8_cell_25 : decode cX8_cell 25 = .ok (.iconst (-1), 1) := by decide +kernel
theorem dX8_cell_26 : decode cX8_cell 26 = .ok (.ireturn, 1) := by decide +kernel
theorem dX8_cell_9 : decode cX8_cell 9 = .ok (.aload_n 0, 1) := by decide +kernel
theorem dX8_cell_10 : decode cX8_cell 10 = .ok (.getfield 24, 3) := by decide +kernel
theorem dX8_cell_13 : decode cX8_cell 13 = .ok (.iload_n 1, 1) := by decide +kernel
theorem dX8_cell_14 : decode cX8_cell 14 = .ok (.aload_n 0, 1) := by decide +kernel
theorem dX8_cell_15 : decode cX8_cell 15 = .ok (.getfield 21, 3) := by decide +kernel
theorem dX8_cell_18 : decode cX8_cell 18 = .ok (.imul, 1) := by decide +kernel
theorem dX8_cell_19 : decode cX8_cell 19 = .ok (.iload_n 2, 1) := by decide +kernel
theorem dX8_cell_20 : decode cX8_cell 20 = .ok (.iadd, 1) := by decide +kernel
theorem dX8_cell_21 : decode cX8_cell 21 = .ok (.iaload, 1) := by decide +kernel
theorem dX8_cell_22 : decode cX8_cell 22 = .ok (.goto 4, 3) := by decide +kernel
theorem dX9_door_27 : decode cX9_door 27 = .ok (.goto 5, 3) := by decide +kernel
theorem dX9_lady_0 : decode cX9_lady 0 = .ok (.aload_n 0, 1) := by decide +kernel
theorem dX9_lady_1 : decode cX9_lady 1 = .ok (.getfield 20, 3) := by decide +kernel
theorem dX9_lady_4 : decode cX9_lady 4 = .ok (.getfield 133, 3) := by decide +kernel
theorem dX9_lady_7 : decode cX9_lady 7 = .ok (.iload_n 1, 1) := by decide +kernel
theorem dX9_lady_8 : decode cX9_lady 8 = .ok (.iload_n 2, 1) := by decide +kernel
theorem dX9_lady_9 : decode cX9_lady 9 = .ok (.invokevirtual 123, 3) := by decide +kernel
theorem dX9_lady_12 : decode cX9_lady 12 = .ok (.ifCond .eq 18, 3) := by decide +kernel
theorem dX9_lady_30 : decode cX9_lady 30 = .ok (.bipush (-2), 2) := by decide +kernel
theorem dX9_lady_32 : decode cX9_lady 32 = .ok (.ireturn, 1) := by decide +kernel
theorem dX9_lady_15 : decode cX9_lady 15 = .ok (.aload_n 0, 1) := by decide +kernel
theorem dX9_lady_16 : decode cX9_lady 16 = .ok (.getfield 20, 3) := by decide +kernel
theorem dX9_lady_19 : decode cX9_lady 19 = .ok (.getfield 133, 3) := by decide +kernel
theorem dX9_lady_22 : decode cX9_lady 22 = .ok (.iload_n 1, 1) := by decide +kernel
theorem dX9_lady_23 : decode cX9_lady 23 = .ok (.iload_n 2, 1) := by decide +kernel
theorem dX9_lady_24 : decode cX9_lady 24 = .ok (.invokevirtual 129, 3) := by decide +kernel
theorem dX9_lady_27 : decode cX9_lady 27 = .ok (.goto 5, 3) := by decide +kernel
theorem dX9_minister_0 : decode cX9_minister 0 = .ok (.aload_n 0, 1) := by decide +kernel
theorem dX9_minister_1 : decode cX9_minister 1 = .ok (.getfield 20, 3) := by decide +kernel
theorem dX9_minister_4 : decode cX9_minister 4 = .ok (.getfield 136, 3) := by decide +kernel
theorem dX9_minister_7 : decode cX9_minister 7 = .ok (.iload_n 1, 1) := by decide +kernel
theorem dX9_minister_8 : decode cX9_minister 8 = .ok (.iload_n 2, 1) := by decide +kernel
theorem dX9_minister_9 : decode cX9_minister 9 = .ok (.invokevirtual 123, 3) := by decide +kernel
theorem dX9_minister_12 : decode cX9_minister 12 = .ok (.ifCond .eq 18, 3) := by decide +kernel
theorem dX9_minister_30 : decode cX9_minister 30 = .ok (.bipush (-2), 2) := by decide +kernel
theorem dX9_minister_32 : decode cX9_minister 32 = .ok (.ireturn, 1) := by decide +kernel
theorem dX9_minister_15 : decode cX9_minister 15 = .ok (.aload_n 0, 1) := by decide +kernel
theorem dX9_minister_16 : decode cX9_minister 16 = .ok (.getfield 20, 3) := by decide +kernel
theorem dX9_minister_19 : decode cX9_minister 19 = .ok (.getfield 136, 3) := by decide +kernel
theorem dX9_minister_22 : decode cX9_minister 22 = .ok (.iload_n 1, 1) := by decide +kernel
theorem dX9_minister_23 : decode cX9_minister 23 = .ok (.iload_n 2, 1) := by decide +kernel
theorem dX9_minister_24 : decode cX9_minister 24 = .ok (.invokevirtual 129, 3) := by decide +kernel
theorem dX9_minister_27 : decode cX9_minister 27 = .ok (.goto 5, 3) := by decide +kernel
theorem dX9_way_0 : decode cX9_way 0 = .ok (.aload_n 0, 1) := by decide +kernel
theorem dX9_way_1 : decode cX9_way 1 = .ok (.getfield 20, 3) := by decide +kernel
theorem dX9_way_4 : decode cX9_way 4 = .ok (.iload_n 1, 1) := by decide +kernel
theorem dX9_way_5 : decode cX9_way 5 = .ok (.invokevirtual 139, 3) := by decide +kernel
theorem dX0_hasLady_0 : decode cX0_hasLady 0 = .ok (.aload_n 0, 1) := by decide +kernel
theorem dX0_hasLady_1 : decode cX0_hasLady 1 = .ok (.getfield 20, 3) := by decide +kernel
theorem dX0_hasLady_4 : decode cX0_hasLady 4 = .ok (.iload_n 1, 1) := by decide +kernel
theorem dX0_hasLady_5 : decode cX0_hasLady 5 = .ok (.invokevirtual 55, 3) := by decide +kernel
theorem dX8_has_0 : decode cX8_has 0 = .ok (.iload_n 1, 1) := by decide +kernel
theorem dX8_has_1 : decode cX8_has 1 = .ok (.ifCond .lt 15, 3) := by decide +kernel
theorem dX8_has_16 : decode cX8_has 16 = .ok (.iconst 0, 1) := by decide +kernel
theorem dX8_has_17 : decode cX8_has 17 = .ok (.ireturn, 1) := by decide +kernel
theorem dX8_has_4 : decode cX8_has 4 = .ok (.iload_n 1, 1) := by decide +kernel
theorem dX8_has_5 : decode cX8_has 5 = .ok (.aload_n 0, 1) := by decide +kernel
theorem dX8_has_6 : decode cX8_has 6 = .ok (.getfield 28, 3) := by decide +kernel
theorem dX8_has_9 : decode cX8_has 9 = .ok (.if_icmp .ge 7, 3) := by decide +kernel
theorem dX8_has_12 : decode cX8_has 12 = .ok (.iconst 1, 1) := by decide +kernel
theorem dX8_has_13 : decode cX8_has 13 = .ok (.goto 4, 3) := by decide +kernel
theorem dX0_hasLady_8 : decode cX0_hasLady 8 = .ok (.ireturn, 1) := by decide +kernel
theorem dX9_way_8 : decode cX9_way 8 = .ok (.ifCond .eq 25, 3) := by decide +kernel
theorem dX9_way_33 : decode cX9_way 33 = .ok (.bipush (-2), 2) := by decide +kernel
theorem dX9_way_35 : decode cX9_way 35 = .ok (.ireturn, 1) := by decide +kernel
theorem dX9_way_11 : decode cX9_way 11 = .ok (.aload_n 0, 1) := by decide +kernel
theorem dX9_way_12 : decode cX9_way 12 = .ok (.getfield 20, 3) := by decide +kernel
theorem dX9_way_15 : decode cX9_way 15 = .ok (.iload_n 2, 1) := by decide +kernel
theorem dX9_way_16 : decode cX9_way 16 = .ok (.invokevirtual 143, 3) := by decide +kernel
theorem dX0_hasRoom_0 : decode cX0_hasRoom 0 = .ok (.iload_n 1, 1) := by decide +kernel
theorem dX0_hasRoom_1 : decode cX0_hasRoom 1 = .ok (.ifCond .lt 15, 3) := by decide +kernel
theorem dX0_hasRoom_16 : decode cX0_hasRoom 16 = .ok (.iconst 0, 1) := by decide +kernel
theorem dX0_hasRoom_17 : decode cX0_hasRoom 17 = .ok (.ireturn, 1) := by decide +kernel
theorem dX0_hasRoom_4 : decode cX0_hasRoom 4 = .ok (.iload_n 1, 1) := by decide +kernel
theorem dX0_hasRoom_5 : decode cX0_hasRoom 5 = .ok (.aload_n 0, 1) := by decide +kernel
theorem dX0_hasRoom_6 : decode cX0_hasRoom 6 = .ok (.getfield 36, 3) := by decide +kernel
theorem dX0_hasRoom_9 : decode cX0_hasRoom 9 = .ok (.if_icmp .ge 7, 3) := by decide +kernel
theorem dX0_hasRoom_12 : decode cX0_hasRoom 12 = .ok (.iconst 1, 1) := by decide +kernel
theorem dX0_hasRoom_13 : decode cX0_hasRoom 13 = .ok (.goto 4, 3) := by decide +kernel
theorem dX9_way_19 : decode cX9_way 19 = .ok (.ifCond .eq 14, 3) := by decide +kernel
theorem dX9_way_22 : decode cX9_way 22 = .ok (.aload_n 0, 1) := by decide +kernel
theorem dX9_way_23 : decode cX9_way 23 = .ok (.getfield 20, 3) := by decide +kernel
theorem dX9_way_26 : decode cX9_way 26 = .ok (.iload_n 3, 1) := by decide +kernel
theorem dX9_way_27 : decode cX9_way 27 = .ok (.invokevirtual 143, 3) := by decide +kernel
theorem dX9_way_30 : decode cX9_way 30 = .ok (.ifCond .ne 6, 3) := by decide +kernel
theorem dX9_way_36 : decode cX9_way 36 = .ok (.aload_n 0, 1) := by decide +kernel
theorem dX9_way_37 : decode cX9_way 37 = .ok (.getfield 54, 3) := by decide +kernel
theorem dX9_way_40 : decode cX9_way 40 = .ok (.iload_n 1, 1) := by decide +kernel
theorem dX9_way_41 : decode cX9_way 41 = .ok (.iload_n 2, 1) := by decide +kernel
theorem dX9_way_42 : decode cX9_way 42 = .ok (.iload_n 3, 1) := by decide +kernel
theorem dX9_way_43 : decode cX9_way 43 = .ok (.invokevirtual 146, 3) := by decide +kernel
theorem dX2_distance_0 : decode cX2_distance 0 = .ok (.iconst 1, 1) := by decide +kernel
theorem dX2_distance_1 : decode cX2_distance 1 = .ok (.iload_n 2, 1) := by decide +kernel
theorem dX2_distance_2 : decode cX2_distance 2 = .ok (.ishl, 1) := by decide +kernel
theorem dX2_distance_3 : decode cX2_distance 3 = .ok (.istore 4, 2) := by decide +kernel
theorem dX2_distance_5 : decode cX2_distance 5 = .ok (.iconst 0, 1) := by decide +kernel
theorem dX2_distance_6 : decode cX2_distance 6 = .ok (.istore 5, 2) := by decide +kernel
theorem dX2_distance_8 : decode cX2_distance 8 = .ok (.iload 5, 2) := by decide +kernel
theorem dX2_distance_10 : decode cX2_distance 10 = .ok (.aload_n 0, 1) := by decide +kernel
theorem dX2_distance_11 : decode cX2_distance 11 = .ok (.getfield 63, 3) := by decide +kernel
theorem dX2_distance_14 : decode cX2_distance 14 = .ok (.if_icmp .ge 30, 3) := by decide +kernel
theorem dX2_distance_44 : decode cX2_distance 44 = .ok (.iconst (-1), 1) := by decide +kernel
theorem dX2_distance_45 : decode cX2_distance 45 = .ok (.ireturn, 1) := by decide +kernel
theorem dX2_distance_17 : decode cX2_distance 17 = .ok (.iload 4, 2) := by decide +kernel
theorem dX2_distance_19 : decode cX2_distance 19 = .ok (.iload_n 3, 1) := by decide +kernel
theorem dX2_distance_20 : decode cX2_distance 20 = .ok (.invokestatic 123, 3) := by decide +kernel
theorem dX9_hasBit_0 : decode cX9_hasBit 0 = .ok (.iload_n 1, 1) := by decide +kernel
theorem dX9_hasBit_1 : decode cX9_hasBit 1 = .ok (.ifCond .lt 21, 3) := by decide +kernel
theorem dX9_hasBit_22 : decode cX9_hasBit 22 = .ok (.iconst 0, 1) := by decide +kernel
theorem dX9_hasBit_23 : decode cX9_hasBit 23 = .ok (.ireturn, 1) := by decide +kernel
theorem dX9_hasBit_4 : decode cX9_hasBit 4 = .ok (.iload_n 1, 1) := by decide +kernel
theorem dX9_hasBit_5 : decode cX9_hasBit 5 = .ok (.bipush 32, 2) := by decide +kernel
theorem dX9_hasBit_7 : decode cX9_hasBit 7 = .ok (.if_icmp .ge 15, 3) := by decide +kernel
theorem dX9_hasBit_10 : decode cX9_hasBit 10 = .ok (.iload_n 0, 1) := by decide +kernel
theorem dX9_hasBit_11 : decode cX9_hasBit 11 = .ok (.iload_n 1, 1) := by decide +kernel
theorem dX9_hasBit_12 : decode cX9_hasBit 12 = .ok (.iushr, 1) := by decide +kernel
theorem dX9_hasBit_13 : decode cX9_hasBit 13 = .ok (.iconst 1, 1) := by decide +kernel
theorem dX9_hasBit_14 : decode cX9_hasBit 14 = .ok (.iand, 1) := by decide +kernel
theorem dX9_hasBit_15 : decode cX9_hasBit 15 = .ok (.ifCond .eq 7, 3) := by decide +kernel
theorem dX9_hasBit_18 : decode cX9_hasBit 18 = .ok (.iconst 1, 1) := by decide +kernel
theorem dX9_hasBit_19 : decode cX9_hasBit 19 = .ok (.goto 4, 3) := by decide +kernel
theorem dX2_distance_23 : decode cX2_distance 23 = .ok (.ifCond .eq 6, 3) := by decide +kernel
theorem dX2_distance_29 : decode cX2_distance 29 = .ok (.aload_n 0, 1) := by decide +kernel
theorem dX2_distance_30 : decode cX2_distance 30 = .ok (.iload_n 1, 1) := by decide +kernel
theorem dX2_distance_31 : decode cX2_distance 31 = .ok (.iload 4, 2) := by decide +kernel
theorem dX2_distance_33 : decode cX2_distance 33 = .ok (.invokevirtual 108, 3) := by decide +kernel
theorem dX2_spread_0 : decode cX2_spread 0 = .ok (.iconst 0, 1) := by decide +kernel
theorem dX2_spread_1 : decode cX2_spread 1 = .ok (.istore_n 3, 1) := by decide +kernel
theorem dX2_spread_2 : decode cX2_spread 2 = .ok (.iconst 0, 1) := by decide +kernel
theorem dX2_spread_3 : decode cX2_spread 3 = .ok (.istore 4, 2) := by decide +kernel
theorem dX2_spread_5 : decode cX2_spread 5 = .ok (.iload 4, 2) := by decide +kernel
theorem dX2_spread_7 : decode cX2_spread 7 = .ok (.aload_n 0, 1) := by decide +kernel
theorem dX2_spread_8 : decode cX2_spread 8 = .ok (.getfield 63, 3) := by decide +kernel
theorem dX2_spread_11 : decode cX2_spread 11 = .ok (.if_icmp .ge 28, 3) := by decide +kernel
theorem dX2_spread_39 : decode cX2_spread 39 = .ok (.iload_n 3, 1) := by decide +kernel
theorem dX2_spread_40 : decode cX2_spread 40 = .ok (.ireturn, 1) := by decide +kernel
theorem dX2_spread_14 : decode cX2_spread 14 = .ok (.iload_n 2, 1) := by decide +kernel
theorem dX2_spread_15 : decode cX2_spread 15 = .ok (.iload 4, 2) := by decide +kernel
theorem dX2_spread_17 : decode cX2_spread 17 = .ok (.invokestatic 123, 3) := by decide +kernel
theorem dX2_spread_20 : decode cX2_spread 20 = .ok (.ifCond .eq 13, 3) := by decide +kernel
theorem dX2_spread_33 : decode cX2_spread 33 = .ok (.iinc 4 1, 3) := by decide +kernel
theorem dX2_spread_36 : decode cX2_spread 36 = .ok (.goto (-31), 3) := by decide +kernel
theorem dX2_spread_23 : decode cX2_spread 23 = .ok (.iload_n 3, 1) := by decide +kernel
theorem dX2_spread_24 : decode cX2_spread 24 = .ok (.aload_n 0, 1) := by decide +kernel
theorem dX2_spread_25 : decode cX2_spread 25 = .ok (.iload_n 1, 1) := by decide +kernel
theorem dX2_spread_26 : decode cX2_spread 26 = .ok (.iload 4, 2) := by decide +kernel
theorem dX2_spread_28 : decode cX2_spread 28 = .ok (.invokevirtual 101, 3) := by decide +kernel
theorem dX2_stepsFrom_0 : decode cX2_stepsFrom 0 = .ok (.iload_n 1, 1) := by decide +kernel
theorem dX2_stepsFrom_1 : decode cX2_stepsFrom 1 = .ok (.ifCond .lt 23, 3) := by decide +kernel
theorem dX2_stepsFrom_24 : decode cX2_stepsFrom 24 = .ok (.iconst 0, 1) := by decide +kernel
theorem dX2_stepsFrom_25 : decode cX2_stepsFrom 25 = .ok (.ireturn, 1) := by decide +kernel
theorem dX2_stepsFrom_4 : decode cX2_stepsFrom 4 = .ok (.iload_n 1, 1) := by decide +kernel
theorem dX2_stepsFrom_5 : decode cX2_stepsFrom 5 = .ok (.aload_n 0, 1) := by decide +kernel
theorem dX2_stepsFrom_6 : decode cX2_stepsFrom 6 = .ok (.getfield 35, 3) := by decide +kernel
theorem dX2_stepsFrom_9 : decode cX2_stepsFrom 9 = .ok (.if_icmp .ge 15, 3) := by decide +kernel
theorem dX2_stepsFrom_12 : decode cX2_stepsFrom 12 = .ok (.iload_n 2, 1) := by decide +kernel
theorem dX2_stepsFrom_13 : decode cX2_stepsFrom 13 = .ok (.ifCond .lt 11, 3) := by decide +kernel
theorem dX2_stepsFrom_16 : decode cX2_stepsFrom 16 = .ok (.iload_n 2, 1) := by decide +kernel
theorem dX2_stepsFrom_17 : decode cX2_stepsFrom 17 = .ok (.aload_n 0, 1) := by decide +kernel
theorem dX2_stepsFrom_18 : decode cX2_stepsFrom 18 = .ok (.getfield 63, 3) := by decide +kernel
theorem dX2_stepsFrom_21 : decode cX2_stepsFrom 21 = .ok (.if_icmp .lt 5, 3) := by decide +kernel
theorem dX2_stepsFrom_26 : decode cX2_stepsFrom 26 = .ok (.aload_n 0, 1) := by decide +kernel
theorem dX2_stepsFrom_27 : decode cX2_stepsFrom 27 = .ok (.getfield 9, 3) := by decide +kernel
theorem dX2_stepsFrom_30 : decode cX2_stepsFrom 30 = .ok (.iload_n 1, 1) := by decide +kernel
theorem dX2_stepsFrom_31 : decode cX2_stepsFrom 31 = .ok (.bipush 8, 2) := by decide +kernel
theorem dX2_stepsFrom_33 : decode cX2_stepsFrom 33 = .ok (.imul, 1) := by decide +kernel
theorem dX2_stepsFrom_34 : decode cX2_stepsFrom 34 = .ok (.iload_n 2, 1) := by decide +kernel
theorem dX2_stepsFrom_35 : decode cX2_stepsFrom 35 = .ok (.iadd, 1) := by decide +kernel
theorem dX2_stepsFrom_36 : decode cX2_stepsFrom 36 = .ok (.iaload, 1) := by decide +kernel
theorem dX2_stepsFrom_37 : decode cX2_stepsFrom 37 = .ok (.ireturn, 1) := by decide +kernel
theorem dX2_spread_31 : decode cX2_spread 31 = .ok (.ior, 1) := by decide +kernel
theorem dX2_spread_32 : decode cX2_spread 32 = .ok (.istore_n 3, 1) := by decide +kernel
theorem dX2_distance_36 : decode cX2_distance 36 = .ok (.istore 4, 2) := by decide +kernel
theorem dX2_distance_38 : decode cX2_distance 38 = .ok (.iinc 5 1, 3) := by decide +kernel
theorem dX2_distance_41 : decode cX2_distance 41 = .ok (.goto (-33), 3) := by decide +kernel
theorem dX2_distance_26 : decode cX2_distance 26 = .ok (.iload 5, 2) := by decide +kernel
theorem dX2_distance_28 : decode cX2_distance 28 = .ok (.ireturn, 1) := by decide +kernel
theorem dX9_way_46 : decode cX9_way 46 = .ok (.ireturn, 1) := by decide +kernel
theorem dX9_reach_0 : decode cX9_reach 0 = .ok (.aload_n 0, 1) := by decide +kernel
theorem dX9_reach_1 : decode cX9_reach 1 = .ok (.getfield 20, 3) := by decide +kernel
theorem dX9_reach_4 : decode cX9_reach 4 = .ok (.iload_n 1, 1) := by decide +kernel
theorem dX9_reach_5 : decode cX9_reach 5 = .ok (.invokevirtual 139, 3) := by decide +kernel
theorem dX9_reach_8 : decode cX9_reach 8 = .ok (.ifCond .eq 14, 3) := by decide +kernel
theorem dX9_reach_22 : decode cX9_reach 22 = .ok (.bipush (-2), 2) := by decide +kernel
theorem dX9_reach_24 : decode cX9_reach 24 = .ok (.ireturn, 1) := by decide +kernel
theorem dX9_reach_11 : decode cX9_reach 11 = .ok (.aload_n 0, 1) := by decide +kernel
theorem dX9_reach_12 : decode cX9_reach 12 = .ok (.getfield 20, 3) := by decide +kernel
theorem dX9_reach_15 : decode cX9_reach 15 = .ok (.iload_n 2, 1) := by decide +kernel
theorem dX9_reach_16 : decode cX9_reach 16 = .ok (.invokevirtual 143, 3) := by decide +kernel
theorem dX9_reach_19 : decode cX9_reach 19 = .ok (.ifCond .ne 6, 3) := by decide +kernel
theorem dX9_reach_25 : decode cX9_reach 25 = .ok (.aload_n 0, 1) := by decide +kernel
theorem dX9_reach_26 : decode cX9_reach 26 = .ok (.getfield 54, 3) := by decide +kernel
theorem dX9_reach_29 : decode cX9_reach 29 = .ok (.iload_n 1, 1) := by decide +kernel
theorem dX9_reach_30 : decode cX9_reach 30 = .ok (.iload_n 2, 1) := by decide +kernel
theorem dX9_reach_31 : decode cX9_reach 31 = .ok (.invokevirtual 150, 3) := by decide +kernel
theorem dX2_reachable_0 : decode cX2_reachable 0 = .ok (.iconst 1, 1) := by decide +kernel
theorem dX2_reachable_1 : decode cX2_reachable 1 = .ok (.iload_n 2, 1) := by decide +kernel
theorem dX2_reachable_2 : decode cX2_reachable 2 = .ok (.ishl, 1) := by decide +kernel
theorem dX2_reachable_3 : decode cX2_reachable 3 = .ok (.istore_n 3, 1) := by decide +kernel
theorem dX2_reachable_4 : decode cX2_reachable 4 = .ok (.iconst 1, 1) := by decide +kernel
theorem dX2_reachable_5 : decode cX2_reachable 5 = .ok (.istore 4, 2) := by decide +kernel
theorem dX2_reachable_7 : decode cX2_reachable 7 = .ok (.iload 4, 2) := by decide +kernel
theorem dX2_reachable_9 : decode cX2_reachable 9 = .ok (.aload_n 0, 1) := by decide +kernel
theorem dX2_reachable_10 : decode cX2_reachable 10 = .ok (.getfield 63, 3) := by decide +kernel
theorem dX2_reachable_13 : decode cX2_reachable 13 = .ok (.if_icmp .ge 16, 3) := by decide +kernel
theorem dX2_reachable_29 : decode cX2_reachable 29 = .ok (.iload_n 3, 1) := by decide +kernel
theorem dX2_reachable_30 : decode cX2_reachable 30 = .ok (.ireturn, 1) := by decide +kernel
theorem dX2_reachable_16 : decode cX2_reachable 16 = .ok (.aload_n 0, 1) := by decide +kernel
theorem dX2_reachable_17 : decode cX2_reachable 17 = .ok (.iload_n 1, 1) := by decide +kernel
theorem dX2_reachable_18 : decode cX2_reachable 18 = .ok (.iload_n 3, 1) := by decide +kernel
theorem dX2_reachable_19 : decode cX2_reachable 19 = .ok (.invokevirtual 108, 3) := by decide +kernel
theorem dX2_reachable_22 : decode cX2_reachable 22 = .ok (.istore_n 3, 1) := by decide +kernel
theorem dX2_reachable_23 : decode cX2_reachable 23 = .ok (.iinc 4 1, 3) := by decide +kernel
theorem dX2_reachable_26 : decode cX2_reachable 26 = .ok (.goto (-19), 3) := by decide +kernel
theorem dX9_reach_34 : decode cX9_reach 34 = .ok (.ireturn, 1) := by decide +kernel
theorem dX9_bidden_0 : decode cX9_bidden 0 = .ok (.aload_n 0, 1) := by decide +kernel
theorem dX9_bidden_1 : decode cX9_bidden 1 = .ok (.getfield 20, 3) := by decide +kernel
theorem dX9_bidden_4 : decode cX9_bidden 4 = .ok (.iload_n 1, 1) := by decide +kernel
theorem dX9_bidden_5 : decode cX9_bidden 5 = .ok (.invokevirtual 139, 3) := by decide +kernel
theorem dX9_bidden_8 : decode cX9_bidden 8 = .ok (.ifCond .eq 14, 3) := by decide +kernel
theorem dX9_bidden_22 : decode cX9_bidden 22 = .ok (.bipush (-2), 2) := by decide +kernel
theorem dX9_bidden_24 : decode cX9_bidden 24 = .ok (.ireturn, 1) := by decide +kernel
theorem dX9_bidden_11 : decode cX9_bidden 11 = .ok (.aload_n 0, 1) := by decide +kernel
theorem dX9_bidden_12 : decode cX9_bidden 12 = .ok (.getfield 20, 3) := by decide +kernel
theorem dX9_bidden_15 : decode cX9_bidden 15 = .ok (.iload_n 2, 1) := by decide +kernel
theorem dX9_bidden_16 : decode cX9_bidden 16 = .ok (.invokevirtual 153, 3) := by decide +kernel
theorem dX0_hasDance_0 : decode cX0_hasDance 0 = .ok (.aload_n 0, 1) := by decide +kernel
theorem dX0_hasDance_1 : decode cX0_hasDance 1 = .ok (.invokevirtual 59, 3) := by decide +kernel
theorem dX0_isTold_0 : decode cX0_isTold 0 = .ok (.aload_n 0, 1) := by decide +kernel
theorem dX0_isTold_1 : decode cX0_isTold 1 = .ok (.getfield 32, 3) := by decide +kernel
theorem dX0_isTold_4 : decode cX0_isTold 4 = .ok (.ifCond .le 7, 3) := by decide +kernel
theorem dX0_isTold_11 : decode cX0_isTold 11 = .ok (.iconst 0, 1) := by decide +kernel
theorem dX0_isTold_12 : decode cX0_isTold 12 = .ok (.ireturn, 1) := by decide +kernel
theorem dX0_isTold_7 : decode cX0_isTold 7 = .ok (.iconst 1, 1) := by decide +kernel
theorem dX0_isTold_8 : decode cX0_isTold 8 = .ok (.goto 4, 3) := by decide +kernel
theorem dX0_hasDance_4 : decode cX0_hasDance 4 = .ok (.ifCond .eq 19, 3) := by decide +kernel
theorem dX0_hasDance_23 : decode cX0_hasDance 23 = .ok (.iconst 0, 1) := by decide +kernel
theorem dX0_hasDance_24 : decode cX0_hasDance 24 = .ok (.ireturn, 1) := by decide +kernel
theorem dX0_hasDance_7 : decode cX0_hasDance 7 = .ok (.iload_n 1, 1) := by decide +kernel
theorem dX0_hasDance_8 : decode cX0_hasDance 8 = .ok (.ifCond .lt 15, 3) := by decide +kernel
theorem dX0_hasDance_11 : decode cX0_hasDance 11 = .ok (.iload_n 1, 1) := by decide +kernel
theorem dX0_hasDance_12 : decode cX0_hasDance 12 = .ok (.aload_n 0, 1) := by decide +kernel
theorem dX0_hasDance_13 : decode cX0_hasDance 13 = .ok (.getfield 39, 3) := by decide +kernel
theorem dX0_hasDance_16 : decode cX0_hasDance 16 = .ok (.if_icmp .gt 7, 3) := by decide +kernel
theorem dX0_hasDance_19 : decode cX0_hasDance 19 = .ok (.iconst 1, 1) := by decide +kernel
theorem dX0_hasDance_20 : decode cX0_hasDance 20 = .ok (.goto 4, 3) := by decide +kernel
theorem dX9_bidden_19 : decode cX9_bidden 19 = .ok (.ifCond .ne 6, 3) := by decide +kernel
theorem dX9_bidden_25 : decode cX9_bidden 25 = .ok (.aload_n 0, 1) := by decide +kernel
theorem dX9_bidden_26 : decode cX9_bidden 26 = .ok (.getfield 54, 3) := by decide +kernel
theorem dX9_bidden_29 : decode cX9_bidden 29 = .ok (.iload_n 1, 1) := by decide +kernel
theorem dX9_bidden_30 : decode cX9_bidden 30 = .ok (.iload_n 2, 1) := by decide +kernel
theorem dX9_bidden_31 : decode cX9_bidden 31 = .ok (.invokevirtual 156, 3) := by decide +kernel
theorem dX2_goalOf_0 : decode cX2_goalOf 0 = .ok (.aload_n 0, 1) := by decide +kernel
theorem dX2_goalOf_1 : decode cX2_goalOf 1 = .ok (.iload_n 1, 1) := by decide +kernel
theorem dX2_goalOf_2 : decode cX2_goalOf 2 = .ok (.iload_n 2, 1) := by decide +kernel
theorem dX2_goalOf_3 : decode cX2_goalOf 3 = .ok (.invokevirtual 127, 3) := by decide +kernel
theorem dX2_isHere_0 : decode cX2_isHere 0 = .ok (.iload_n 1, 1) := by decide +kernel
theorem dX2_isHere_1 : decode cX2_isHere 1 = .ok (.ifCond .lt 27, 3) := by decide +kernel
theorem dX2_isHere_28 : decode cX2_isHere 28 = .ok (.iconst 0, 1) := by decide +kernel
theorem dX2_isHere_29 : decode cX2_isHere 29 = .ok (.ireturn, 1) := by decide +kernel
theorem dX2_isHere_4 : decode cX2_isHere 4 = .ok (.iload_n 1, 1) := by decide +kernel
theorem dX2_isHere_5 : decode cX2_isHere 5 = .ok (.aload_n 0, 1) := by decide +kernel
theorem dX2_isHere_6 : decode cX2_isHere 6 = .ok (.getfield 35, 3) := by decide +kernel
theorem dX2_isHere_9 : decode cX2_isHere 9 = .ok (.if_icmp .ge 19, 3) := by decide +kernel
theorem dX2_isHere_12 : decode cX2_isHere 12 = .ok (.iload_n 2, 1) := by decide +kernel
theorem dX2_isHere_13 : decode cX2_isHere 13 = .ok (.ifCond .lt 15, 3) := by decide +kernel
theorem dX2_isHere_16 : decode cX2_isHere 16 = .ok (.iload_n 2, 1) := by decide +kernel
theorem dX2_isHere_17 : decode cX2_isHere 17 = .ok (.aload_n 0, 1) := by decide +kernel
theorem dX2_isHere_18 : decode cX2_isHere 18 = .ok (.getfield 67, 3) := by decide +kernel
theorem dX2_isHere_21 : decode cX2_isHere 21 = .ok (.if_icmp .gt 7, 3) := by decide +kernel
theorem dX2_isHere_24 : decode cX2_isHere 24 = .ok (.iconst 1, 1) := by decide +kernel
theorem dX2_isHere_25 : decode cX2_isHere 25 = .ok (.goto 4, 3) := by decide +kernel
theorem dX2_goalOf_6 : decode cX2_goalOf 6 = .ok (.ifCond .eq 17, 3) := by decide +kernel
theorem dX2_goalOf_23 : decode cX2_goalOf 23 = .ok (.iconst (-1), 1) := by decide +kernel
theorem dX2_goalOf_24 : decode cX2_goalOf 24 = .ok (.ireturn, 1) := by decide +kernel
theorem dX2_goalOf_9 : decode cX2_goalOf 9 = .ok (.aload_n 0, 1) := by decide +kernel
theorem dX2_goalOf_10 : decode cX2_goalOf 10 = .ok (.getfield 15, 3) := by decide +kernel
theorem dX2_goalOf_13 : decode cX2_goalOf 13 = .ok (.iload_n 1, 1) := by decide +kernel
theorem dX2_goalOf_14 : decode cX2_goalOf 14 = .ok (.bipush 15, 2) := by decide +kernel
theorem dX2_goalOf_16 : decode cX2_goalOf 16 = .ok (.imul, 1) := by decide +kernel
theorem dX2_goalOf_17 : decode cX2_goalOf 17 = .ok (.iload_n 2, 1) := by decide +kernel
theorem dX2_goalOf_18 : decode cX2_goalOf 18 = .ok (.iadd, 1) := by decide +kernel
theorem dX2_goalOf_19 : decode cX2_goalOf 19 = .ok (.iaload, 1) := by decide +kernel
theorem dX2_goalOf_20 : decode cX2_goalOf 20 = .ok (.goto 4, 3) := by decide +kernel
theorem dX9_bidden_34 : decode cX9_bidden 34 = .ok (.ireturn, 1) := by decide +kernel
theorem dX9_at_0 : decode cX9_at 0 = .ok (.aload_n 0, 1) := by decide +kernel
theorem dX9_at_1 : decode cX9_at 1 = .ok (.getfield 20, 3) := by decide +kernel
theorem dX9_at_4 : decode cX9_at 4 = .ok (.iload_n 1, 1) := by decide +kernel
theorem dX9_at_5 : decode cX9_at 5 = .ok (.invokevirtual 139, 3) := by decide +kernel
theorem dX9_at_8 : decode cX9_at 8 = .ok (.ifCond .eq 14, 3) := by decide +kernel
theorem dX9_at_22 : decode cX9_at 22 = .ok (.bipush (-2), 2) := by decide +kernel
theorem dX9_at_24 : decode cX9_at 24 = .ok (.ireturn, 1) := by decide +kernel
theorem dX9_at_11 : decode cX9_at 11 = .ok (.aload_n 0, 1) := by decide +kernel
theorem dX9_at_12 : decode cX9_at 12 = .ok (.getfield 20, 3) := by decide +kernel
theorem dX9_at_15 : decode cX9_at 15 = .ok (.iload_n 2, 1) := by decide +kernel
theorem dX9_at_16 : decode cX9_at 16 = .ok (.invokevirtual 153, 3) := by decide +kernel
theorem dX9_at_19 : decode cX9_at 19 = .ok (.ifCond .ne 6, 3) := by decide +kernel
theorem dX9_at_25 : decode cX9_at 25 = .ok (.aload_n 0, 1) := by decide +kernel
theorem dX9_at_26 : decode cX9_at 26 = .ok (.getfield 54, 3) := by decide +kernel
theorem dX9_at_29 : decode cX9_at 29 = .ok (.iload_n 1, 1) := by decide +kernel
theorem dX9_at_30 : decode cX9_at 30 = .ok (.iload_n 2, 1) := by decide +kernel
theorem dX9_at_31 : decode cX9_at 31 = .ok (.invokevirtual 159, 3) := by decide +kernel
theorem dX2_placeOf_0 : decode cX2_placeOf 0 = .ok (.aload_n 0, 1) := by decide +kernel
theorem dX2_placeOf_1 : decode cX2_placeOf 1 = .ok (.iload_n 1, 1) := by decide +kernel
theorem dX2_placeOf_2 : decode cX2_placeOf 2 = .ok (.iload_n 2, 1) := by decide +kernel
theorem dX2_placeOf_3 : decode cX2_placeOf 3 = .ok (.invokevirtual 127, 3) := by decide +kernel
theorem dX2_placeOf_6 : decode cX2_placeOf 6 = .ok (.ifCond .eq 17, 3) := by decide +kernel
theorem dX2_placeOf_23 : decode cX2_placeOf 23 = .ok (.iconst (-1), 1) := by decide +kernel
theorem dX2_placeOf_24 : decode cX2_placeOf 24 = .ok (.ireturn, 1) := by decide +kernel
theorem dX2_placeOf_9 : decode cX2_placeOf 9 = .ok (.aload_n 0, 1) := by decide +kernel
theorem dX2_placeOf_10 : decode cX2_placeOf 10 = .ok (.getfield 21, 3) := by decide +kernel
theorem dX2_placeOf_13 : decode cX2_placeOf 13 = .ok (.iload_n 1, 1) := by decide +kernel
theorem dX2_placeOf_14 : decode cX2_placeOf 14 = .ok (.bipush 15, 2) := by decide +kernel
theorem dX2_placeOf_16 : decode cX2_placeOf 16 = .ok (.imul, 1) := by decide +kernel
theorem dX2_placeOf_17 : decode cX2_placeOf 17 = .ok (.iload_n 2, 1) := by decide +kernel
theorem dX2_placeOf_18 : decode cX2_placeOf 18 = .ok (.iadd, 1) := by decide +kernel
theorem dX2_placeOf_19 : decode cX2_placeOf 19 = .ok (.iaload, 1) := by decide +kernel
theorem dX2_placeOf_20 : decode cX2_placeOf 20 = .ok (.goto 4, 3) := by decide +kernel
theorem dX9_at_34 : decode cX9_at 34 = .ok (.ireturn, 1) := by decide +kernel
theorem dX9_within_0 : decode cX9_within 0 = .ok (.aload_n 0, 1) := by decide +kernel
theorem dX9_within_1 : decode cX9_within 1 = .ok (.getfield 20, 3) := by decide +kernel
theorem dX9_within_4 : decode cX9_within 4 = .ok (.iload_n 1, 1) := by decide +kernel
theorem dX9_within_5 : decode cX9_within 5 = .ok (.invokevirtual 143, 3) := by decide +kernel
theorem dX9_within_8 : decode cX9_within 8 = .ok (.ifCond .eq 14, 3) := by decide +kernel
theorem dX9_within_22 : decode cX9_within 22 = .ok (.bipush (-2), 2) := by decide +kernel
theorem dX9_within_24 : decode cX9_within 24 = .ok (.ireturn, 1) := by decide +kernel
theorem dX9_within_11 : decode cX9_within 11 = .ok (.aload_n 0, 1) := by decide +kernel
theorem dX9_within_12 : decode cX9_within 12 = .ok (.getfield 20, 3) := by decide +kernel
theorem dX9_within_15 : decode cX9_within 15 = .ok (.iload_n 2, 1) := by decide +kernel
theorem dX9_within_16 : decode cX9_within 16 = .ok (.invokevirtual 153, 3) := by decide +kernel
theorem dX9_within_19 : decode cX9_within 19 = .ok (.ifCond .ne 6, 3) := by decide +kernel
theorem dX9_within_25 : decode cX9_within 25 = .ok (.aload_n 0, 1) := by decide +kernel
theorem dX9_within_26 : decode cX9_within 26 = .ok (.getfield 54, 3) := by decide +kernel
theorem dX9_within_29 : decode cX9_within 29 = .ok (.iload_n 1, 1) := by decide +kernel
theorem dX9_within_30 : decode cX9_within 30 = .ok (.iload_n 2, 1) := by decide +kernel
theorem dX9_within_31 : decode cX9_within 31 = .ok (.invokevirtual 162, 3) := by decide +kernel
theorem dX2_ladiesIn_0 : decode cX2_ladiesIn 0 = .ok (.iconst 0, 1) := by decide +kernel
theorem dX2_ladiesIn_1 : decode cX2_ladiesIn 1 = .ok (.istore_n 3, 1) := by decide +kernel
theorem dX2_ladiesIn_2 : decode cX2_ladiesIn 2 = .ok (.iconst 0, 1) := by decide +kernel
theorem dX2_ladiesIn_3 : decode cX2_ladiesIn 3 = .ok (.istore 4, 2) := by decide +kernel
theorem dX2_ladiesIn_5 : decode cX2_ladiesIn 5 = .ok (.iload 4, 2) := by decide +kernel
theorem dX2_ladiesIn_7 : decode cX2_ladiesIn 7 = .ok (.aload_n 0, 1) := by decide +kernel
theorem dX2_ladiesIn_8 : decode cX2_ladiesIn 8 = .ok (.getfield 35, 3) := by decide +kernel
theorem dX2_ladiesIn_11 : decode cX2_ladiesIn 11 = .ok (.if_icmp .ge 27, 3) := by decide +kernel
theorem dX2_ladiesIn_38 : decode cX2_ladiesIn 38 = .ok (.iload_n 3, 1) := by decide +kernel
theorem dX2_ladiesIn_39 : decode cX2_ladiesIn 39 = .ok (.ireturn, 1) := by decide +kernel
theorem dX2_ladiesIn_14 : decode cX2_ladiesIn 14 = .ok (.aload_n 0, 1) := by decide +kernel
theorem dX2_ladiesIn_15 : decode cX2_ladiesIn 15 = .ok (.iload 4, 2) := by decide +kernel
theorem dX2_ladiesIn_17 : decode cX2_ladiesIn 17 = .ok (.iload_n 2, 1) := by decide +kernel
theorem dX2_ladiesIn_18 : decode cX2_ladiesIn 18 = .ok (.invokevirtual 111, 3) := by decide +kernel
theorem dX2_ladiesIn_21 : decode cX2_ladiesIn 21 = .ok (.iload_n 1, 1) := by decide +kernel
theorem dX2_ladiesIn_22 : decode cX2_ladiesIn 22 = .ok (.if_icmp .ne 10, 3) := by decide +kernel
theorem dX2_ladiesIn_32 : decode cX2_ladiesIn 32 = .ok (.iinc 4 1, 3) := by decide +kernel
theorem dX2_ladiesIn_35 : decode cX2_ladiesIn 35 = .ok (.goto (-30), 3) := by decide +kernel
theorem dX2_ladiesIn_25 : decode cX2_ladiesIn 25 = .ok (.iload_n 3, 1) := by decide +kernel
theorem dX2_ladiesIn_26 : decode cX2_ladiesIn 26 = .ok (.iconst 1, 1) := by decide +kernel
theorem dX2_ladiesIn_27 : decode cX2_ladiesIn 27 = .ok (.iload 4, 2) := by decide +kernel
theorem dX2_ladiesIn_29 : decode cX2_ladiesIn 29 = .ok (.ishl, 1) := by decide +kernel
theorem dX2_ladiesIn_30 : decode cX2_ladiesIn 30 = .ok (.ior, 1) := by decide +kernel
theorem dX2_ladiesIn_31 : decode cX2_ladiesIn 31 = .ok (.istore_n 3, 1) := by decide +kernel
theorem dX9_within_34 : decode cX9_within 34 = .ok (.ireturn, 1) := by decide +kernel
theorem dX9_steps_0 : decode cX9_steps 0 = .ok (.aload_n 0, 1) := by decide +kernel
theorem dX9_steps_1 : decode cX9_steps 1 = .ok (.getfield 20, 3) := by decide +kernel
theorem dX9_steps_4 : decode cX9_steps 4 = .ok (.iload_n 1, 1) := by decide +kernel
theorem dX9_steps_5 : decode cX9_steps 5 = .ok (.invokevirtual 139, 3) := by decide +kernel
theorem dX9_steps_8 : decode cX9_steps 8 = .ok (.ifCond .eq 14, 3) := by decide +kernel
theorem dX9_steps_22 : decode cX9_steps 22 = .ok (.bipush (-2), 2) := by decide +kernel
theorem dX9_steps_24 : decode cX9_steps 24 = .ok (.ireturn, 1) := by decide +kernel
theorem dX9_steps_11 : decode cX9_steps 11 = .ok (.aload_n 0, 1) := by decide +kernel
theorem dX9_steps_12 : decode cX9_steps 12 = .ok (.getfield 54, 3) := by decide +kernel
theorem dX9_steps_15 : decode cX9_steps 15 = .ok (.iload_n 1, 1) := by decide +kernel
theorem dX9_steps_16 : decode cX9_steps 16 = .ok (.invokevirtual 165, 3) := by decide +kernel
theorem dX2_stepsOf_0 : decode cX2_stepsOf 0 = .ok (.iconst 0, 1) := by decide +kernel
theorem dX2_stepsOf_1 : decode cX2_stepsOf 1 = .ok (.istore_n 2, 1) := by decide +kernel
theorem dX2_stepsOf_2 : decode cX2_stepsOf 2 = .ok (.iconst 1, 1) := by decide +kernel
theorem dX2_stepsOf_3 : decode cX2_stepsOf 3 = .ok (.istore_n 3, 1) := by decide +kernel
theorem dX2_stepsOf_4 : decode cX2_stepsOf 4 = .ok (.iload_n 3, 1) := by decide +kernel
theorem dX2_stepsOf_5 : decode cX2_stepsOf 5 = .ok (.aload_n 0, 1) := by decide +kernel
theorem dX2_stepsOf_6 : decode cX2_stepsOf 6 = .ok (.getfield 67, 3) := by decide +kernel
theorem dX2_stepsOf_9 : decode cX2_stepsOf 9 = .ok (.if_icmp .gt 29, 3) := by decide +kernel
theorem dX2_stepsOf_38 : decode cX2_stepsOf 38 = .ok (.iload_n 2, 1) := by decide +kernel
theorem dX2_stepsOf_39 : decode cX2_stepsOf 39 = .ok (.ireturn, 1) := by decide +kernel
theorem dX2_stepsOf_12 : decode cX2_stepsOf 12 = .ok (.aload_n 0, 1) := by decide +kernel
theorem dX2_stepsOf_13 : decode cX2_stepsOf 13 = .ok (.iload_n 1, 1) := by decide +kernel
theorem dX2_stepsOf_14 : decode cX2_stepsOf 14 = .ok (.iload_n 3, 1) := by decide +kernel
theorem dX2_stepsOf_15 : decode cX2_stepsOf 15 = .ok (.invokevirtual 111, 3) := by decide +kernel
theorem dX2_stepsOf_18 : decode cX2_stepsOf 18 = .ok (.aload_n 0, 1) := by decide +kernel
theorem dX2_stepsOf_19 : decode cX2_stepsOf 19 = .ok (.iload_n 1, 1) := by decide +kernel
theorem dX2_stepsOf_20 : decode cX2_stepsOf 20 = .ok (.iload_n 3, 1) := by decide +kernel
theorem dX2_stepsOf_21 : decode cX2_stepsOf 21 = .ok (.iconst 1, 1) := by decide +kernel
theorem dX2_stepsOf_22 : decode cX2_stepsOf 22 = .ok (.isub, 1) := by decide +kernel
theorem dX2_stepsOf_23 : decode cX2_stepsOf 23 = .ok (.invokevirtual 111, 3) := by decide +kernel
theorem dX2_stepsOf_26 : decode cX2_stepsOf 26 = .ok (.if_icmp .eq 6, 3) := by decide +kernel
theorem dX2_stepsOf_32 : decode cX2_stepsOf 32 = .ok (.iinc 3 1, 3) := by decide +kernel
theorem dX2_stepsOf_35 : decode cX2_stepsOf 35 = .ok (.goto (-31), 3) := by decide +kernel
theorem dX2_stepsOf_29 : decode cX2_stepsOf 29 = .ok (.iinc 2 1, 3) := by decide +kernel
theorem dX9_steps_19 : decode cX9_steps 19 = .ok (.goto 5, 3) := by decide +kernel
theorem dX9_sees_0 : decode cX9_sees 0 = .ok (.aload_n 0, 1) := by decide +kernel
theorem dX9_sees_1 : decode cX9_sees 1 = .ok (.getfield 20, 3) := by decide +kernel
theorem dX9_sees_4 : decode cX9_sees 4 = .ok (.iload_n 1, 1) := by decide +kernel
theorem dX9_sees_5 : decode cX9_sees 5 = .ok (.invokevirtual 139, 3) := by decide +kernel
theorem dX9_sees_8 : decode cX9_sees 8 = .ok (.ifCond .ne 6, 3) := by decide +kernel
theorem dX9_sees_14 : decode cX9_sees 14 = .ok (.iconst 0, 1) := by decide +kernel
theorem dX9_sees_15 : decode cX9_sees 15 = .ok (.istore_n 2, 1) := by decide +kernel
theorem dX9_sees_16 : decode cX9_sees 16 = .ok (.iconst 0, 1) := by decide +kernel
theorem dX9_sees_17 : decode cX9_sees 17 = .ok (.istore_n 3, 1) := by decide +kernel
theorem dX9_sees_18 : decode cX9_sees 18 = .ok (.iload_n 3, 1) := by decide +kernel
theorem dX9_sees_19 : decode cX9_sees 19 = .ok (.aload_n 0, 1) := by decide +kernel
theorem dX9_sees_20 : decode cX9_sees 20 = .ok (.getfield 20, 3) := by decide +kernel
theorem dX9_sees_23 : decode cX9_sees 23 = .ok (.getfield 169, 3) := by decide +kernel
theorem dX9_sees_26 : decode cX9_sees 26 = .ok (.if_icmp .gt 23, 3) := by decide +kernel
theorem dX9_sees_29 : decode cX9_sees 29 = .ok (.iload_n 2, 1) := by decide +kernel
theorem dX9_sees_30 : decode cX9_sees 30 = .ok (.iconst 1, 1) := by decide +kernel
theorem dX9_sees_31 : decode cX9_sees 31 = .ok (.aload_n 0, 1) := by decide +kernel
theorem dX9_sees_32 : decode cX9_sees 32 = .ok (.getfield 54, 3) := by decide +kernel
theorem dX9_sees_35 : decode cX9_sees 35 = .ok (.iload_n 1, 1) := by decide +kernel
theorem dX9_sees_36 : decode cX9_sees 36 = .ok (.iload_n 3, 1) := by decide +kernel
theorem dX9_sees_37 : decode cX9_sees 37 = .ok (.invokevirtual 159, 3) := by decide +kernel
theorem dX9_sees_40 : decode cX9_sees 40 = .ok (.ishl, 1) := by decide +kernel
theorem dX9_sees_41 : decode cX9_sees 41 = .ok (.ior, 1) := by decide +kernel
theorem dX9_sees_42 : decode cX9_sees 42 = .ok (.istore_n 2, 1) := by decide +kernel
theorem dX9_sees_43 : decode cX9_sees 43 = .ok (.iinc 3 1, 3) := by decide +kernel
theorem dX9_sees_46 : decode cX9_sees 46 = .ok (.goto (-28), 3) := by decide +kernel
theorem dX9_sees_49 : decode cX9_sees 49 = .ok (.iload_n 2, 1) := by decide +kernel
theorem dX9_sees_50 : decode cX9_sees 50 = .ok (.ireturn, 1) := by decide +kernel
theorem dX9_sees_11 : decode cX9_sees 11 = .ok (.bipush (-2), 2) := by decide +kernel
theorem dX9_sees_13 : decode cX9_sees 13 = .ok (.ireturn, 1) := by decide +kernel
theorem dX9_meets_0 : decode cX9_meets 0 = .ok (.aload_n 0, 1) := by decide +kernel
theorem dX9_meets_1 : decode cX9_meets 1 = .ok (.getfield 20, 3) := by decide +kernel
theorem dX9_meets_4 : decode cX9_meets 4 = .ok (.iload_n 1, 1) := by decide +kernel
theorem dX9_meets_5 : decode cX9_meets 5 = .ok (.invokevirtual 139, 3) := by decide +kernel
theorem dX9_meets_8 : decode cX9_meets 8 = .ok (.ifCond .eq 14, 3) := by decide +kernel
theorem dX9_meets_22 : decode cX9_meets 22 = .ok (.bipush (-2), 2) := by decide +kernel
theorem dX9_meets_24 : decode cX9_meets 24 = .ok (.ireturn, 1) := by decide +kernel
theorem dX9_meets_11 : decode cX9_meets 11 = .ok (.aload_n 0, 1) := by decide +kernel
theorem dX9_meets_12 : decode cX9_meets 12 = .ok (.getfield 20, 3) := by decide +kernel
theorem dX9_meets_15 : decode cX9_meets 15 = .ok (.iload_n 2, 1) := by decide +kernel
theorem dX9_meets_16 : decode cX9_meets 16 = .ok (.invokevirtual 139, 3) := by decide +kernel
theorem dX9_meets_19 : decode cX9_meets 19 = .ok (.ifCond .ne 6, 3) := by decide +kernel
theorem dX9_meets_25 : decode cX9_meets 25 = .ok (.iconst 0, 1) := by decide +kernel
theorem dX9_meets_26 : decode cX9_meets 26 = .ok (.istore_n 3, 1) := by decide +kernel
theorem dX9_meets_27 : decode cX9_meets 27 = .ok (.iload_n 3, 1) := by decide +kernel
theorem dX9_meets_28 : decode cX9_meets 28 = .ok (.aload_n 0, 1) := by decide +kernel
theorem dX9_meets_29 : decode cX9_meets 29 = .ok (.getfield 20, 3) := by decide +kernel
theorem dX9_meets_32 : decode cX9_meets 32 = .ok (.getfield 169, 3) := by decide +kernel
theorem dX9_meets_35 : decode cX9_meets 35 = .ok (.if_icmp .gt 27, 3) := by decide +kernel
theorem dX9_meets_38 : decode cX9_meets 38 = .ok (.aload_n 0, 1) := by decide +kernel
theorem dX9_meets_39 : decode cX9_meets 39 = .ok (.getfield 54, 3) := by decide +kernel
theorem dX9_meets_42 : decode cX9_meets 42 = .ok (.iload_n 1, 1) := by decide +kernel
theorem dX9_meets_43 : decode cX9_meets 43 = .ok (.iload_n 3, 1) := by decide +kernel
theorem dX9_meets_44 : decode cX9_meets 44 = .ok (.invokevirtual 172, 3) := by decide +kernel
theorem dX2_companyOf_0 : decode cX2_companyOf 0 = .ok (.aload_n 0, 1) := by decide +kernel
theorem dX2_companyOf_1 : decode cX2_companyOf 1 = .ok (.iload_n 1, 1) := by decide +kernel
theorem dX2_companyOf_2 : decode cX2_companyOf 2 = .ok (.iload_n 2, 1) := by decide +kernel
theorem dX2_companyOf_3 : decode cX2_companyOf 3 = .ok (.invokevirtual 127, 3) := by decide +kernel
theorem dX2_companyOf_6 : decode cX2_companyOf 6 = .ok (.ifCond .eq 17, 3) := by decide +kernel
theorem dX2_companyOf_23 : decode cX2_companyOf 23 = .ok (.iconst 0, 1) := by decide +kernel
theorem dX2_companyOf_24 : decode cX2_companyOf 24 = .ok (.ireturn, 1) := by decide +kernel
theorem dX2_companyOf_9 : decode cX2_companyOf 9 = .ok (.aload_n 0, 1) := by decide +kernel
theorem dX2_companyOf_10 : decode cX2_companyOf 10 = .ok (.getfield 24, 3) := by decide +kernel
theorem dX2_companyOf_13 : decode cX2_companyOf 13 = .ok (.iload_n 1, 1) := by decide +kernel
theorem dX2_companyOf_14 : decode cX2_companyOf 14 = .ok (.bipush 15, 2) := by decide +kernel
theorem dX2_companyOf_16 : decode cX2_companyOf 16 = .ok (.imul, 1) := by decide +kernel
theorem dX2_companyOf_17 : decode cX2_companyOf 17 = .ok (.iload_n 2, 1) := by decide +kernel
theorem dX2_companyOf_18 : decode cX2_companyOf 18 = .ok (.iadd, 1) := by decide +kernel
theorem dX2_companyOf_19 : decode cX2_companyOf 19 = .ok (.iaload, 1) := by decide +kernel
theorem dX2_companyOf_20 : decode cX2_companyOf 20 = .ok (.goto 4, 3) := by decide +kernel
theorem dX9_meets_47 : decode cX9_meets 47 = .ok (.iload_n 2, 1) := by decide +kernel
theorem dX9_meets_48 : decode cX9_meets 48 = .ok (.invokestatic 175, 3) := by decide +kernel
theorem dX9_meets_51 : decode cX9_meets 51 = .ok (.ifCond .eq 5, 3) := by decide +kernel
theorem dX9_meets_56 : decode cX9_meets 56 = .ok (.iinc 3 1, 3) := by decide +kernel
theorem dX9_meets_59 : decode cX9_meets 59 = .ok (.goto (-32), 3) := by decide +kernel
theorem dX9_meets_54 : decode cX9_meets 54 = .ok (.iload_n 3, 1) := by decide +kernel
theorem dX9_meets_55 : decode cX9_meets 55 = .ok (.ireturn, 1) := by decide +kernel
theorem dX9_meets_62 : decode cX9_meets 62 = .ok (.iconst (-1), 1) := by decide +kernel
theorem dX9_meets_63 : decode cX9_meets 63 = .ok (.ireturn, 1) := by decide +kernel
theorem dX9_often_0 : decode cX9_often 0 = .ok (.aload_n 0, 1) := by decide +kernel
theorem dX9_often_1 : decode cX9_often 1 = .ok (.getfield 20, 3) := by decide +kernel
theorem dX9_often_4 : decode cX9_often 4 = .ok (.iload_n 1, 1) := by decide +kernel
theorem dX9_often_5 : decode cX9_often 5 = .ok (.invokevirtual 139, 3) := by decide +kernel
theorem dX9_often_8 : decode cX9_often 8 = .ok (.ifCond .eq 14, 3) := by decide +kernel
theorem dX9_often_22 : decode cX9_often 22 = .ok (.bipush (-2), 2) := by decide +kernel
theorem dX9_often_24 : decode cX9_often 24 = .ok (.ireturn, 1) := by decide +kernel
theorem dX9_often_11 : decode cX9_often 11 = .ok (.aload_n 0, 1) := by decide +kernel
theorem dX9_often_12 : decode cX9_often 12 = .ok (.getfield 20, 3) := by decide +kernel
theorem dX9_often_15 : decode cX9_often 15 = .ok (.iload_n 2, 1) := by decide +kernel
theorem dX9_often_16 : decode cX9_often 16 = .ok (.invokevirtual 139, 3) := by decide +kernel
theorem dX9_often_19 : decode cX9_often 19 = .ok (.ifCond .ne 6, 3) := by decide +kernel
theorem dX9_often_25 : decode cX9_often 25 = .ok (.aload_n 0, 1) := by decide +kernel
theorem dX9_often_26 : decode cX9_often 26 = .ok (.getfield 54, 3) := by decide +kernel
theorem dX9_often_29 : decode cX9_often 29 = .ok (.iload_n 1, 1) := by decide +kernel
theorem dX9_often_30 : decode cX9_often 30 = .ok (.iload_n 2, 1) := by decide +kernel
theorem dX9_often_31 : decode cX9_often 31 = .ok (.invokevirtual 178, 3) := by decide +kernel
theorem dX2_meetingsOf_0 : decode cX2_meetingsOf 0 = .ok (.iconst 0, 1) := by decide +kernel
theorem dX2_meetingsOf_1 : decode cX2_meetingsOf 1 = .ok (.istore_n 3, 1) := by decide +kernel
theorem dX2_meetingsOf_2 : decode cX2_meetingsOf 2 = .ok (.iconst 0, 1) := by decide +kernel
theorem dX2_meetingsOf_3 : decode cX2_meetingsOf 3 = .ok (.istore 4, 2) := by decide +kernel
theorem dX2_meetingsOf_5 : decode cX2_meetingsOf 5 = .ok (.iload 4, 2) := by decide +kernel
theorem dX2_meetingsOf_7 : decode cX2_meetingsOf 7 = .ok (.aload_n 0, 1) := by decide +kernel
theorem dX2_meetingsOf_8 : decode cX2_meetingsOf 8 = .ok (.getfield 67, 3) := by decide +kernel
theorem dX2_meetingsOf_11 : decode cX2_meetingsOf 11 = .ok (.if_icmp .gt 26, 3) := by decide +kernel
theorem dX2_meetingsOf_14 : decode cX2_meetingsOf 14 = .ok (.aload_n 0, 1) := by decide +kernel
theorem dX2_meetingsOf_15 : decode cX2_meetingsOf 15 = .ok (.iload_n 1, 1) := by decide +kernel
theorem dX2_meetingsOf_16 : decode cX2_meetingsOf 16 = .ok (.iload 4, 2) := by decide +kernel
theorem dX2_meetingsOf_18 : decode cX2_meetingsOf 18 = .ok (.invokevirtual 130, 3) := by decide +kernel
theorem dX2_meetingsOf_21 : decode cX2_meetingsOf 21 = .ok (.iload_n 2, 1) := by decide +kernel
theorem dX2_meetingsOf_22 : decode cX2_meetingsOf 22 = .ok (.invokestatic 123, 3) := by decide +kernel
theorem dX2_meetingsOf_25 : decode cX2_meetingsOf 25 = .ok (.ifCond .eq 6, 3) := by decide +kernel
theorem dX2_meetingsOf_31 : decode cX2_meetingsOf 31 = .ok (.iinc 4 1, 3) := by decide +kernel
theorem dX2_meetingsOf_34 : decode cX2_meetingsOf 34 = .ok (.goto (-29), 3) := by decide +kernel
theorem dX2_meetingsOf_28 : decode cX2_meetingsOf 28 = .ok (.iinc 3 1, 3) := by decide +kernel
theorem dX2_meetingsOf_37 : decode cX2_meetingsOf 37 = .ok (.iload_n 3, 1) := by decide +kernel
theorem dX2_meetingsOf_38 : decode cX2_meetingsOf 38 = .ok (.ireturn, 1) := by decide +kernel
theorem dX9_often_34 : decode cX9_often 34 = .ok (.ireturn, 1) := by decide +kernel
theorem dX9_friends_0 : decode cX9_friends 0 = .ok (.aload_n 0, 1) := by decide +kernel
theorem dX9_friends_1 : decode cX9_friends 1 = .ok (.getfield 20, 3) := by decide +kernel
theorem dX9_friends_4 : decode cX9_friends 4 = .ok (.iload_n 1, 1) := by decide +kernel
theorem dX9_friends_5 : decode cX9_friends 5 = .ok (.invokevirtual 139, 3) := by decide +kernel
theorem dX9_friends_8 : decode cX9_friends 8 = .ok (.ifCond .eq 14, 3) := by decide +kernel
theorem dX9_friends_22 : decode cX9_friends 22 = .ok (.bipush (-2), 2) := by decide +kernel
theorem dX9_friends_24 : decode cX9_friends 24 = .ok (.ireturn, 1) := by decide +kernel
theorem dX9_friends_11 : decode cX9_friends 11 = .ok (.aload_n 0, 1) := by decide +kernel
theorem dX9_friends_12 : decode cX9_friends 12 = .ok (.getfield 54, 3) := by decide +kernel
theorem dX9_friends_15 : decode cX9_friends 15 = .ok (.iload_n 1, 1) := by decide +kernel
theorem dX9_friends_16 : decode cX9_friends 16 = .ok (.invokevirtual 181, 3) := by decide +kernel
theorem dX2_friendsOf_0 : decode cX2_friendsOf 0 = .ok (.iconst 0, 1) := by decide +kernel
theorem dX2_friendsOf_1 : decode cX2_friendsOf 1 = .ok (.istore_n 2, 1) := by decide +kernel
theorem dX2_friendsOf_2 : decode cX2_friendsOf 2 = .ok (.iconst 0, 1) := by decide +kernel
theorem dX2_friendsOf_3 : decode cX2_friendsOf 3 = .ok (.istore_n 3, 1) := by decide +kernel
theorem dX2_friendsOf_4 : decode cX2_friendsOf 4 = .ok (.iload_n 3, 1) := by decide +kernel
theorem dX2_friendsOf_5 : decode cX2_friendsOf 5 = .ok (.aload_n 0, 1) := by decide +kernel
theorem dX2_friendsOf_6 : decode cX2_friendsOf 6 = .ok (.getfield 67, 3) := by decide +kernel
theorem dX2_friendsOf_9 : decode cX2_friendsOf 9 = .ok (.if_icmp .gt 18, 3) := by decide +kernel
theorem dX2_friendsOf_12 : decode cX2_friendsOf 12 = .ok (.iload_n 2, 1) := by decide +kernel
theorem dX2_friendsOf_13 : decode cX2_friendsOf 13 = .ok (.aload_n 0, 1) := by decide +kernel
theorem dX2_friendsOf_14 : decode cX2_friendsOf 14 = .ok (.iload_n 1, 1) := by decide +kernel
theorem dX2_friendsOf_15 : decode cX2_friendsOf 15 = .ok (.iload_n 3, 1) := by decide +kernel
theorem dX2_friendsOf_16 : decode cX2_friendsOf 16 = .ok (.invokevirtual 130, 3) := by decide +kernel
theorem dX2_friendsOf_19 : decode cX2_friendsOf 19 = .ok (.ior, 1) := by decide +kernel
theorem dX2_friendsOf_20 : decode cX2_friendsOf 20 = .ok (.istore_n 2, 1) := by decide +kernel
theorem dX2_friendsOf_21 : decode cX2_friendsOf 21 = .ok (.iinc 3 1, 3) := by decide +kernel
theorem dX2_friendsOf_24 : decode cX2_friendsOf 24 = .ok (.goto (-20), 3) := by decide +kernel
theorem dX2_friendsOf_27 : decode cX2_friendsOf 27 = .ok (.iload_n 2, 1) := by decide +kernel
theorem dX2_friendsOf_28 : decode cX2_friendsOf 28 = .ok (.iconst 1, 1) := by decide +kernel
theorem dX2_friendsOf_29 : decode cX2_friendsOf 29 = .ok (.iload_n 1, 1) := by decide +kernel
theorem dX2_friendsOf_30 : decode cX2_friendsOf 30 = .ok (.ishl, 1) := by decide +kernel
theorem dX2_friendsOf_31 : decode cX2_friendsOf 31 = .ok (.iconst (-1), 1) := by decide +kernel
theorem dX2_friendsOf_32 : decode cX2_friendsOf 32 = .ok (.ixor, 1) := by decide +kernel
theorem dX2_friendsOf_33 : decode cX2_friendsOf 33 = .ok (.iand, 1) := by decide +kernel
theorem dX2_friendsOf_34 : decode cX2_friendsOf 34 = .ok (.ireturn, 1) := by decide +kernel
theorem dX9_friends_19 : decode cX9_friends 19 = .ok (.goto 5, 3) := by decide +kernel
theorem dX9_crush_0 : decode cX9_crush 0 = .ok (.aload_n 0, 1) := by decide +kernel
theorem dX9_crush_1 : decode cX9_crush 1 = .ok (.getfield 20, 3) := by decide +kernel
theorem dX9_crush_4 : decode cX9_crush 4 = .ok (.invokevirtual 184, 3) := by decide +kernel
theorem dX9_crush_7 : decode cX9_crush 7 = .ok (.ifCond .ne 6, 3) := by decide +kernel
theorem dX9_crush_13 : decode cX9_crush 13 = .ok (.iconst 0, 1) := by decide +kernel
theorem dX9_crush_14 : decode cX9_crush 14 = .ok (.istore_n 1, 1) := by decide +kernel
theorem dX9_crush_15 : decode cX9_crush 15 = .ok (.iconst 0, 1) := by decide +kernel
theorem dX9_crush_16 : decode cX9_crush 16 = .ok (.istore_n 2, 1) := by decide +kernel
theorem dX9_crush_17 : decode cX9_crush 17 = .ok (.iload_n 2, 1) := by decide +kernel
theorem dX9_crush_18 : decode cX9_crush 18 = .ok (.aload_n 0, 1) := by decide +kernel
theorem dX9_crush_19 : decode cX9_crush 19 = .ok (.getfield 20, 3) := by decide +kernel
theorem dX9_crush_22 : decode cX9_crush 22 = .ok (.getfield 169, 3) := by decide +kernel
theorem dX9_crush_25 : decode cX9_crush 25 = .ok (.if_icmp .gt 19, 3) := by decide +kernel
theorem dX9_crush_28 : decode cX9_crush 28 = .ok (.iload_n 1, 1) := by decide +kernel
theorem dX9_crush_29 : decode cX9_crush 29 = .ok (.aload_n 0, 1) := by decide +kernel
theorem dX9_crush_30 : decode cX9_crush 30 = .ok (.iload_n 2, 1) := by decide +kernel
theorem dX9_crush_31 : decode cX9_crush 31 = .ok (.invokevirtual 188, 3) := by decide +kernel
theorem dX9_fullest_0 : decode cX9_fullest 0 = .ok (.iconst 0, 1) := by decide +kernel
theorem dX9_fullest_1 : decode cX9_fullest 1 = .ok (.istore_n 2, 1) := by decide +kernel
theorem dX9_fullest_2 : decode cX9_fullest 2 = .ok (.iconst 0, 1) := by decide +kernel
theorem dX9_fullest_3 : decode cX9_fullest 3 = .ok (.istore_n 3, 1) := by decide +kernel
theorem dX9_fullest_4 : decode cX9_fullest 4 = .ok (.iload_n 3, 1) := by decide +kernel
theorem dX9_fullest_5 : decode cX9_fullest 5 = .ok (.aload_n 0, 1) := by decide +kernel
theorem dX9_fullest_6 : decode cX9_fullest 6 = .ok (.getfield 20, 3) := by decide +kernel
theorem dX9_fullest_9 : decode cX9_fullest 9 = .ok (.getfield 133, 3) := by decide +kernel
theorem dX9_fullest_12 : decode cX9_fullest 12 = .ok (.getfield 200, 3) := by decide +kernel
theorem dX9_fullest_15 : decode cX9_fullest 15 = .ok (.if_icmp .ge 26, 3) := by decide +kernel
theorem dX9_fullest_41 : decode cX9_fullest 41 = .ok (.iload_n 2, 1) := by decide +kernel
theorem dX9_fullest_42 : decode cX9_fullest 42 = .ok (.ireturn, 1) := by decide +kernel
theorem dX9_fullest_18 : decode cX9_fullest 18 = .ok (.iload_n 2, 1) := by decide +kernel
theorem dX9_fullest_19 : decode cX9_fullest 19 = .ok (.aload_n 0, 1) := by decide +kernel
theorem dX9_fullest_20 : decode cX9_fullest 20 = .ok (.getfield 54, 3) := by decide +kernel
theorem dX9_fullest_23 : decode cX9_fullest 23 = .ok (.iload_n 3, 1) := by decide +kernel
theorem dX9_fullest_24 : decode cX9_fullest 24 = .ok (.iload_n 1, 1) := by decide +kernel
theorem dX9_fullest_25 : decode cX9_fullest 25 = .ok (.invokevirtual 172, 3) := by decide +kernel
theorem dX9_fullest_28 : decode cX9_fullest 28 = .ok (.invokestatic 203, 3) := by decide +kernel
theorem dJ6_bitCount_0f7a4_0 : decode cJ6_bitCount_0f7a4 0 = .ok (.iload_n 0, 1) := by decide +kernel
theorem dJ6_bitCount_0f7a4_1 : decode cJ6_bitCount_0f7a4 1 = .ok (.iload_n 0, 1) := by decide +kernel
theorem dJ6_bitCount_0f7a4_2 : decode cJ6_bitCount_0f7a4 2 = .ok (.iconst 1, 1) := by decide +kernel
theorem dJ6_bitCount_0f7a4_3 : decode cJ6_bitCount_0f7a4 3 = .ok (.iushr, 1) := by decide +kernel
theorem dJ6_bitCount_0f7a4_4 : decode cJ6_bitCount_0f7a4 4 = .ok (.ldc_w 265, 3) := by decide +kernel
theorem dJ6_bitCount_0f7a4_7 : decode cJ6_bitCount_0f7a4 7 = .ok (.iand, 1) := by decide +kernel
theorem dJ6_bitCount_0f7a4_8 : decode cJ6_bitCount_0f7a4 8 = .ok (.isub, 1) := by decide +kernel
theorem dJ6_bitCount_0f7a4_9 : decode cJ6_bitCount_0f7a4 9 = .ok (.istore_n 0, 1) := by decide +kernel
theorem dJ6_bitCount_0f7a4_10 : decode cJ6_bitCount_0f7a4 10 = .ok (.iload_n 0, 1) := by decide +kernel
theorem dJ6_bitCount_0f7a4_11 : decode cJ6_bitCount_0f7a4 11 = .ok (.ldc_w 266, 3) := by decide +kernel
theorem dJ6_bitCount_0f7a4_14 : decode cJ6_bitCount_0f7a4 14 = .ok (.iand, 1) := by decide +kernel
theorem dJ6_bitCount_0f7a4_15 : decode cJ6_bitCount_0f7a4 15 = .ok (.iload_n 0, 1) := by decide +kernel
theorem dJ6_bitCount_0f7a4_16 : decode cJ6_bitCount_0f7a4 16 = .ok (.iconst 2, 1) := by decide +kernel
theorem dJ6_bitCount_0f7a4_17 : decode cJ6_bitCount_0f7a4 17 = .ok (.iushr, 1) := by decide +kernel
theorem dJ6_bitCount_0f7a4_18 : decode cJ6_bitCount_0f7a4 18 = .ok (.ldc_w 266, 3) := by decide +kernel
theorem dJ6_bitCount_0f7a4_21 : decode cJ6_bitCount_0f7a4 21 = .ok (.iand, 1) := by decide +kernel
theorem dJ6_bitCount_0f7a4_22 : decode cJ6_bitCount_0f7a4 22 = .ok (.iadd, 1) := by decide +kernel
theorem dJ6_bitCount_0f7a4_23 : decode cJ6_bitCount_0f7a4 23 = .ok (.istore_n 0, 1) := by decide +kernel
theorem dJ6_bitCount_0f7a4_24 : decode cJ6_bitCount_0f7a4 24 = .ok (.iload_n 0, 1) := by decide +kernel
theorem dJ6_bitCount_0f7a4_25 : decode cJ6_bitCount_0f7a4 25 = .ok (.iload_n 0, 1) := by decide +kernel
theorem dJ6_bitCount_0f7a4_26 : decode cJ6_bitCount_0f7a4 26 = .ok (.iconst 4, 1) := by decide +kernel
theorem dJ6_bitCount_0f7a4_27 : decode cJ6_bitCount_0f7a4 27 = .ok (.iushr, 1) := by decide +kernel
theorem dJ6_bitCount_0f7a4_28 : decode cJ6_bitCount_0f7a4 28 = .ok (.iadd, 1) := by decide +kernel
theorem dJ6_bitCount_0f7a4_29 : decode cJ6_bitCount_0f7a4 29 = .ok (.ldc_w 267, 3) := by decide +kernel
theorem dJ6_bitCount_0f7a4_32 : decode cJ6_bitCount_0f7a4 32 = .ok (.iand, 1) := by decide +kernel
theorem dJ6_bitCount_0f7a4_33 : decode cJ6_bitCount_0f7a4 33 = .ok (.istore_n 0, 1) := by decide +kernel
theorem dJ6_bitCount_0f7a4_34 : decode cJ6_bitCount_0f7a4 34 = .ok (.iload_n 0, 1) := by decide +kernel
theorem dJ6_bitCount_0f7a4_35 : decode cJ6_bitCount_0f7a4 35 = .ok (.iload_n 0, 1) := by decide +kernel
theorem dJ6_bitCount_0f7a4_36 : decode cJ6_bitCount_0f7a4 36 = .ok (.bipush 8, 2) := by decide +kernel
theorem dJ6_bitCount_0f7a4_38 : decode cJ6_bitCount_0f7a4 38 = .ok (.iushr, 1) := by decide +kernel
theorem dJ6_bitCount_0f7a4_39 : decode cJ6_bitCount_0f7a4 39 = .ok (.iadd, 1) := by decide +kernel
theorem dJ6_bitCount_0f7a4_40 : decode cJ6_bitCount_0f7a4 40 = .ok (.istore_n 0, 1) := by decide +kernel
theorem dJ6_bitCount_0f7a4_41 : decode cJ6_bitCount_0f7a4 41 = .ok (.iload_n 0, 1) := by decide +kernel
theorem dJ6_bitCount_0f7a4_42 : decode cJ6_bitCount_0f7a4 42 = .ok (.iload_n 0, 1) := by decide +kernel
theorem dJ6_bitCount_0f7a4_43 : decode cJ6_bitCount_0f7a4 43 = .ok (.bipush 16, 2) := by decide +kernel
theorem dJ6_bitCount_0f7a4_45 : decode cJ6_bitCount_0f7a4 45 = .ok (.iushr, 1) := by decide +kernel
theorem dJ6_bitCount_0f7a4_46 : decode cJ6_bitCount_0f7a4 46 = .ok (.iadd, 1) := by decide +kernel
theorem dJ6_bitCount_0f7a4_47 : decode cJ6_bitCount_0f7a4 47 = .ok (.istore_n 0, 1) := by decide +kernel
theorem dJ6_bitCount_0f7a4_48 : decode cJ6_bitCount_0f7a4 48 = .ok (.iload_n 0, 1) := by decide +kernel
theorem dJ6_bitCount_0f7a4_49 : decode cJ6_bitCount_0f7a4 49 = .ok (.bipush 63, 2) := by decide +kernel
theorem dJ6_bitCount_0f7a4_51 : decode cJ6_bitCount_0f7a4 51 = .ok (.iand, 1) := by decide +kernel
theorem dJ6_bitCount_0f7a4_52 : decode cJ6_bitCount_0f7a4 52 = .ok (.ireturn, 1) := by decide +kernel
theorem dX9_fullest_31 : decode cX9_fullest 31 = .ok (.invokestatic 191, 3) := by decide +kernel
theorem dX9_fullest_34 : decode cX9_fullest 34 = .ok (.istore_n 2, 1) := by decide +kernel
theorem dX9_fullest_35 : decode cX9_fullest 35 = .ok (.iinc 3 1, 3) := by decide +kernel
theorem dX9_fullest_38 : decode cX9_fullest 38 = .ok (.goto (-34), 3) := by decide +kernel
theorem dX9_crush_34 : decode cX9_crush 34 = .ok (.invokestatic 191, 3) := by decide +kernel
theorem dX9_crush_37 : decode cX9_crush 37 = .ok (.istore_n 1, 1) := by decide +kernel
theorem dX9_crush_38 : decode cX9_crush 38 = .ok (.iinc 2 1, 3) := by decide +kernel
theorem dX9_crush_41 : decode cX9_crush 41 = .ok (.goto (-24), 3) := by decide +kernel
theorem dX9_crush_44 : decode cX9_crush 44 = .ok (.iload_n 1, 1) := by decide +kernel
theorem dX9_crush_45 : decode cX9_crush 45 = .ok (.ireturn, 1) := by decide +kernel
theorem dX9_crush_10 : decode cX9_crush 10 = .ok (.bipush (-2), 2) := by decide +kernel
theorem dX9_crush_12 : decode cX9_crush 12 = .ok (.ireturn, 1) := by decide +kernel
theorem dX9_crushed_0 : decode cX9_crushed 0 = .ok (.aload_n 0, 1) := by decide +kernel
theorem dX9_crushed_1 : decode cX9_crushed 1 = .ok (.invokevirtual 196, 3) := by decide +kernel
theorem dX9_crushed_4 : decode cX9_crushed 4 = .ok (.istore_n 1, 1) := by decide +kernel
theorem dX9_crushed_5 : decode cX9_crushed 5 = .ok (.iload_n 1, 1) := by decide +kernel
theorem dX9_crushed_6 : decode cX9_crushed 6 = .ok (.ifCond .ge 6, 3) := by decide +kernel
theorem dX9_crushed_12 : decode cX9_crushed 12 = .ok (.iconst 0, 1) := by decide +kernel
theorem dX9_crushed_13 : decode cX9_crushed 13 = .ok (.istore_n 2, 1) := by decide +kernel
theorem dX9_crushed_14 : decode cX9_crushed 14 = .ok (.iload_n 2, 1) := by decide +kernel
theorem dX9_crushed_15 : decode cX9_crushed 15 = .ok (.aload_n 0, 1) := by decide +kernel
theorem dX9_crushed_16 : decode cX9_crushed 16 = .ok (.getfield 20, 3) := by decide +kernel
theorem dX9_crushed_19 : decode cX9_crushed 19 = .ok (.getfield 169, 3) := by decide +kernel
theorem dX9_crushed_22 : decode cX9_crushed 22 = .ok (.if_icmp .gt 20, 3) := by decide +kernel
theorem dX9_crushed_25 : decode cX9_crushed 25 = .ok (.aload_n 0, 1) := by decide +kernel
theorem dX9_crushed_26 : decode cX9_crushed 26 = .ok (.iload_n 2, 1) := by decide +kernel
theorem dX9_crushed_27 : decode cX9_crushed 27 = .ok (.invokevirtual 188, 3) := by decide +kernel
theorem dX9_crushed_30 : decode cX9_crushed 30 = .ok (.iload_n 1, 1) := by decide +kernel
theorem dX9_crushed_31 : decode cX9_crushed 31 = .ok (.if_icmp .ne 5, 3) := by decide +kernel
theorem dX9_crushed_36 : decode cX9_crushed 36 = .ok (.iinc 2 1, 3) := by decide +kernel
theorem dX9_crushed_39 : decode cX9_crushed 39 = .ok (.goto (-25), 3) := by decide +kernel
theorem dX9_crushed_34 : decode cX9_crushed 34 = .ok (.iload_n 2, 1) := by decide +kernel
theorem dX9_crushed_35 : decode cX9_crushed 35 = .ok (.ireturn, 1) := by decide +kernel
theorem dX9_crushed_42 : decode cX9_crushed 42 = .ok (.bipush (-2), 2) := by decide +kernel
theorem dX9_crushed_44 : decode cX9_crushed 44 = .ok (.ireturn, 1) := by decide +kernel
theorem dX9_crushed_9 : decode cX9_crushed 9 = .ok (.bipush (-2), 2) := by decide +kernel
theorem dX9_crushed_11 : decode cX9_crushed 11 = .ok (.ireturn, 1) := by decide +kernel
theorem dX9_likes_0 : decode cX9_likes 0 = .ok (.aload_n 0, 1) := by decide +kernel
theorem dX9_likes_1 : decode cX9_likes 1 = .ok (.getfield 20, 3) := by decide +kernel
theorem dX9_likes_4 : decode cX9_likes 4 = .ok (.iload_n 1, 1) := by decide +kernel
theorem dX9_likes_5 : decode cX9_likes 5 = .ok (.invokevirtual 139, 3) := by decide +kernel
theorem dX9_likes_8 : decode cX9_likes 8 = .ok (.ifCond .ne 6, 3) := by decide +kernel
theorem dX9_likes_14 : decode cX9_likes 14 = .ok (.iconst 0, 1) := by decide +kernel
theorem dX9_likes_15 : decode cX9_likes 15 = .ok (.istore_n 2, 1) := by decide +kernel
theorem dX9_likes_16 : decode cX9_likes 16 = .ok (.iconst 0, 1) := by decide +kernel
theorem dX9_likes_17 : decode cX9_likes 17 = .ok (.istore_n 3, 1) := by decide +kernel
theorem dX9_likes_18 : decode cX9_likes 18 = .ok (.iconst 0, 1) := by decide +kernel
theorem dX9_likes_19 : decode cX9_likes 19 = .ok (.istore 4, 2) := by decide +kernel
theorem dX9_likes_21 : decode cX9_likes 21 = .ok (.iload 4, 2) := by decide +kernel
theorem dX9_likes_23 : decode cX9_likes 23 = .ok (.aload_n 0, 1) := by decide +kernel
theorem dX9_likes_24 : decode cX9_likes 24 = .ok (.getfield 20, 3) := by decide +kernel
theorem dX9_likes_27 : decode cX9_likes 27 = .ok (.getfield 208, 3) := by decide +kernel
theorem dX9_likes_30 : decode cX9_likes 30 = .ok (.if_icmp .ge 33, 3) := by decide +kernel
theorem dX9_likes_63 : decode cX9_likes 63 = .ok (.iload_n 2, 1) := by decide +kernel
theorem dX9_likes_64 : decode cX9_likes 64 = .ok (.ireturn, 1) := by decide +kernel
theorem dX9_likes_33 : decode cX9_likes 33 = .ok (.aload_n 0, 1) := by decide +kernel
theorem dX9_likes_34 : decode cX9_likes 34 = .ok (.getfield 54, 3) := by decide +kernel
theorem dX9_likes_37 : decode cX9_likes 37 = .ok (.iload_n 1, 1) := by decide +kernel
theorem dX9_likes_38 : decode cX9_likes 38 = .ok (.iload 4, 2) := by decide +kernel
theorem dX9_likes_40 : decode cX9_likes 40 = .ok (.invokevirtual 211, 3) := by decide +kernel
theorem dX2_dancesIn_0 : decode cX2_dancesIn 0 = .ok (.iconst 0, 1) := by decide +kernel
theorem dX2_dancesIn_1 : decode cX2_dancesIn 1 = .ok (.istore_n 3, 1) := by decide +kernel
theorem dX2_dancesIn_2 : decode cX2_dancesIn 2 = .ok (.iconst 0, 1) := by decide +kernel
theorem dX2_dancesIn_3 : decode cX2_dancesIn 3 = .ok (.istore 4, 2) := by decide +kernel
theorem dX2_dancesIn_5 : decode cX2_dancesIn 5 = .ok (.iload 4, 2) := by decide +kernel
theorem dX2_dancesIn_7 : decode cX2_dancesIn 7 = .ok (.aload_n 0, 1) := by decide +kernel
theorem dX2_dancesIn_8 : decode cX2_dancesIn 8 = .ok (.getfield 67, 3) := by decide +kernel
theorem dX2_dancesIn_11 : decode cX2_dancesIn 11 = .ok (.if_icmp .gt 23, 3) := by decide +kernel
theorem dX2_dancesIn_14 : decode cX2_dancesIn 14 = .ok (.aload_n 0, 1) := by decide +kernel
theorem dX2_dancesIn_15 : decode cX2_dancesIn 15 = .ok (.iload_n 1, 1) := by decide +kernel
theorem dX2_dancesIn_16 : decode cX2_dancesIn 16 = .ok (.iload 4, 2) := by decide +kernel
theorem dX2_dancesIn_18 : decode cX2_dancesIn 18 = .ok (.invokevirtual 111, 3) := by decide +kernel
theorem dX2_dancesIn_21 : decode cX2_dancesIn 21 = .ok (.iload_n 2, 1) := by decide +kernel
theorem dX2_dancesIn_22 : decode cX2_dancesIn 22 = .ok (.if_icmp .ne 6, 3) := by decide +kernel
theorem dX2_dancesIn_28 : decode cX2_dancesIn 28 = .ok (.iinc 4 1, 3) := by decide +kernel
theorem dX2_dancesIn_31 : decode cX2_dancesIn 31 = .ok (.goto (-26), 3) := by decide +kernel
theorem dX2_dancesIn_25 : decode cX2_dancesIn 25 = .ok (.iinc 3 1, 3) := by decide +kernel
theorem dX2_dancesIn_34 : decode cX2_dancesIn 34 = .ok (.iload_n 3, 1) := by decide +kernel
theorem dX2_dancesIn_35 : decode cX2_dancesIn 35 = .ok (.ireturn, 1) := by decide +kernel
theorem dX9_likes_43 : decode cX9_likes 43 = .ok (.istore 5, 2) := by decide +kernel
theorem dX9_likes_45 : decode cX9_likes 45 = .ok (.iload 5, 2) := by decide +kernel
theorem dX9_likes_47 : decode cX9_likes 47 = .ok (.iload_n 3, 1) := by decide +kernel
theorem dX9_likes_48 : decode cX9_likes 48 = .ok (.if_icmp .le 9, 3) := by decide +kernel
theorem dX9_likes_57 : decode cX9_likes 57 = .ok (.iinc 4 1, 3) := by decide +kernel
theorem dX9_likes_60 : decode cX9_likes 60 = .ok (.goto (-39), 3) := by decide +kernel
theorem dX9_likes_51 : decode cX9_likes 51 = .ok (.iload 5, 2) := by decide +kernel
theorem dX9_likes_53 : decode cX9_likes 53 = .ok (.istore_n 3, 1) := by decide +kernel
theorem dX9_likes_54 : decode cX9_likes 54 = .ok (.iload 4, 2) := by decide +kernel
theorem dX9_likes_56 : decode cX9_likes 56 = .ok (.istore_n 2, 1) := by decide +kernel
theorem dX9_likes_11 : decode cX9_likes 11 = .ok (.bipush (-2), 2) := by decide +kernel
theorem dX9_likes_13 : decode cX9_likes 13 = .ok (.ireturn, 1) := by decide +kernel
theorem dX9_apart_0 : decode cX9_apart 0 = .ok (.aload_n 0, 1) := by decide +kernel
theorem dX9_apart_1 : decode cX9_apart 1 = .ok (.getfield 20, 3) := by decide +kernel
theorem dX9_apart_4 : decode cX9_apart 4 = .ok (.iload_n 1, 1) := by decide +kernel
theorem dX9_apart_5 : decode cX9_apart 5 = .ok (.invokevirtual 139, 3) := by decide +kernel
theorem dX9_apart_8 : decode cX9_apart 8 = .ok (.ifCond .eq 25, 3) := by decide +kernel
theorem dX9_apart_33 : decode cX9_apart 33 = .ok (.bipush (-2), 2) := by decide +kernel
theorem dX9_apart_35 : decode cX9_apart 35 = .ok (.ireturn, 1) := by decide +kernel
theorem dX9_apart_11 : decode cX9_apart 11 = .ok (.aload_n 0, 1) := by decide +kernel
theorem dX9_apart_12 : decode cX9_apart 12 = .ok (.getfield 20, 3) := by decide +kernel
theorem dX9_apart_15 : decode cX9_apart 15 = .ok (.iload_n 2, 1) := by decide +kernel
theorem dX9_apart_16 : decode cX9_apart 16 = .ok (.invokevirtual 139, 3) := by decide +kernel
theorem dX9_apart_19 : decode cX9_apart 19 = .ok (.ifCond .eq 14, 3) := by decide +kernel
theorem dX9_apart_22 : decode cX9_apart 22 = .ok (.aload_n 0, 1) := by decide +kernel
theorem dX9_apart_23 : decode cX9_apart 23 = .ok (.getfield 20, 3) := by decide +kernel
theorem dX9_apart_26 : decode cX9_apart 26 = .ok (.iload_n 3, 1) := by decide +kernel
theorem dX9_apart_27 : decode cX9_apart 27 = .ok (.invokevirtual 153, 3) := by decide +kernel
theorem dX9_apart_30 : decode cX9_apart 30 = .ok (.ifCond .ne 6, 3) := by decide +kernel
theorem dX9_apart_36 : decode cX9_apart 36 = .ok (.aload_n 0, 1) := by decide +kernel
theorem dX9_apart_37 : decode cX9_apart 37 = .ok (.getfield 54, 3) := by decide +kernel
theorem dX9_apart_40 : decode cX9_apart 40 = .ok (.iload_n 1, 1) := by decide +kernel
theorem dX9_apart_41 : decode cX9_apart 41 = .ok (.aload_n 0, 1) := by decide +kernel
theorem dX9_apart_42 : decode cX9_apart 42 = .ok (.getfield 54, 3) := by decide +kernel
theorem dX9_apart_45 : decode cX9_apart 45 = .ok (.iload_n 1, 1) := by decide +kernel
theorem dX9_apart_46 : decode cX9_apart 46 = .ok (.iload_n 3, 1) := by decide +kernel
theorem dX9_apart_47 : decode cX9_apart 47 = .ok (.invokevirtual 159, 3) := by decide +kernel
theorem dX9_apart_50 : decode cX9_apart 50 = .ok (.aload_n 0, 1) := by decide +kernel
theorem dX9_apart_51 : decode cX9_apart 51 = .ok (.getfield 54, 3) := by decide +kernel
theorem dX9_apart_54 : decode cX9_apart 54 = .ok (.iload_n 2, 1) := by decide +kernel
theorem dX9_apart_55 : decode cX9_apart 55 = .ok (.iload_n 3, 1) := by decide +kernel
theorem dX9_apart_56 : decode cX9_apart 56 = .ok (.invokevirtual 159, 3) := by decide +kernel
theorem dX9_apart_59 : decode cX9_apart 59 = .ok (.invokevirtual 146, 3) := by decide +kernel
theorem dX9_apart_62 : decode cX9_apart 62 = .ok (.ireturn, 1) := by decide +kernel
theorem dX9_alone_0 : decode cX9_alone 0 = .ok (.aload_n 0, 1) := by decide +kernel
theorem dX9_alone_1 : decode cX9_alone 1 = .ok (.getfield 20, 3) := by decide +kernel
theorem dX9_alone_4 : decode cX9_alone 4 = .ok (.iload_n 1, 1) := by decide +kernel
theorem dX9_alone_5 : decode cX9_alone 5 = .ok (.invokevirtual 153, 3) := by decide +kernel
theorem dX9_alone_8 : decode cX9_alone 8 = .ok (.ifCond .ne 6, 3) := by decide +kernel
theorem dX9_alone_14 : decode cX9_alone 14 = .ok (.iconst 0, 1) := by decide +kernel
theorem dX9_alone_15 : decode cX9_alone 15 = .ok (.istore_n 2, 1) := by decide +kernel
theorem dX9_alone_16 : decode cX9_alone 16 = .ok (.iconst 0, 1) := by decide +kernel
theorem dX9_alone_17 : decode cX9_alone 17 = .ok (.istore_n 3, 1) := by decide +kernel
theorem dX9_alone_18 : decode cX9_alone 18 = .ok (.iload_n 3, 1) := by decide +kernel
theorem dX9_alone_19 : decode cX9_alone 19 = .ok (.aload_n 0, 1) := by decide +kernel
theorem dX9_alone_20 : decode cX9_alone 20 = .ok (.getfield 20, 3) := by decide +kernel
theorem dX9_alone_23 : decode cX9_alone 23 = .ok (.getfield 133, 3) := by decide +kernel
theorem dX9_alone_26 : decode cX9_alone 26 = .ok (.getfield 200, 3) := by decide +kernel
theorem dX9_alone_29 : decode cX9_alone 29 = .ok (.if_icmp .ge 30, 3) := by decide +kernel
theorem dX9_alone_59 : decode cX9_alone 59 = .ok (.iload_n 2, 1) := by decide +kernel
theorem dX9_alone_60 : decode cX9_alone 60 = .ok (.ireturn, 1) := by decide +kernel
theorem dX9_alone_32 : decode cX9_alone 32 = .ok (.aload_n 0, 1) := by decide +kernel
theorem dX9_alone_33 : decode cX9_alone 33 = .ok (.getfield 54, 3) := by decide +kernel
theorem dX9_alone_36 : decode cX9_alone 36 = .ok (.iload_n 3, 1) := by decide +kernel
theorem dX9_alone_37 : decode cX9_alone 37 = .ok (.iload_n 1, 1) := by decide +kernel
theorem dX9_alone_38 : decode cX9_alone 38 = .ok (.invokevirtual 172, 3) := by decide +kernel
theorem dX9_alone_41 : decode cX9_alone 41 = .ok (.iconst 1, 1) := by decide +kernel
theorem dX9_alone_42 : decode cX9_alone 42 = .ok (.iload_n 3, 1) := by decide +kernel
theorem dX9_alone_43 : decode cX9_alone 43 = .ok (.ishl, 1) := by decide +kernel
theorem dX9_alone_44 : decode cX9_alone 44 = .ok (.if_icmp .ne 9, 3) := by decide +kernel
theorem dX9_alone_53 : decode cX9_alone 53 = .ok (.iinc 3 1, 3) := by decide +kernel
theorem dX9_alone_56 : decode cX9_alone 56 = .ok (.goto (-38), 3) := by decide +kernel
theorem dX9_alone_47 : decode cX9_alone 47 = .ok (.iload_n 2, 1) := by decide +kernel
theorem dX9_alone_48 : decode cX9_alone 48 = .ok (.iconst 1, 1) := by decide +kernel
theorem dX9_alone_49 : decode cX9_alone 49 = .ok (.iload_n 3, 1) := by decide +kernel
theorem dX9_alone_50 : decode cX9_alone 50 = .ok (.ishl, 1) := by decide +kernel
theorem dX9_alone_51 : decode cX9_alone 51 = .ok (.ior, 1) := by decide +kernel
theorem dX9_alone_52 : decode cX9_alone 52 = .ok (.istore_n 2, 1) := by decide +kernel
theorem dX9_alone_11 : decode cX9_alone 11 = .ok (.bipush (-2), 2) := by decide +kernel
theorem dX9_alone_13 : decode cX9_alone 13 = .ok (.ireturn, 1) := by decide +kernel
theorem dX9_empty_0 : decode cX9_empty 0 = .ok (.aload_n 0, 1) := by decide +kernel
theorem dX9_empty_1 : decode cX9_empty 1 = .ok (.getfield 20, 3) := by decide +kernel
theorem dX9_empty_4 : decode cX9_empty 4 = .ok (.iload_n 1, 1) := by decide +kernel
theorem dX9_empty_5 : decode cX9_empty 5 = .ok (.invokevirtual 153, 3) := by decide +kernel
theorem dX9_empty_8 : decode cX9_empty 8 = .ok (.ifCond .ne 6, 3) := by decide +kernel
theorem dX9_empty_14 : decode cX9_empty 14 = .ok (.iconst 0, 1) := by decide +kernel
theorem dX9_empty_15 : decode cX9_empty 15 = .ok (.istore_n 2, 1) := by decide +kernel
theorem dX9_empty_16 : decode cX9_empty 16 = .ok (.iconst 0, 1) := by decide +kernel
theorem dX9_empty_17 : decode cX9_empty 17 = .ok (.istore_n 3, 1) := by decide +kernel
theorem dX9_empty_18 : decode cX9_empty 18 = .ok (.iload_n 3, 1) := by decide +kernel
theorem dX9_empty_19 : decode cX9_empty 19 = .ok (.aload_n 0, 1) := by decide +kernel
theorem dX9_empty_20 : decode cX9_empty 20 = .ok (.getfield 20, 3) := by decide +kernel
theorem dX9_empty_23 : decode cX9_empty 23 = .ok (.getfield 208, 3) := by decide +kernel
theorem dX9_empty_26 : decode cX9_empty 26 = .ok (.if_icmp .ge 27, 3) := by decide +kernel
theorem dX9_empty_53 : decode cX9_empty 53 = .ok (.iload_n 2, 1) := by decide +kernel
theorem dX9_empty_54 : decode cX9_empty 54 = .ok (.ireturn, 1) := by decide +kernel
theorem dX9_empty_29 : decode cX9_empty 29 = .ok (.aload_n 0, 1) := by decide +kernel
theorem dX9_empty_30 : decode cX9_empty 30 = .ok (.getfield 54, 3) := by decide +kernel
theorem dX9_empty_33 : decode cX9_empty 33 = .ok (.iload_n 3, 1) := by decide +kernel
theorem dX9_empty_34 : decode cX9_empty 34 = .ok (.iload_n 1, 1) := by decide +kernel
theorem dX9_empty_35 : decode cX9_empty 35 = .ok (.invokevirtual 162, 3) := by decide +kernel
theorem dX9_empty_38 : decode cX9_empty 38 = .ok (.ifCond .ne 9, 3) := by decide +kernel
theorem dX9_empty_47 : decode cX9_empty 47 = .ok (.iinc 3 1, 3) := by decide +kernel
theorem dX9_empty_50 : decode cX9_empty 50 = .ok (.goto (-32), 3) := by decide +kernel
theorem dX9_empty_41 : decode cX9_empty 41 = .ok (.iload_n 2, 1) := by decide +kernel
theorem dX9_empty_42 : decode cX9_empty 42 = .ok (.iconst 1, 1) := by decide +kernel
theorem dX9_empty_43 : decode cX9_empty 43 = .ok (.iload_n 3, 1) := by decide +kernel
theorem dX9_empty_44 : decode cX9_empty 44 = .ok (.ishl, 1) := by decide +kernel
theorem dX9_empty_45 : decode cX9_empty 45 = .ok (.ior, 1) := by decide +kernel
theorem dX9_empty_46 : decode cX9_empty 46 = .ok (.istore_n 2, 1) := by decide +kernel
theorem dX9_empty_11 : decode cX9_empty 11 = .ok (.bipush (-2), 2) := by decide +kernel
theorem dX9_empty_13 : decode cX9_empty 13 = .ok (.ireturn, 1) := by decide +kernel
theorem dX9_late_0 : decode cX9_late 0 = .ok (.aload_n 0, 1) := by decide +kernel
theorem dX9_late_1 : decode cX9_late 1 = .ok (.getfield 20, 3) := by decide +kernel
theorem dX9_late_4 : decode cX9_late 4 = .ok (.iload_n 1, 1) := by decide +kernel
theorem dX9_late_5 : decode cX9_late 5 = .ok (.invokevirtual 139, 3) := by decide +kernel
theorem dX9_late_8 : decode cX9_late 8 = .ok (.ifCond .ne 6, 3) := by decide +kernel
theorem dX9_late_14 : decode cX9_late 14 = .ok (.aload_n 0, 1) := by decide +kernel
theorem dX9_late_15 : decode cX9_late 15 = .ok (.getfield 20, 3) := by decide +kernel
theorem dX9_late_18 : decode cX9_late 18 = .ok (.getfield 169, 3) := by decide +kernel
theorem dX9_late_21 : decode cX9_late 21 = .ok (.istore_n 2, 1) := by decide +kernel
theorem dX9_late_22 : decode cX9_late 22 = .ok (.iload_n 2, 1) := by decide +kernel
theorem dX9_late_23 : decode cX9_late 23 = .ok (.ifCond .le 34, 3) := by decide +kernel
theorem dX9_late_57 : decode cX9_late 57 = .ok (.iconst (-1), 1) := by decide +kernel
theorem dX9_late_58 : decode cX9_late 58 = .ok (.ireturn, 1) := by decide +kernel
theorem dX9_late_26 : decode cX9_late 26 = .ok (.aload_n 0, 1) := by decide +kernel
theorem dX9_late_27 : decode cX9_late 27 = .ok (.getfield 54, 3) := by decide +kernel
theorem dX9_late_30 : decode cX9_late 30 = .ok (.iload_n 1, 1) := by decide +kernel
theorem dX9_late_31 : decode cX9_late 31 = .ok (.iload_n 2, 1) := by decide +kernel
theorem dX9_late_32 : decode cX9_late 32 = .ok (.invokevirtual 159, 3) := by decide +kernel
theorem dX9_late_35 : decode cX9_late 35 = .ok (.aload_n 0, 1) := by decide +kernel
theorem dX9_late_36 : decode cX9_late 36 = .ok (.getfield 54, 3) := by decide +kernel
theorem dX9_late_39 : decode cX9_late 39 = .ok (.iload_n 1, 1) := by decide +kernel
theorem dX9_late_40 : decode cX9_late 40 = .ok (.iload_n 2, 1) := by decide +kernel
theorem dX9_late_41 : decode cX9_late 41 = .ok (.iconst 1, 1) := by decide +kernel
theorem dX9_late_42 : decode cX9_late 42 = .ok (.isub, 1) := by decide +kernel
theorem dX9_late_43 : decode cX9_late 43 = .ok (.invokevirtual 159, 3) := by decide +kernel
theorem dX9_late_46 : decode cX9_late 46 = .ok (.if_icmp .eq 5, 3) := by decide +kernel
theorem dX9_late_51 : decode cX9_late 51 = .ok (.iinc 2 (-1), 3) := by decide +kernel
theorem dX9_late_54 : decode cX9_late 54 = .ok (.goto (-32), 3) := by decide +kernel
theorem dX9_late_49 : decode cX9_late 49 = .ok (.iload_n 2, 1) := by decide +kernel
theorem dX9_late_50 : decode cX9_late 50 = .ok (.ireturn, 1) := by decide +kernel
theorem dX9_late_11 : decode cX9_late 11 = .ok (.bipush (-2), 2) := by decide +kernel
theorem dX9_late_13 : decode cX9_late 13 = .ok (.ireturn, 1) := by decide +kernel
theorem dX9_waits_0 : decode cX9_waits 0 = .ok (.aload_n 0, 1) := by decide +kernel
theorem dX9_waits_1 : decode cX9_waits 1 = .ok (.getfield 20, 3) := by decide +kernel
theorem dX9_waits_4 : decode cX9_waits 4 = .ok (.iload_n 1, 1) := by decide +kernel
theorem dX9_waits_5 : decode cX9_waits 5 = .ok (.invokevirtual 139, 3) := by decide +kernel
theorem dX9_waits_8 : decode cX9_waits 8 = .ok (.ifCond .ne 6, 3) := by decide +kernel
theorem dX9_waits_14 : decode cX9_waits 14 = .ok (.iconst 0, 1) := by decide +kernel
theorem dX9_waits_15 : decode cX9_waits 15 = .ok (.istore_n 2, 1) := by decide +kernel
theorem dX9_waits_16 : decode cX9_waits 16 = .ok (.iconst 0, 1) := by decide +kernel
theorem dX9_waits_17 : decode cX9_waits 17 = .ok (.istore_n 3, 1) := by decide +kernel
theorem dX9_waits_18 : decode cX9_waits 18 = .ok (.iload_n 3, 1) := by decide +kernel
theorem dX9_waits_19 : decode cX9_waits 19 = .ok (.aload_n 0, 1) := by decide +kernel
theorem dX9_waits_20 : decode cX9_waits 20 = .ok (.getfield 20, 3) := by decide +kernel
theorem dX9_waits_23 : decode cX9_waits 23 = .ok (.getfield 169, 3) := by decide +kernel
theorem dX9_waits_26 : decode cX9_waits 26 = .ok (.if_icmp .ge 63, 3) := by decide +kernel
theorem dX9_waits_89 : decode cX9_waits 89 = .ok (.iload_n 2, 1) := by decide +kernel
theorem dX9_waits_90 : decode cX9_waits 90 = .ok (.ireturn, 1) := by decide +kernel
theorem dX9_waits_29 : decode cX9_waits 29 = .ok (.aload_n 0, 1) := by decide +kernel
theorem dX9_waits_30 : decode cX9_waits 30 = .ok (.getfield 54, 3) := by decide +kernel
theorem dX9_waits_33 : decode cX9_waits 33 = .ok (.iload_n 1, 1) := by decide +kernel
theorem dX9_waits_34 : decode cX9_waits 34 = .ok (.iload_n 3, 1) := by decide +kernel
theorem dX9_waits_35 : decode cX9_waits 35 = .ok (.invokevirtual 159, 3) := by decide +kernel
theorem dX9_waits_38 : decode cX9_waits 38 = .ok (.istore 4, 2) := by decide +kernel
theorem dX9_waits_40 : decode cX9_waits 40 = .ok (.aload_n 0, 1) := by decide +kernel
theorem dX9_waits_41 : decode cX9_waits 41 = .ok (.getfield 54, 3) := by decide +kernel
theorem dX9_waits_44 : decode cX9_waits 44 = .ok (.iload_n 1, 1) := by decide +kernel
theorem dX9_waits_45 : decode cX9_waits 45 = .ok (.iload_n 3, 1) := by decide +kernel
theorem dX9_waits_46 : decode cX9_waits 46 = .ok (.invokevirtual 156, 3) := by decide +kernel
theorem dX9_waits_49 : decode cX9_waits 49 = .ok (.istore 5, 2) := by decide +kernel
theorem dX9_waits_51 : decode cX9_waits 51 = .ok (.iload 5, 2) := by decide +kernel
theorem dX9_waits_53 : decode cX9_waits 53 = .ok (.iconst (-1), 1) := by decide +kernel
theorem dX9_waits_54 : decode cX9_waits 54 = .ok (.if_icmp .eq 29, 3) := by decide +kernel
theorem dX9_waits_83 : decode cX9_waits 83 = .ok (.iinc 3 1, 3) := by decide +kernel
theorem dX9_waits_86 : decode cX9_waits 86 = .ok (.goto (-68), 3) := by decide +kernel
theorem dX9_waits_57 : decode cX9_waits 57 = .ok (.iload 5, 2) := by decide +kernel
theorem dX9_waits_59 : decode cX9_waits 59 = .ok (.iload 4, 2) := by decide +kernel
theorem dX9_waits_61 : decode cX9_waits 61 = .ok (.if_icmp .eq 22, 3) := by decide +kernel
theorem dX9_waits_64 : decode cX9_waits 64 = .ok (.aload_n 0, 1) := by decide +kernel
theorem dX9_waits_65 : decode cX9_waits 65 = .ok (.getfield 54, 3) := by decide +kernel
theorem dX9_waits_68 : decode cX9_waits 68 = .ok (.iload_n 1, 1) := by decide +kernel
theorem dX9_waits_69 : decode cX9_waits 69 = .ok (.iload_n 3, 1) := by decide +kernel
theorem dX9_waits_70 : decode cX9_waits 70 = .ok (.iconst 1, 1) := by decide +kernel
theorem dX9_waits_71 : decode cX9_waits 71 = .ok (.iadd, 1) := by decide +kernel
theorem dX9_waits_72 : decode cX9_waits 72 = .ok (.invokevirtual 159, 3) := by decide +kernel
theorem dX9_waits_75 : decode cX9_waits 75 = .ok (.iload 4, 2) := by decide +kernel
theorem dX9_waits_77 : decode cX9_waits 77 = .ok (.if_icmp .ne 6, 3) := by decide +kernel
theorem dX9_waits_80 : decode cX9_waits 80 = .ok (.iinc 2 1, 3) := by decide +kernel
theorem dX9_waits_11 : decode cX9_waits 11 = .ok (.bipush (-2), 2) := by decide +kernel
theorem dX9_waits_13 : decode cX9_waits 13 = .ok (.ireturn, 1) := by decide +kernel
theorem dX9_mate_0 : decode cX9_mate 0 = .ok (.aload_n 0, 1) := by decide +kernel
theorem dX9_mate_1 : decode cX9_mate 1 = .ok (.getfield 20, 3) := by decide +kernel
theorem dX9_mate_4 : decode cX9_mate 4 = .ok (.iload_n 1, 1) := by decide +kernel
theorem dX9_mate_5 : decode cX9_mate 5 = .ok (.invokevirtual 139, 3) := by decide +kernel
theorem dX9_mate_8 : decode cX9_mate 8 = .ok (.ifCond .ne 6, 3) := by decide +kernel
theorem dX9_mate_14 : decode cX9_mate 14 = .ok (.iconst (-1), 1) := by decide +kernel
theorem dX9_mate_15 : decode cX9_mate 15 = .ok (.istore_n 2, 1) := by decide +kernel
theorem dX9_mate_16 : decode cX9_mate 16 = .ok (.iconst 0, 1) := by decide +kernel
theorem dX9_mate_17 : decode cX9_mate 17 = .ok (.istore_n 3, 1) := by decide +kernel
theorem dX9_mate_18 : decode cX9_mate 18 = .ok (.iconst 0, 1) := by decide +kernel
theorem dX9_mate_19 : decode cX9_mate 19 = .ok (.istore 4, 2) := by decide +kernel
theorem dX9_mate_21 : decode cX9_mate 21 = .ok (.iload 4, 2) := by decide +kernel
theorem dX9_mate_23 : decode cX9_mate 23 = .ok (.aload_n 0, 1) := by decide +kernel
theorem dX9_mate_24 : decode cX9_mate 24 = .ok (.getfield 20, 3) := by decide +kernel
theorem dX9_mate_27 : decode cX9_mate 27 = .ok (.getfield 133, 3) := by decide +kernel
theorem dX9_mate_30 : decode cX9_mate 30 = .ok (.getfield 200, 3) := by decide +kernel
theorem dX9_mate_33 : decode cX9_mate 33 = .ok (.if_icmp .ge 43, 3) := by decide +kernel
theorem dX9_mate_36 : decode cX9_mate 36 = .ok (.iload 4, 2) := by decide +kernel
theorem dX9_mate_38 : decode cX9_mate 38 = .ok (.iload_n 1, 1) := by decide +kernel
theorem dX9_mate_39 : decode cX9_mate 39 = .ok (.if_icmp .ne 7, 3) := by decide +kernel
theorem dX9_mate_46 : decode cX9_mate 46 = .ok (.aload_n 0, 1) := by decide +kernel
theorem dX9_mate_47 : decode cX9_mate 47 = .ok (.getfield 54, 3) := by decide +kernel
theorem dX9_mate_50 : decode cX9_mate 50 = .ok (.iload_n 1, 1) := by decide +kernel
theorem dX9_mate_51 : decode cX9_mate 51 = .ok (.iload 4, 2) := by decide +kernel
theorem dX9_mate_53 : decode cX9_mate 53 = .ok (.invokevirtual 178, 3) := by decide +kernel
theorem dX9_mate_56 : decode cX9_mate 56 = .ok (.istore 5, 2) := by decide +kernel
theorem dX9_mate_58 : decode cX9_mate 58 = .ok (.iload 5, 2) := by decide +kernel
theorem dX9_mate_60 : decode cX9_mate 60 = .ok (.iload_n 3, 1) := by decide +kernel
theorem dX9_mate_61 : decode cX9_mate 61 = .ok (.if_icmp .le 9, 3) := by decide +kernel
theorem dX9_mate_70 : decode cX9_mate 70 = .ok (.iinc 4 1, 3) := by decide +kernel
theorem dX9_mate_73 : decode cX9_mate 73 = .ok (.goto (-52), 3) := by decide +kernel
theorem dX9_mate_64 : decode cX9_mate 64 = .ok (.iload 5, 2) := by decide +kernel
theorem dX9_mate_66 : decode cX9_mate 66 = .ok (.istore_n 3, 1) := by decide +kernel
theorem dX9_mate_67 : decode cX9_mate 67 = .ok (.iload 4, 2) := by decide +kernel
theorem dX9_mate_69 : decode cX9_mate 69 = .ok (.istore_n 2, 1) := by decide +kernel
theorem dX9_mate_42 : decode cX9_mate 42 = .ok (.iconst 0, 1) := by decide +kernel
theorem dX9_mate_43 : decode cX9_mate 43 = .ok (.goto 13, 3) := by decide +kernel
theorem dX9_mate_76 : decode cX9_mate 76 = .ok (.iload_n 2, 1) := by decide +kernel
theorem dX9_mate_77 : decode cX9_mate 77 = .ok (.ireturn, 1) := by decide +kernel
theorem dX9_mate_11 : decode cX9_mate 11 = .ok (.bipush (-2), 2) := by decide +kernel
theorem dX9_mate_13 : decode cX9_mate 13 = .ok (.ireturn, 1) := by decide +kernel
theorem dX9_hears_0 : decode cX9_hears 0 = .ok (.aload_n 0, 1) := by decide +kernel
theorem dX9_hears_1 : decode cX9_hears 1 = .ok (.getfield 20, 3) := by decide +kernel
theorem dX9_hears_4 : decode cX9_hears 4 = .ok (.iload_n 1, 1) := by decide +kernel
theorem dX9_hears_5 : decode cX9_hears 5 = .ok (.invokevirtual 139, 3) := by decide +kernel
theorem dX9_hears_8 : decode cX9_hears 8 = .ok (.ifCond .ne 6, 3) := by decide +kernel
theorem dX9_hears_14 : decode cX9_hears 14 = .ok (.aload_n 0, 1) := by decide +kernel
theorem dX9_hears_15 : decode cX9_hears 15 = .ok (.invokevirtual 227, 3) := by decide +kernel
theorem dX9_passAsTold_0 : decode cX9_passAsTold 0 = .ok (.aload_n 0, 1) := by decide +kernel
theorem dX9_passAsTold_1 : decode cX9_passAsTold 1 = .ok (.getfield 64, 3) := by decide +kernel
theorem dX9_passAsTold_4 : decode cX9_passAsTold 4 = .ok (.aload_n 0, 1) := by decide +kernel
theorem dX9_passAsTold_5 : decode cX9_passAsTold 5 = .ok (.getfield 20, 3) := by decide +kernel
theorem dX9_passAsTold_8 : decode cX9_passAsTold 8 = .ok (.aload_n 0, 1) := by decide +kernel
theorem dX9_passAsTold_9 : decode cX9_passAsTold 9 = .ok (.getfield 20, 3) := by decide +kernel
theorem dX9_passAsTold_12 : decode cX9_passAsTold 12 = .ok (.getfield 214, 3) := by decide +kernel
theorem dX9_passAsTold_15 : decode cX9_passAsTold 15 = .ok (.iconst (-1), 1) := by decide +kernel
theorem dX9_passAsTold_16 : decode cX9_passAsTold 16 = .ok (.invokevirtual 217, 3) := by decide +kernel
theorem dX5_prepare_0 : decode cX5_prepare 0 = .ok (.aload_n 0, 1) := by decide +kernel
theorem dX5_prepare_1 : decode cX5_prepare 1 = .ok (.aload_n 1, 1) := by decide +kernel
theorem dX5_prepare_2 : decode cX5_prepare 2 = .ok (.getfield 21, 3) := by decide +kernel
theorem dX5_prepare_5 : decode cX5_prepare 5 = .ok (.getfield 27, 3) := by decide +kernel
theorem dX5_prepare_8 : decode cX5_prepare 8 = .ok (.putfield 33, 3) := by decide +kernel
theorem dX5_prepare_11 : decode cX5_prepare 11 = .ok (.aload_n 0, 1) := by decide +kernel
theorem dX5_prepare_12 : decode cX5_prepare 12 = .ok (.aload_n 1, 1) := by decide +kernel
theorem dX5_prepare_13 : decode cX5_prepare 13 = .ok (.getfield 35, 3) := by decide +kernel
theorem dX5_prepare_16 : decode cX5_prepare 16 = .ok (.putfield 38, 3) := by decide +kernel
theorem dX5_prepare_19 : decode cX5_prepare 19 = .ok (.iconst 0, 1) := by decide +kernel
theorem dX5_prepare_20 : decode cX5_prepare 20 = .ok (.istore 4, 2) := by decide +kernel
theorem dX5_prepare_22 : decode cX5_prepare 22 = .ok (.iload 4, 2) := by decide +kernel
theorem dX5_prepare_24 : decode cX5_prepare 24 = .ok (.aload_n 0, 1) := by decide +kernel
theorem dX5_prepare_25 : decode cX5_prepare 25 = .ok (.getfield 33, 3) := by decide +kernel
theorem dX5_prepare_28 : decode cX5_prepare 28 = .ok (.if_icmp .ge 22, 3) := by decide +kernel
theorem dX5_prepare_50 : decode cX5_prepare 50 = .ok (.iconst 0, 1) := by decide +kernel
theorem dX5_prepare_51 : decode cX5_prepare 51 = .ok (.istore 4, 2) := by decide +kernel
theorem dX5_prepare_53 : decode cX5_prepare 53 = .ok (.iload 4, 2) := by decide +kernel
theorem dX5_prepare_55 : decode cX5_prepare 55 = .ok (.aload_n 0, 1) := by decide +kernel
theorem dX5_prepare_56 : decode cX5_prepare 56 = .ok (.getfield 33, 3) := by decide +kernel
theorem dX5_prepare_59 : decode cX5_prepare 59 = .ok (.if_icmp .ge 74, 3) := by decide +kernel
theorem dX5_prepare_133 : decode cX5_prepare 133 = .ok (.return_, 1) := by decide +kernel
theorem dX5_prepare_31 : decode cX5_prepare 31 = .ok (.aload_n 0, 1) := by decide +kernel
theorem dX5_prepare_32 : decode cX5_prepare 32 = .ok (.getfield 15, 3) := by decide +kernel
theorem dX5_prepare_35 : decode cX5_prepare 35 = .ok (.iload 4, 2) := by decide +kernel
theorem dX5_prepare_37 : decode cX5_prepare 37 = .ok (.aload_n 1, 1) := by decide +kernel
theorem dX5_prepare_38 : decode cX5_prepare 38 = .ok (.iload 4, 2) := by decide +kernel
theorem dX5_prepare_40 : decode cX5_prepare 40 = .ok (.invokevirtual 39, 3) := by decide +kernel
theorem dX0_seatsUnder_0 : decode cX0_seatsUnder 0 = .ok (.iconst 0, 1) := by decide +kernel
theorem dX0_seatsUnder_1 : decode cX0_seatsUnder 1 = .ok (.istore_n 2, 1) := by decide +kernel
theorem dX0_seatsUnder_2 : decode cX0_seatsUnder 2 = .ok (.iconst 0, 1) := by decide +kernel
theorem dX0_seatsUnder_3 : decode cX0_seatsUnder 3 = .ok (.istore_n 3, 1) := by decide +kernel
theorem dX0_seatsUnder_4 : decode cX0_seatsUnder 4 = .ok (.iload_n 3, 1) := by decide +kernel
theorem dX0_seatsUnder_5 : decode cX0_seatsUnder 5 = .ok (.aload_n 0, 1) := by decide +kernel
theorem dX0_seatsUnder_6 : decode cX0_seatsUnder 6 = .ok (.getfield 23, 3) := by decide +kernel
theorem dX0_seatsUnder_9 : decode cX0_seatsUnder 9 = .ok (.getfield 67, 3) := by decide +kernel
theorem dX0_seatsUnder_12 : decode cX0_seatsUnder 12 = .ok (.if_icmp .ge 34, 3) := by decide +kernel
theorem dX0_seatsUnder_46 : decode cX0_seatsUnder 46 = .ok (.iload_n 2, 1) := by decide +kernel
theorem dX0_seatsUnder_47 : decode cX0_seatsUnder 47 = .ok (.ireturn, 1) := by decide +kernel
theorem dX0_seatsUnder_15 : decode cX0_seatsUnder 15 = .ok (.aload_n 0, 1) := by decide +kernel
theorem dX0_seatsUnder_16 : decode cX0_seatsUnder 16 = .ok (.getfield 23, 3) := by decide +kernel
theorem dX0_seatsUnder_19 : decode cX0_seatsUnder 19 = .ok (.iload_n 3, 1) := by decide +kernel
theorem dX0_seatsUnder_20 : decode cX0_seatsUnder 20 = .ok (.iconst 0, 1) := by decide +kernel
theorem dX0_seatsUnder_21 : decode cX0_seatsUnder 21 = .ok (.invokevirtual 70, 3) := by decide +kernel
theorem dX0_seatsUnder_24 : decode cX0_seatsUnder 24 = .ok (.iload_n 1, 1) := by decide +kernel
theorem dX0_seatsUnder_25 : decode cX0_seatsUnder 25 = .ok (.if_icmp .ne 15, 3) := by decide +kernel
theorem dX0_seatsUnder_40 : decode cX0_seatsUnder 40 = .ok (.iinc 3 1, 3) := by decide +kernel
theorem dX0_seatsUnder_43 : decode cX0_seatsUnder 43 = .ok (.goto (-39), 3) := by decide +kernel
theorem dX0_seatsUnder_28 : decode cX0_seatsUnder 28 = .ok (.iload_n 2, 1) := by decide +kernel
theorem dX0_seatsUnder_29 : decode cX0_seatsUnder 29 = .ok (.aload_n 0, 1) := by decide +kernel
theorem dX0_seatsUnder_30 : decode cX0_seatsUnder 30 = .ok (.getfield 23, 3) := by decide +kernel
theorem dX0_seatsUnder_33 : decode cX0_seatsUnder 33 = .ok (.iload_n 3, 1) := by decide +kernel
theorem dX0_seatsUnder_34 : decode cX0_seatsUnder 34 = .ok (.iconst 1, 1) := by decide +kernel
theorem dX0_seatsUnder_35 : decode cX0_seatsUnder 35 = .ok (.invokevirtual 70, 3) := by decide +kernel
theorem dX0_seatsUnder_38 : decode cX0_seatsUnder 38 = .ok (.iadd, 1) := by decide +kernel
theorem dX0_seatsUnder_39 : decode cX0_seatsUnder 39 = .ok (.istore_n 2, 1) := by decide +kernel
theorem dX5_prepare_43 : decode cX5_prepare 43 = .ok (.iastore, 1) := by decide +kernel
theorem dX5_prepare_44 : decode cX5_prepare 44 = .ok (.iinc 4 1, 3) := by decide +kernel
theorem dX5_prepare_47 : decode cX5_prepare 47 = .ok (.goto (-25), 3) := by decide +kernel
theorem dX5_prepare_62 : decode cX5_prepare 62 = .ok (.aload_n 0, 1) := by decide +kernel
theorem dX5_prepare_63 : decode cX5_prepare 63 = .ok (.getfield 9, 3) := by decide +kernel
theorem dX5_prepare_66 : decode cX5_prepare 66 = .ok (.iload 4, 2) := by decide +kernel
theorem dX5_prepare_68 : decode cX5_prepare 68 = .ok (.iconst 0, 1) := by decide +kernel
theorem dX5_prepare_69 : decode cX5_prepare 69 = .ok (.iastore, 1) := by decide +kernel
theorem dX5_prepare_70 : decode cX5_prepare 70 = .ok (.iconst 0, 1) := by decide +kernel
theorem dX5_prepare_71 : decode cX5_prepare 71 = .ok (.istore 5, 2) := by decide +kernel
theorem dX5_prepare_73 : decode cX5_prepare 73 = .ok (.iload 5, 2) := by decide +kernel
theorem dX5_prepare_75 : decode cX5_prepare 75 = .ok (.aload_n 0, 1) := by decide +kernel
theorem dX5_prepare_76 : decode cX5_prepare 76 = .ok (.getfield 33, 3) := by decide +kernel
theorem dX5_prepare_79 : decode cX5_prepare 79 = .ok (.if_icmp .ge 48, 3) := by decide +kernel
theorem dX5_prepare_82 : decode cX5_prepare 82 = .ok (.iload 4, 2) := by decide +kernel
theorem dX5_prepare_84 : decode cX5_prepare 84 = .ok (.iload_n 3, 1) := by decide +kernel
theorem dX5_prepare_85 : decode cX5_prepare 85 = .ok (.if_icmp .eq 36, 3) := by decide +kernel
theorem dX5_prepare_121 : decode cX5_prepare 121 = .ok (.iinc 5 1, 3) := by decide +kernel
theorem dX5_prepare_124 : decode cX5_prepare 124 = .ok (.goto (-51), 3) := by decide +kernel
theorem dX5_prepare_88 : decode cX5_prepare 88 = .ok (.iload 5, 2) := by decide +kernel
theorem dX5_prepare_90 : decode cX5_prepare 90 = .ok (.iload_n 3, 1) := by decide +kernel
theorem dX5_prepare_91 : decode cX5_prepare 91 = .ok (.if_icmp .eq 30, 3) := by decide +kernel
theorem dX5_prepare_94 : decode cX5_prepare 94 = .ok (.aload_n 0, 1) := by decide +kernel
theorem dX5_prepare_95 : decode cX5_prepare 95 = .ok (.aload_n 1, 1) := by decide +kernel
theorem dX5_prepare_96 : decode cX5_prepare 96 = .ok (.iload_n 2, 1) := by decide +kernel
theorem dX5_prepare_97 : decode cX5_prepare 97 = .ok (.iload 4, 2) := by decide +kernel
theorem dX5_prepare_99 : decode cX5_prepare 99 = .ok (.iload 5, 2) := by decide +kernel
theorem dX5_prepare_101 : decode cX5_prepare 101 = .ok (.invokevirtual 42, 3) := by decide +kernel
theorem dX5_mayGive_0 : decode cX5_mayGive 0 = .ok (.iload_n 2, 1) := by decide +kernel
theorem dX5_mayGive_1 : decode cX5_mayGive 1 = .ok (.tableswitch 73 0 2 #[27, 29, 45], 27) := by decide +kernel
theorem dX5_mayGive_74 : decode cX5_mayGive 74 = .ok (.aload_n 0, 1) := by decide +kernel
theorem dX5_mayGive_75 : decode cX5_mayGive 75 = .ok (.getfield 15, 3) := by decide +kernel
theorem dX5_mayGive_78 : decode cX5_mayGive 78 = .ok (.iload 4, 2) := by decide +kernel
theorem dX5_mayGive_80 : decode cX5_mayGive 80 = .ok (.iaload, 1) := by decide +kernel
theorem dX5_mayGive_81 : decode cX5_mayGive 81 = .ok (.aload_n 0, 1) := by decide +kernel
theorem dX5_mayGive_82 : decode cX5_mayGive 82 = .ok (.getfield 15, 3) := by decide +kernel
theorem dX5_mayGive_85 : decode cX5_mayGive 85 = .ok (.iload_n 3, 1) := by decide +kernel
theorem dX5_mayGive_86 : decode cX5_mayGive 86 = .ok (.iaload, 1) := by decide +kernel
theorem dX5_mayGive_87 : decode cX5_mayGive 87 = .ok (.if_icmp .ge 7, 3) := by decide +kernel
theorem dX5_mayGive_94 : decode cX5_mayGive 94 = .ok (.iconst 0, 1) := by decide +kernel
theorem dX5_mayGive_95 : decode cX5_mayGive 95 = .ok (.ireturn, 1) := by decide +kernel
theorem dX5_mayGive_90 : decode cX5_mayGive 90 = .ok (.iconst 1, 1) := by decide +kernel
theorem dX5_mayGive_91 : decode cX5_mayGive 91 = .ok (.goto 4, 3) := by decide +kernel
theorem dX5_mayGive_28 : decode cX5_mayGive 28 = .ok (.iconst 1, 1) := by decide +kernel
theorem dX5_mayGive_29 : decode cX5_mayGive 29 = .ok (.ireturn, 1) := by decide +kernel
theorem dX5_mayGive_30 : decode cX5_mayGive 30 = .ok (.aload_n 0, 1) := by decide +kernel
theorem dX5_mayGive_31 : decode cX5_mayGive 31 = .ok (.getfield 15, 3) := by decide +kernel
theorem dX5_mayGive_34 : decode cX5_mayGive 34 = .ok (.iload 4, 2) := by decide +kernel
theorem dX5_mayGive_36 : decode cX5_mayGive 36 = .ok (.iaload, 1) := by decide +kernel
theorem dX5_mayGive_37 : decode cX5_mayGive 37 = .ok (.ifCond .le 7, 3) := by decide +kernel
theorem dX5_mayGive_44 : decode cX5_mayGive 44 = .ok (.iconst 0, 1) := by decide +kernel
theorem dX5_mayGive_45 : decode cX5_mayGive 45 = .ok (.ireturn, 1) := by decide +kernel
theorem dX5_mayGive_40 : decode cX5_mayGive 40 = .ok (.iconst 1, 1) := by decide +kernel
theorem dX5_mayGive_41 : decode cX5_mayGive 41 = .ok (.goto 4, 3) := by decide +kernel
theorem dX5_mayGive_46 : decode cX5_mayGive 46 = .ok (.aload_n 1, 1) := by decide +kernel
theorem dX5_mayGive_47 : decode cX5_mayGive 47 = .ok (.getfield 21, 3) := by decide +kernel
theorem dX5_mayGive_50 : decode cX5_mayGive 50 = .ok (.iload 4, 2) := by decide +kernel
theorem dX5_mayGive_52 : decode cX5_mayGive 52 = .ok (.iconst 1, 1) := by decide +kernel
theorem dX5_mayGive_53 : decode cX5_mayGive 53 = .ok (.invokevirtual 46, 3) := by decide +kernel
theorem dX5_mayGive_56 : decode cX5_mayGive 56 = .ok (.aload_n 1, 1) := by decide +kernel
theorem dX5_mayGive_57 : decode cX5_mayGive 57 = .ok (.getfield 21, 3) := by decide +kernel
theorem dX5_mayGive_60 : decode cX5_mayGive 60 = .ok (.iload_n 3, 1) := by decide +kernel
theorem dX5_mayGive_61 : decode cX5_mayGive 61 = .ok (.iconst 1, 1) := by decide +kernel
theorem dX5_mayGive_62 : decode cX5_mayGive 62 = .ok (.invokevirtual 46, 3) := by decide +kernel
theorem dX5_mayGive_65 : decode cX5_mayGive 65 = .ok (.if_icmp .gt 7, 3) := by decide +kernel
theorem dX5_mayGive_72 : decode cX5_mayGive 72 = .ok (.iconst 0, 1) := by decide +kernel
theorem dX5_mayGive_73 : decode cX5_mayGive 73 = .ok (.ireturn, 1) := by decide +kernel
theorem dX5_mayGive_68 : decode cX5_mayGive 68 = .ok (.iconst 1, 1) := by decide +kernel
theorem dX5_mayGive_69 : decode cX5_mayGive 69 = .ok (.goto 4, 3) := by decide +kernel
theorem dX5_prepare_104 : decode cX5_prepare 104 = .ok (.ifCond .eq 17, 3) := by decide +kernel
theorem dX5_prepare_107 : decode cX5_prepare 107 = .ok (.aload_n 0, 1) := by decide +kernel
theorem dX5_prepare_108 : decode cX5_prepare 108 = .ok (.getfield 9, 3) := by decide +kernel
theorem dX5_prepare_111 : decode cX5_prepare 111 = .ok (.iload 4, 2) := by decide +kernel
theorem dX5_prepare_113 : decode cX5_prepare 113 = .ok (.dup2, 1) := by decide +kernel
theorem dX5_prepare_114 : decode cX5_prepare 114 = .ok (.iaload, 1) := by decide +kernel
theorem dX5_prepare_115 : decode cX5_prepare 115 = .ok (.iconst 1, 1) := by decide +kernel
theorem dX5_prepare_116 : decode cX5_prepare 116 = .ok (.iload 5, 2) := by decide +kernel
theorem dX5_prepare_118 : decode cX5_prepare 118 = .ok (.ishl, 1) := by decide +kernel
theorem dX5_prepare_119 : decode cX5_prepare 119 = .ok (.ior, 1) := by decide +kernel
theorem dX5_prepare_120 : decode cX5_prepare 120 = .ok (.iastore, 1) := by decide +kernel
theorem dX5_prepare_127 : decode cX5_prepare 127 = .ok (.iinc 4 1, 3) := by decide +kernel
theorem dX5_prepare_130 : decode cX5_prepare 130 = .ok (.goto (-77), 3) := by decide +kernel
theorem dX9_passAsTold_19 : decode cX9_passAsTold 19 = .ok (.return_, 1) := by decide +kernel
theorem dX9_hears_18 : decode cX9_hears 18 = .ok (.iconst 0, 1) := by decide +kernel
theorem dX9_hears_19 : decode cX9_hears 19 = .ok (.istore_n 2, 1) := by decide +kernel
theorem dX9_hears_20 : decode cX9_hears 20 = .ok (.iconst 0, 1) := by decide +kernel
theorem dX9_hears_21 : decode cX9_hears 21 = .ok (.istore_n 3, 1) := by decide +kernel
theorem dX9_hears_22 : decode cX9_hears 22 = .ok (.iload_n 3, 1) := by decide +kernel
theorem dX9_hears_23 : decode cX9_hears 23 = .ok (.aload_n 0, 1) := by decide +kernel
theorem dX9_hears_24 : decode cX9_hears 24 = .ok (.getfield 20, 3) := by decide +kernel
theorem dX9_hears_27 : decode cX9_hears 27 = .ok (.getfield 133, 3) := by decide +kernel
theorem dX9_hears_30 : decode cX9_hears 30 = .ok (.getfield 200, 3) := by decide +kernel
theorem dX9_hears_33 : decode cX9_hears 33 = .ok (.if_icmp .ge 31, 3) := by decide +kernel
theorem dX9_hears_64 : decode cX9_hears 64 = .ok (.iload_n 2, 1) := by decide +kernel
theorem dX9_hears_65 : decode cX9_hears 65 = .ok (.ireturn, 1) := by decide +kernel
theorem dX9_hears_36 : decode cX9_hears 36 = .ok (.aload_n 0, 1) := by decide +kernel
theorem dX9_hears_37 : decode cX9_hears 37 = .ok (.aload_n 0, 1) := by decide +kernel
theorem dX9_hears_38 : decode cX9_hears 38 = .ok (.getfield 54, 3) := by decide +kernel
theorem dX9_hears_41 : decode cX9_hears 41 = .ok (.iload_n 3, 1) := by decide +kernel
theorem dX9_hears_42 : decode cX9_hears 42 = .ok (.invokevirtual 230, 3) := by decide +kernel
theorem dX9_inTheEnd_0 : decode cX9_inTheEnd 0 = .ok (.aload_n 0, 1) := by decide +kernel
theorem dX9_inTheEnd_1 : decode cX9_inTheEnd 1 = .ok (.getfield 64, 3) := by decide +kernel
theorem dX9_inTheEnd_4 : decode cX9_inTheEnd 4 = .ok (.aload_n 1, 1) := by decide +kernel
theorem dX9_inTheEnd_5 : decode cX9_inTheEnd 5 = .ok (.iload_n 2, 1) := by decide +kernel
theorem dX9_inTheEnd_6 : decode cX9_inTheEnd 6 = .ok (.iconst 0, 1) := by decide +kernel
theorem dX9_inTheEnd_7 : decode cX9_inTheEnd 7 = .ok (.invokevirtual 220, 3) := by decide +kernel
theorem dX5_follow_0 : decode cX5_follow 0 = .ok (.aload_n 0, 1) := by decide +kernel
theorem dX5_follow_1 : decode cX5_follow 1 = .ok (.iload_n 2, 1) := by decide +kernel
theorem dX5_follow_2 : decode cX5_follow 2 = .ok (.putfield 59, 3) := by decide +kernel
theorem dX5_follow_5 : decode cX5_follow 5 = .ok (.iconst 1, 1) := by decide +kernel
theorem dX5_follow_6 : decode cX5_follow 6 = .ok (.iload_n 2, 1) := by decide +kernel
theorem dX5_follow_7 : decode cX5_follow 7 = .ok (.ishl, 1) := by decide +kernel
theorem dX5_follow_8 : decode cX5_follow 8 = .ok (.istore 4, 2) := by decide +kernel
theorem dX5_follow_10 : decode cX5_follow 10 = .ok (.iconst 0, 1) := by decide +kernel
theorem dX5_follow_11 : decode cX5_follow 11 = .ok (.istore 5, 2) := by decide +kernel
theorem dX5_follow_13 : decode cX5_follow 13 = .ok (.iload 5, 2) := by decide +kernel
theorem dX5_follow_15 : decode cX5_follow 15 = .ok (.aload_n 0, 1) := by decide +kernel
theorem dX5_follow_16 : decode cX5_follow 16 = .ok (.getfield 38, 3) := by decide +kernel
theorem dX5_follow_19 : decode cX5_follow 19 = .ok (.if_icmp .gt 38, 3) := by decide +kernel
theorem dX5_follow_22 : decode cX5_follow 22 = .ok (.iload_n 3, 1) := by decide +kernel
theorem dX5_follow_23 : decode cX5_follow 23 = .ok (.iload 5, 2) := by decide +kernel
theorem dX5_follow_25 : decode cX5_follow 25 = .ok (.invokestatic 50, 3) := by decide +kernel
theorem dX5_follow_28 : decode cX5_follow 28 = .ok (.ifCond .ne 14, 3) := by decide +kernel
theorem dX5_follow_42 : decode cX5_follow 42 = .ok (.aload_n 0, 1) := by decide +kernel
theorem dX5_follow_43 : decode cX5_follow 43 = .ok (.getfield 18, 3) := by decide +kernel
theorem dX5_follow_46 : decode cX5_follow 46 = .ok (.iload 5, 2) := by decide +kernel
theorem dX5_follow_48 : decode cX5_follow 48 = .ok (.iload 4, 2) := by decide +kernel
theorem dX5_follow_50 : decode cX5_follow 50 = .ok (.iastore, 1) := by decide +kernel
theorem dX5_follow_51 : decode cX5_follow 51 = .ok (.iinc 5 1, 3) := by decide +kernel
theorem dX5_follow_54 : decode cX5_follow 54 = .ok (.goto (-41), 3) := by decide +kernel
theorem dX5_follow_31 : decode cX5_follow 31 = .ok (.aload_n 0, 1) := by decide +kernel
theorem dX5_follow_32 : decode cX5_follow 32 = .ok (.aload_n 1, 1) := by decide +kernel
theorem dX5_follow_33 : decode cX5_follow 33 = .ok (.iload 5, 2) := by decide +kernel
theorem dX5_follow_35 : decode cX5_follow 35 = .ok (.iload 4, 2) := by decide +kernel
theorem dX5_follow_37 : decode cX5_follow 37 = .ok (.invokevirtual 62, 3) := by decide +kernel
theorem dX5_passed_0 : decode cX5_passed 0 = .ok (.iload_n 3, 1) := by decide +kernel
theorem dX5_passed_1 : decode cX5_passed 1 = .ok (.istore 4, 2) := by decide +kernel
theorem dX5_passed_3 : decode cX5_passed 3 = .ok (.iconst 0, 1) := by decide +kernel
theorem dX5_passed_4 : decode cX5_passed 4 = .ok (.istore 5, 2) := by decide +kernel
theorem dX5_passed_6 : decode cX5_passed 6 = .ok (.iload 5, 2) := by decide +kernel
theorem dX5_passed_8 : decode cX5_passed 8 = .ok (.aload_n 0, 1) := by decide +kernel
theorem dX5_passed_9 : decode cX5_passed 9 = .ok (.getfield 33, 3) := by decide +kernel
theorem dX5_passed_12 : decode cX5_passed 12 = .ok (.if_icmp .ge 38, 3) := by decide +kernel
theorem dX5_passed_50 : decode cX5_passed 50 = .ok (.iload 4, 2) := by decide +kernel
theorem dX5_passed_52 : decode cX5_passed 52 = .ok (.ireturn, 1) := by decide +kernel
theorem dX5_passed_15 : decode cX5_passed 15 = .ok (.iload_n 3, 1) := by decide +kernel
theorem dX5_passed_16 : decode cX5_passed 16 = .ok (.iload 5, 2) := by decide +kernel
theorem dX5_passed_18 : decode cX5_passed 18 = .ok (.invokestatic 50, 3) := by decide +kernel
theorem dX5_passed_21 : decode cX5_passed 21 = .ok (.ifCond .eq 23, 3) := by decide +kernel
theorem dX5_passed_44 : decode cX5_passed 44 = .ok (.iinc 5 1, 3) := by decide +kernel
theorem dX5_passed_47 : decode cX5_passed 47 = .ok (.goto (-41), 3) := by decide +kernel
theorem dX5_passed_24 : decode cX5_passed 24 = .ok (.iload 4, 2) := by decide +kernel
theorem dX5_passed_26 : decode cX5_passed 26 = .ok (.aload_n 0, 1) := by decide +kernel
theorem dX5_passed_27 : decode cX5_passed 27 = .ok (.getfield 9, 3) := by decide +kernel
theorem dX5_passed_30 : decode cX5_passed 30 = .ok (.iload 5, 2) := by decide +kernel
theorem dX5_passed_32 : decode cX5_passed 32 = .ok (.iaload, 1) := by decide +kernel
theorem dX5_passed_33 : decode cX5_passed 33 = .ok (.aload_n 1, 1) := by decide +kernel
theorem dX5_passed_34 : decode cX5_passed 34 = .ok (.iload 5, 2) := by decide +kernel
theorem dX5_passed_36 : decode cX5_passed 36 = .ok (.iload_n 2, 1) := by decide +kernel
theorem dX5_passed_37 : decode cX5_passed 37 = .ok (.invokevirtual 54, 3) := by decide +kernel
theorem dX5_passed_40 : decode cX5_passed 40 = .ok (.iand, 1) := by decide +kernel
theorem dX5_passed_41 : decode cX5_passed 41 = .ok (.ior, 1) := by decide +kernel
theorem dX5_passed_42 : decode cX5_passed 42 = .ok (.istore 4, 2) := by decide +kernel
theorem dX5_follow_40 : decode cX5_follow 40 = .ok (.istore 4, 2) := by decide +kernel
theorem dX5_follow_57 : decode cX5_follow 57 = .ok (.return_, 1) := by decide +kernel
theorem dX9_inTheEnd_10 : decode cX9_inTheEnd 10 = .ok (.aload_n 0, 1) := by decide +kernel
theorem dX9_inTheEnd_11 : decode cX9_inTheEnd 11 = .ok (.getfield 64, 3) := by decide +kernel
theorem dX9_inTheEnd_14 : decode cX9_inTheEnd 14 = .ok (.aload_n 0, 1) := by decide +kernel
theorem dX9_inTheEnd_15 : decode cX9_inTheEnd 15 = .ok (.getfield 20, 3) := by decide +kernel
theorem dX9_inTheEnd_18 : decode cX9_inTheEnd 18 = .ok (.getfield 169, 3) := by decide +kernel
theorem dX9_inTheEnd_21 : decode cX9_inTheEnd 21 = .ok (.invokevirtual 224, 3) := by decide +kernel
theorem dX5_behind_0 : decode cX5_behind 0 = .ok (.iload_n 1, 1) := by decide +kernel
theorem dX5_behind_1 : decode cX5_behind 1 = .ok (.ifCond .lt 20, 3) := by decide +kernel
theorem dX5_behind_21 : decode cX5_behind 21 = .ok (.iconst 0, 1) := by decide +kernel
theorem dX5_behind_22 : decode cX5_behind 22 = .ok (.ireturn, 1) := by decide +kernel
theorem dX5_behind_4 : decode cX5_behind 4 = .ok (.iload_n 1, 1) := by decide +kernel
theorem dX5_behind_5 : decode cX5_behind 5 = .ok (.aload_n 0, 1) := by decide +kernel
theorem dX5_behind_6 : decode cX5_behind 6 = .ok (.getfield 38, 3) := by decide +kernel
theorem dX5_behind_9 : decode cX5_behind 9 = .ok (.if_icmp .gt 12, 3) := by decide +kernel
theorem dX5_behind_12 : decode cX5_behind 12 = .ok (.aload_n 0, 1) := by decide +kernel
theorem dX5_behind_13 : decode cX5_behind 13 = .ok (.getfield 18, 3) := by decide +kernel
theorem dX5_behind_16 : decode cX5_behind 16 = .ok (.iload_n 1, 1) := by decide +kernel
theorem dX5_behind_17 : decode cX5_behind 17 = .ok (.iaload, 1) := by decide +kernel
theorem dX5_behind_18 : decode cX5_behind 18 = .ok (.goto 4, 3) := by decide +kernel
theorem dX9_inTheEnd_24 : decode cX9_inTheEnd 24 = .ok (.ireturn, 1) := by decide +kernel
theorem dX9_hears_45 : decode cX9_hears 45 = .ok (.iload_n 1, 1) := by decide +kernel
theorem dX9_hears_46 : decode cX9_hears 46 = .ok (.invokestatic 175, 3) := by decide +kernel
theorem dX9_hears_49 : decode cX9_hears 49 = .ok (.ifCond .eq 9, 3) := by decide +kernel
theorem dX9_hears_58 : decode cX9_hears 58 = .ok (.iinc 3 1, 3) := by decide +kernel
theorem dX9_hears_61 : decode cX9_hears 61 = .ok (.goto (-39), 3) := by decide +kernel
theorem dX9_hears_52 : decode cX9_hears 52 = .ok (.iload_n 2, 1) := by decide +kernel
theorem dX9_hears_53 : decode cX9_hears 53 = .ok (.iconst 1, 1) := by decide +kernel
theorem dX9_hears_54 : decode cX9_hears 54 = .ok (.iload_n 3, 1) := by decide +kernel
theorem dX9_hears_55 : decode cX9_hears 55 = .ok (.ishl, 1) := by decide +kernel
theorem dX9_hears_56 : decode cX9_hears 56 = .ok (.ior, 1) := by decide +kernel
theorem dX9_hears_57 : decode cX9_hears 57 = .ok (.istore_n 2, 1) := by decide +kernel
theorem dX9_hears_11 : decode cX9_hears 11 = .ok (.bipush (-2), 2) := by decide +kernel
theorem dX9_hears_13 : decode cX9_hears 13 = .ok (.ireturn, 1) := by decide +kernel
theorem dX9_hands_0 : decode cX9_hands 0 = .ok (.aload_n 0, 1) := by decide +kernel
theorem dX9_hands_1 : decode cX9_hands 1 = .ok (.getfield 20, 3) := by decide +kernel
theorem dX9_hands_4 : decode cX9_hands 4 = .ok (.iload_n 1, 1) := by decide +kernel
theorem dX9_hands_5 : decode cX9_hands 5 = .ok (.invokevirtual 139, 3) := by decide +kernel
theorem dX9_hands_8 : decode cX9_hands 8 = .ok (.ifCond .eq 14, 3) := by decide +kernel
theorem dX9_hands_22 : decode cX9_hands 22 = .ok (.bipush (-2), 2) := by decide +kernel
theorem dX9_hands_24 : decode cX9_hands 24 = .ok (.ireturn, 1) := by decide +kernel
theorem dX9_hands_11 : decode cX9_hands 11 = .ok (.aload_n 0, 1) := by decide +kernel
theorem dX9_hands_12 : decode cX9_hands 12 = .ok (.getfield 20, 3) := by decide +kernel
theorem dX9_hands_15 : decode cX9_hands 15 = .ok (.iload_n 2, 1) := by decide +kernel
theorem dX9_hands_16 : decode cX9_hands 16 = .ok (.invokevirtual 139, 3) := by decide +kernel
theorem dX9_hands_19 : decode cX9_hands 19 = .ok (.ifCond .ne 6, 3) := by decide +kernel
theorem dX9_hands_25 : decode cX9_hands 25 = .ok (.aload_n 0, 1) := by decide +kernel
theorem dX9_hands_26 : decode cX9_hands 26 = .ok (.invokevirtual 227, 3) := by decide +kernel
theorem dX9_hands_29 : decode cX9_hands 29 = .ok (.aload_n 0, 1) := by decide +kernel
theorem dX9_hands_30 : decode cX9_hands 30 = .ok (.aload_n 0, 1) := by decide +kernel
theorem dX9_hands_31 : decode cX9_hands 31 = .ok (.getfield 54, 3) := by decide +kernel
theorem dX9_hands_34 : decode cX9_hands 34 = .ok (.iload_n 1, 1) := by decide +kernel
theorem dX9_hands_35 : decode cX9_hands 35 = .ok (.invokevirtual 230, 3) := by decide +kernel
theorem dX9_hands_38 : decode cX9_hands 38 = .ok (.iload_n 2, 1) := by decide +kernel
theorem dX9_hands_39 : decode cX9_hands 39 = .ok (.invokestatic 175, 3) := by decide +kernel
theorem dX9_hands_42 : decode cX9_hands 42 = .ok (.ifCond .ne 5, 3) := by decide +kernel
theorem dX9_hands_47 : decode cX9_hands 47 = .ok (.iload_n 2, 1) := by decide +kernel
theorem dX9_hands_48 : decode cX9_hands 48 = .ok (.istore_n 3, 1) := by decide +kernel
theorem dX9_hands_49 : decode cX9_hands 49 = .ok (.iconst 0, 1) := by decide +kernel
theorem dX9_hands_50 : decode cX9_hands 50 = .ok (.istore 4, 2) := by decide +kernel
theorem dX9_hands_52 : decode cX9_hands 52 = .ok (.iload_n 3, 1) := by decide +kernel
theorem dX9_hands_53 : decode cX9_hands 53 = .ok (.iload_n 1, 1) := by decide +kernel
theorem dX9_hands_54 : decode cX9_hands 54 = .ok (.if_icmp .eq 34, 3) := by decide +kernel
theorem dX9_hands_88 : decode cX9_hands 88 = .ok (.iload 4, 2) := by decide +kernel
theorem dX9_hands_90 : decode cX9_hands 90 = .ok (.ireturn, 1) := by decide +kernel
theorem dX9_hands_57 : decode cX9_hands 57 = .ok (.iload_n 3, 1) := by decide +kernel
theorem dX9_hands_58 : decode cX9_hands 58 = .ok (.iconst (-1), 1) := by decide +kernel
theorem dX9_hands_59 : decode cX9_hands 59 = .ok (.if_icmp .eq 29, 3) := by decide +kernel
theorem dX9_hands_62 : decode cX9_hands 62 = .ok (.iload 4, 2) := by decide +kernel
theorem dX9_hands_64 : decode cX9_hands 64 = .ok (.bipush 6, 2) := by decide +kernel
theorem dX9_hands_66 : decode cX9_hands 66 = .ok (.if_icmp .ge 22, 3) := by decide +kernel
theorem dX9_hands_69 : decode cX9_hands 69 = .ok (.aload_n 0, 1) := by decide +kernel
theorem dX9_hands_70 : decode cX9_hands 70 = .ok (.getfield 64, 3) := by decide +kernel
theorem dX9_hands_73 : decode cX9_hands 73 = .ok (.aload_n 0, 1) := by decide +kernel
theorem dX9_hands_74 : decode cX9_hands 74 = .ok (.getfield 54, 3) := by decide +kernel
theorem dX9_hands_77 : decode cX9_hands 77 = .ok (.iload_n 3, 1) := by decide +kernel
theorem dX9_hands_78 : decode cX9_hands 78 = .ok (.invokevirtual 234, 3) := by decide +kernel
theorem dX5_giverOf_0 : decode cX5_giverOf 0 = .ok (.aload_n 0, 1) := by decide +kernel
theorem dX5_giverOf_1 : decode cX5_giverOf 1 = .ok (.iload_n 2, 1) := by decide +kernel
theorem dX5_giverOf_2 : decode cX5_giverOf 2 = .ok (.invokevirtual 69, 3) := by decide +kernel
theorem dX5_gotAt_0 : decode cX5_gotAt 0 = .ok (.iconst 0, 1) := by decide +kernel
theorem dX5_gotAt_1 : decode cX5_gotAt 1 = .ok (.istore_n 2, 1) := by decide +kernel
theorem dX5_gotAt_2 : decode cX5_gotAt 2 = .ok (.iload_n 2, 1) := by decide +kernel
theorem dX5_gotAt_3 : decode cX5_gotAt 3 = .ok (.aload_n 0, 1) := by decide +kernel
theorem dX5_gotAt_4 : decode cX5_gotAt 4 = .ok (.getfield 38, 3) := by decide +kernel
theorem dX5_gotAt_7 : decode cX5_gotAt 7 = .ok (.if_icmp .gt 24, 3) := by decide +kernel
theorem dX5_gotAt_10 : decode cX5_gotAt 10 = .ok (.aload_n 0, 1) := by decide +kernel
theorem dX5_gotAt_11 : decode cX5_gotAt 11 = .ok (.getfield 18, 3) := by decide +kernel
theorem dX5_gotAt_14 : decode cX5_gotAt 14 = .ok (.iload_n 2, 1) := by decide +kernel
theorem dX5_gotAt_15 : decode cX5_gotAt 15 = .ok (.iaload, 1) := by decide +kernel
theorem dX5_gotAt_16 : decode cX5_gotAt 16 = .ok (.iload_n 1, 1) := by decide +kernel
theorem dX5_gotAt_17 : decode cX5_gotAt 17 = .ok (.invokestatic 50, 3) := by decide +kernel
theorem dX5_gotAt_20 : decode cX5_gotAt 20 = .ok (.ifCond .eq 5, 3) := by decide +kernel
theorem dX5_gotAt_25 : decode cX5_gotAt 25 = .ok (.iinc 2 1, 3) := by decide +kernel
theorem dX5_gotAt_28 : decode cX5_gotAt 28 = .ok (.goto (-26), 3) := by decide +kernel
theorem dX5_gotAt_23 : decode cX5_gotAt 23 = .ok (.iload_n 2, 1) := by decide +kernel
theorem dX5_gotAt_24 : decode cX5_gotAt 24 = .ok (.ireturn, 1) := by decide +kernel
theorem dX5_gotAt_31 : decode cX5_gotAt 31 = .ok (.iconst (-1), 1) := by decide +kernel
theorem dX5_gotAt_32 : decode cX5_gotAt 32 = .ok (.ireturn, 1) := by decide +kernel
theorem dX5_giverOf_5 : decode cX5_giverOf 5 = .ok (.istore_n 3, 1) := by decide +kernel
theorem dX5_giverOf_6 : decode cX5_giverOf 6 = .ok (.iload_n 2, 1) := by decide +kernel
theorem dX5_giverOf_7 : decode cX5_giverOf 7 = .ok (.aload_n 0, 1) := by decide +kernel
theorem dX5_giverOf_8 : decode cX5_giverOf 8 = .ok (.getfield 59, 3) := by decide +kernel
theorem dX5_giverOf_11 : decode cX5_giverOf 11 = .ok (.if_icmp .eq 8, 3) := by decide +kernel
theorem dX5_giverOf_19 : decode cX5_giverOf 19 = .ok (.iconst (-1), 1) := by decide +kernel
theorem dX5_giverOf_20 : decode cX5_giverOf 20 = .ok (.ireturn, 1) := by decide +kernel
theorem dX5_giverOf_14 : decode cX5_giverOf 14 = .ok (.iload_n 3, 1) := by decide +kernel
theorem dX5_giverOf_15 : decode cX5_giverOf 15 = .ok (.iconst (-1), 1) := by decide +kernel
theorem dX5_giverOf_16 : decode cX5_giverOf 16 = .ok (.if_icmp .ne 5, 3) := by decide +kernel
theorem dX5_giverOf_21 : decode cX5_giverOf 21 = .ok (.iconst 0, 1) := by decide +kernel
theorem dX5_giverOf_22 : decode cX5_giverOf 22 = .ok (.istore 4, 2) := by decide +kernel
theorem dX5_giverOf_24 : decode cX5_giverOf 24 = .ok (.iload 4, 2) := by decide +kernel
theorem dX5_giverOf_26 : decode cX5_giverOf 26 = .ok (.aload_n 0, 1) := by decide +kernel
theorem dX5_giverOf_27 : decode cX5_giverOf 27 = .ok (.getfield 33, 3) := by decide +kernel
theorem dX5_giverOf_30 : decode cX5_giverOf 30 = .ok (.if_icmp .ge 47, 3) := by decide +kernel
theorem dX5_giverOf_77 : decode cX5_giverOf 77 = .ok (.iconst (-1), 1) := by decide +kernel
theorem dX5_giverOf_78 : decode cX5_giverOf 78 = .ok (.ireturn, 1) := by decide +kernel
theorem dX5_giverOf_33 : decode cX5_giverOf 33 = .ok (.aload_n 0, 1) := by decide +kernel
theorem dX5_giverOf_34 : decode cX5_giverOf 34 = .ok (.iload_n 3, 1) := by decide +kernel
theorem dX5_giverOf_35 : decode cX5_giverOf 35 = .ok (.invokevirtual 72, 3) := by decide +kernel
theorem dX5_ahead_0 : decode cX5_ahead 0 = .ok (.iload_n 1, 1) := by decide +kernel
theorem dX5_ahead_1 : decode cX5_ahead 1 = .ok (.ifCond .ne 12, 3) := by decide +kernel
theorem dX5_ahead_13 : decode cX5_ahead 13 = .ok (.aload_n 0, 1) := by decide +kernel
theorem dX5_ahead_14 : decode cX5_ahead 14 = .ok (.iload_n 1, 1) := by decide +kernel
theorem dX5_ahead_15 : decode cX5_ahead 15 = .ok (.iconst 1, 1) := by decide +kernel
theorem dX5_ahead_16 : decode cX5_ahead 16 = .ok (.isub, 1) := by decide +kernel
theorem dX5_ahead_17 : decode cX5_ahead 17 = .ok (.invokevirtual 66, 3) := by decide +kernel
theorem dX5_ahead_20 : decode cX5_ahead 20 = .ok (.ireturn, 1) := by decide +kernel
theorem dX5_ahead_4 : decode cX5_ahead 4 = .ok (.iconst 1, 1) := by decide +kernel
theorem dX5_ahead_5 : decode cX5_ahead 5 = .ok (.aload_n 0, 1) := by decide +kernel
theorem dX5_ahead_6 : decode cX5_ahead 6 = .ok (.getfield 59, 3) := by decide +kernel
theorem dX5_ahead_9 : decode cX5_ahead 9 = .ok (.ishl, 1) := by decide +kernel
theorem dX5_ahead_10 : decode cX5_ahead 10 = .ok (.goto 10, 3) := by decide +kernel
theorem dX5_giverOf_38 : decode cX5_giverOf 38 = .ok (.iload 4, 2) := by decide +kernel
theorem dX5_giverOf_40 : decode cX5_giverOf 40 = .ok (.invokestatic 50, 3) := by decide +kernel
theorem dX5_giverOf_43 : decode cX5_giverOf 43 = .ok (.ifCond .eq 28, 3) := by decide +kernel
theorem dX5_giverOf_71 : decode cX5_giverOf 71 = .ok (.iinc 4 1, 3) := by decide +kernel
theorem dX5_giverOf_74 : decode cX5_giverOf 74 = .ok (.goto (-50), 3) := by decide +kernel
theorem dX5_giverOf_46 : decode cX5_giverOf 46 = .ok (.aload_n 0, 1) := by decide +kernel
theorem dX5_giverOf_47 : decode cX5_giverOf 47 = .ok (.getfield 9, 3) := by decide +kernel
theorem dX5_giverOf_50 : decode cX5_giverOf 50 = .ok (.iload 4, 2) := by decide +kernel
theorem dX5_giverOf_52 : decode cX5_giverOf 52 = .ok (.iaload, 1) := by decide +kernel
theorem dX5_giverOf_53 : decode cX5_giverOf 53 = .ok (.aload_n 1, 1) := by decide +kernel
theorem dX5_giverOf_54 : decode cX5_giverOf 54 = .ok (.iload 4, 2) := by decide +kernel
theorem dX5_giverOf_56 : decode cX5_giverOf 56 = .ok (.iload_n 3, 1) := by decide +kernel
theorem dX5_giverOf_57 : decode cX5_giverOf 57 = .ok (.invokevirtual 54, 3) := by decide +kernel
theorem dX5_giverOf_60 : decode cX5_giverOf 60 = .ok (.iand, 1) := by decide +kernel
theorem dX5_giverOf_61 : decode cX5_giverOf 61 = .ok (.iload_n 2, 1) := by decide +kernel
theorem dX5_giverOf_62 : decode cX5_giverOf 62 = .ok (.invokestatic 50, 3) := by decide +kernel
theorem dX5_giverOf_65 : decode cX5_giverOf 65 = .ok (.ifCond .eq 6, 3) := by decide +kernel
theorem dX5_giverOf_68 : decode cX5_giverOf 68 = .ok (.iload 4, 2) := by decide +kernel
theorem dX5_giverOf_70 : decode cX5_giverOf 70 = .ok (.ireturn, 1) := by decide +kernel
theorem dX9_hands_81 : decode cX9_hands 81 = .ok (.istore_n 3, 1) := by decide +kernel
theorem dX9_hands_82 : decode cX9_hands 82 = .ok (.iinc 4 1, 3) := by decide +kernel
theorem dX9_hands_85 : decode cX9_hands 85 = .ok (.goto (-33), 3) := by decide +kernel
theorem dX9_hands_45 : decode cX9_hands 45 = .ok (.iconst (-1), 1) := by decide +kernel
theorem dX9_hands_46 : decode cX9_hands 46 = .ok (.ireturn, 1) := by decide +kernel
theorem dX9_dummies_0 : decode cX9_dummies 0 = .ok (.aload_n 0, 1) := by decide +kernel
theorem dX9_dummies_1 : decode cX9_dummies 1 = .ok (.getfield 20, 3) := by decide +kernel
theorem dX9_dummies_4 : decode cX9_dummies 4 = .ok (.invokevirtual 184, 3) := by decide +kernel
theorem dX9_dummies_7 : decode cX9_dummies 7 = .ok (.ifCond .ne 6, 3) := by decide +kernel
theorem dX9_dummies_13 : decode cX9_dummies 13 = .ok (.aload_n 0, 1) := by decide +kernel
theorem dX9_dummies_14 : decode cX9_dummies 14 = .ok (.getfield 78, 3) := by decide +kernel
theorem dX9_dummies_17 : decode cX9_dummies 17 = .ok (.aload_n 0, 1) := by decide +kernel
theorem dX9_dummies_18 : decode cX9_dummies 18 = .ok (.getfield 20, 3) := by decide +kernel
theorem dX9_dummies_21 : decode cX9_dummies 21 = .ok (.invokevirtual 311, 3) := by decide +kernel
theorem dX3_tally_0 : decode cX3_tally 0 = .ok (.aload_n 0, 1) := by decide +kernel
theorem dX3_tally_1 : decode cX3_tally 1 = .ok (.aload_n 1, 1) := by decide +kernel
theorem dX3_tally_2 : decode cX3_tally 2 = .ok (.getfield 15, 3) := by decide +kernel
theorem dX3_tally_5 : decode cX3_tally 5 = .ok (.getfield 21, 3) := by decide +kernel
theorem dX3_tally_8 : decode cX3_tally 8 = .ok (.putfield 27, 3) := by decide +kernel
theorem dX3_tally_11 : decode cX3_tally 11 = .ok (.aload_n 0, 1) := by decide +kernel
theorem dX3_tally_12 : decode cX3_tally 12 = .ok (.iconst 0, 1) := by decide +kernel
theorem dX3_tally_13 : decode cX3_tally 13 = .ok (.putfield 29, 3) := by decide +kernel
theorem dX3_tally_16 : decode cX3_tally 16 = .ok (.iconst 0, 1) := by decide +kernel
theorem dX3_tally_17 : decode cX3_tally 17 = .ok (.istore_n 2, 1) := by decide +kernel
theorem dX3_tally_18 : decode cX3_tally 18 = .ok (.iload_n 2, 1) := by decide +kernel
theorem dX3_tally_19 : decode cX3_tally 19 = .ok (.aload_n 0, 1) := by decide +kernel
theorem dX3_tally_20 : decode cX3_tally 20 = .ok (.getfield 27, 3) := by decide +kernel
theorem dX3_tally_23 : decode cX3_tally 23 = .ok (.if_icmp .ge 35, 3) := by decide +kernel
theorem dX3_tally_58 : decode cX3_tally 58 = .ok (.return_, 1) := by decide +kernel
theorem dX3_tally_26 : decode cX3_tally 26 = .ok (.aload_n 0, 1) := by decide +kernel
theorem dX3_tally_27 : decode cX3_tally 27 = .ok (.getfield 9, 3) := by decide +kernel
theorem dX3_tally_30 : decode cX3_tally 30 = .ok (.iload_n 2, 1) := by decide +kernel
theorem dX3_tally_31 : decode cX3_tally 31 = .ok (.aload_n 1, 1) := by decide +kernel
theorem dX3_tally_32 : decode cX3_tally 32 = .ok (.iload_n 2, 1) := by decide +kernel
theorem dX3_tally_33 : decode cX3_tally 33 = .ok (.invokevirtual 32, 3) := by decide +kernel
theorem dX3_tally_36 : decode cX3_tally 36 = .ok (.iastore, 1) := by decide +kernel
theorem dX3_tally_37 : decode cX3_tally 37 = .ok (.aload_n 0, 1) := by decide +kernel
theorem dX3_tally_38 : decode cX3_tally 38 = .ok (.dup, 1) := by decide +kernel
theorem dX3_tally_39 : decode cX3_tally 39 = .ok (.getfield 29, 3) := by decide +kernel
theorem dX3_tally_42 : decode cX3_tally 42 = .ok (.aload_n 0, 1) := by decide +kernel
theorem dX3_tally_43 : decode cX3_tally 43 = .ok (.getfield 9, 3) := by decide +kernel
theorem dX3_tally_46 : decode cX3_tally 46 = .ok (.iload_n 2, 1) := by decide +kernel
theorem dX3_tally_47 : decode cX3_tally 47 = .ok (.iaload, 1) := by decide +kernel
theorem dX3_tally_48 : decode cX3_tally 48 = .ok (.iadd, 1) := by decide +kernel
theorem dX3_tally_49 : decode cX3_tally 49 = .ok (.putfield 29, 3) := by decide +kernel
theorem dX3_tally_52 : decode cX3_tally 52 = .ok (.iinc 2 1, 3) := by decide +kernel
theorem dX3_tally_55 : decode cX3_tally 55 = .ok (.goto (-37), 3) := by decide +kernel
theorem dX9_dummies_24 : decode cX9_dummies 24 = .ok (.iconst 0, 1) := by decide +kernel
theorem dX9_dummies_25 : decode cX9_dummies 25 = .ok (.istore_n 1, 1) := by decide +kernel
theorem dX9_dummies_26 : decode cX9_dummies 26 = .ok (.iconst 0, 1) := by decide +kernel
theorem dX9_dummies_27 : decode cX9_dummies 27 = .ok (.istore_n 2, 1) := by decide +kernel
theorem dX9_dummies_28 : decode cX9_dummies 28 = .ok (.iload_n 2, 1) := by decide +kernel
theorem dX9_dummies_29 : decode cX9_dummies 29 = .ok (.aload_n 0, 1) := by decide +kernel
theorem dX9_dummies_30 : decode cX9_dummies 30 = .ok (.getfield 20, 3) := by decide +kernel
theorem dX9_dummies_33 : decode cX9_dummies 33 = .ok (.getfield 133, 3) := by decide +kernel
theorem dX9_dummies_36 : decode cX9_dummies 36 = .ok (.getfield 200, 3) := by decide +kernel
theorem dX9_dummies_39 : decode cX9_dummies 39 = .ok (.if_icmp .ge 26, 3) := by decide +kernel
theorem dX9_dummies_65 : decode cX9_dummies 65 = .ok (.iload_n 1, 1) := by decide +kernel
theorem dX9_dummies_66 : decode cX9_dummies 66 = .ok (.ireturn, 1) := by decide +kernel
theorem dX9_dummies_42 : decode cX9_dummies 42 = .ok (.aload_n 0, 1) := by decide +kernel
theorem dX9_dummies_43 : decode cX9_dummies 43 = .ok (.getfield 78, 3) := by decide +kernel
theorem dX9_dummies_46 : decode cX9_dummies 46 = .ok (.iload_n 2, 1) := by decide +kernel
theorem dX9_dummies_47 : decode cX9_dummies 47 = .ok (.invokevirtual 317, 3) := by decide +kernel
theorem dX3_powerOf_0 : decode cX3_powerOf 0 = .ok (.iconst 0, 1) := by decide +kernel
theorem dX3_powerOf_1 : decode cX3_powerOf 1 = .ok (.istore_n 2, 1) := by decide +kernel
theorem dX3_powerOf_2 : decode cX3_powerOf 2 = .ok (.iconst 0, 1) := by decide +kernel
theorem dX3_powerOf_3 : decode cX3_powerOf 3 = .ok (.istore_n 3, 1) := by decide +kernel
theorem dX3_powerOf_4 : decode cX3_powerOf 4 = .ok (.iload_n 3, 1) := by decide +kernel
theorem dX3_powerOf_5 : decode cX3_powerOf 5 = .ok (.iconst 1, 1) := by decide +kernel
theorem dX3_powerOf_6 : decode cX3_powerOf 6 = .ok (.aload_n 0, 1) := by decide +kernel
theorem dX3_powerOf_7 : decode cX3_powerOf 7 = .ok (.getfield 27, 3) := by decide +kernel
theorem dX3_powerOf_10 : decode cX3_powerOf 10 = .ok (.ishl, 1) := by decide +kernel
theorem dX3_powerOf_11 : decode cX3_powerOf 11 = .ok (.if_icmp .ge 42, 3) := by decide +kernel
theorem dX3_powerOf_14 : decode cX3_powerOf 14 = .ok (.iload_n 3, 1) := by decide +kernel
theorem dX3_powerOf_15 : decode cX3_powerOf 15 = .ok (.iload_n 1, 1) := by decide +kernel
theorem dX3_powerOf_16 : decode cX3_powerOf 16 = .ok (.invokestatic 35, 3) := by decide +kernel
theorem dX3_powerOf_19 : decode cX3_powerOf 19 = .ok (.ifCond .eq 28, 3) := by decide +kernel
theorem dX3_powerOf_47 : decode cX3_powerOf 47 = .ok (.iinc 3 1, 3) := by decide +kernel
theorem dX3_powerOf_50 : decode cX3_powerOf 50 = .ok (.goto (-46), 3) := by decide +kernel
theorem dX3_powerOf_22 : decode cX3_powerOf 22 = .ok (.aload_n 0, 1) := by decide +kernel
theorem dX3_powerOf_23 : decode cX3_powerOf 23 = .ok (.iload_n 3, 1) := by decide +kernel
theorem dX3_powerOf_24 : decode cX3_powerOf 24 = .ok (.invokevirtual 46, 3) := by decide +kernel
theorem dX3_isMajority_0 : decode cX3_isMajority 0 = .ok (.aload_n 0, 1) := by decide +kernel
theorem dX3_isMajority_1 : decode cX3_isMajority 1 = .ok (.aload_n 0, 1) := by decide +kernel
theorem dX3_isMajority_2 : decode cX3_isMajority 2 = .ok (.iload_n 1, 1) := by decide +kernel
theorem dX3_isMajority_3 : decode cX3_isMajority 3 = .ok (.invokevirtual 39, 3) := by decide +kernel
theorem dX3_seatsOf_0 : decode cX3_seatsOf 0 = .ok (.iconst 0, 1) := by decide +kernel
theorem dX3_seatsOf_1 : decode cX3_seatsOf 1 = .ok (.istore_n 2, 1) := by decide +kernel
theorem dX3_seatsOf_2 : decode cX3_seatsOf 2 = .ok (.iconst 0, 1) := by decide +kernel
theorem dX3_seatsOf_3 : decode cX3_seatsOf 3 = .ok (.istore_n 3, 1) := by decide +kernel
theorem dX3_seatsOf_4 : decode cX3_seatsOf 4 = .ok (.iload_n 3, 1) := by decide +kernel
theorem dX3_seatsOf_5 : decode cX3_seatsOf 5 = .ok (.aload_n 0, 1) := by decide +kernel
theorem dX3_seatsOf_6 : decode cX3_seatsOf 6 = .ok (.getfield 27, 3) := by decide +kernel
theorem dX3_seatsOf_9 : decode cX3_seatsOf 9 = .ok (.if_icmp .ge 26, 3) := by decide +kernel
theorem dX3_seatsOf_35 : decode cX3_seatsOf 35 = .ok (.iload_n 2, 1) := by decide +kernel
theorem dX3_seatsOf_36 : decode cX3_seatsOf 36 = .ok (.ireturn, 1) := by decide +kernel
theorem dX3_seatsOf_12 : decode cX3_seatsOf 12 = .ok (.iload_n 1, 1) := by decide +kernel
theorem dX3_seatsOf_13 : decode cX3_seatsOf 13 = .ok (.iload_n 3, 1) := by decide +kernel
theorem dX3_seatsOf_14 : decode cX3_seatsOf 14 = .ok (.invokestatic 35, 3) := by decide +kernel
theorem dX3_seatsOf_17 : decode cX3_seatsOf 17 = .ok (.ifCond .eq 12, 3) := by decide +kernel
theorem dX3_seatsOf_29 : decode cX3_seatsOf 29 = .ok (.iinc 3 1, 3) := by decide +kernel
theorem dX3_seatsOf_32 : decode cX3_seatsOf 32 = .ok (.goto (-28), 3) := by decide +kernel
theorem dX3_seatsOf_20 : decode cX3_seatsOf 20 = .ok (.iload_n 2, 1) := by decide +kernel
theorem dX3_seatsOf_21 : decode cX3_seatsOf 21 = .ok (.aload_n 0, 1) := by decide +kernel
theorem dX3_seatsOf_22 : decode cX3_seatsOf 22 = .ok (.getfield 9, 3) := by decide +kernel
theorem dX3_seatsOf_25 : decode cX3_seatsOf 25 = .ok (.iload_n 3, 1) := by decide +kernel
theorem dX3_seatsOf_26 : decode cX3_seatsOf 26 = .ok (.iaload, 1) := by decide +kernel
theorem dX3_seatsOf_27 : decode cX3_seatsOf 27 = .ok (.iadd, 1) := by decide +kernel
theorem dX3_seatsOf_28 : decode cX3_seatsOf 28 = .ok (.istore_n 2, 1) := by decide +kernel
theorem dX3_isMajority_6 : decode cX3_isMajority 6 = .ok (.invokevirtual 42, 3) := by decide +kernel
theorem dX3_isMoreThanHalf_0 : decode cX3_isMoreThanHalf 0 = .ok (.iconst 2, 1) := by decide +kernel
theorem dX3_isMoreThanHalf_1 : decode cX3_isMoreThanHalf 1 = .ok (.iload_n 1, 1) := by decide +kernel
theorem dX3_isMoreThanHalf_2 : decode cX3_isMoreThanHalf 2 = .ok (.imul, 1) := by decide +kernel
theorem dX3_isMoreThanHalf_3 : decode cX3_isMoreThanHalf 3 = .ok (.aload_n 0, 1) := by decide +kernel
theorem dX3_isMoreThanHalf_4 : decode cX3_isMoreThanHalf 4 = .ok (.getfield 29, 3) := by decide +kernel
theorem dX3_isMoreThanHalf_7 : decode cX3_isMoreThanHalf 7 = .ok (.if_icmp .le 7, 3) := by decide +kernel
theorem dX3_isMoreThanHalf_14 : decode cX3_isMoreThanHalf 14 = .ok (.iconst 0, 1) := by decide +kernel
theorem dX3_isMoreThanHalf_15 : decode cX3_isMoreThanHalf 15 = .ok (.ireturn, 1) := by decide +kernel
theorem dX3_isMoreThanHalf_10 : decode cX3_isMoreThanHalf 10 = .ok (.iconst 1, 1) := by decide +kernel
theorem dX3_isMoreThanHalf_11 : decode cX3_isMoreThanHalf 11 = .ok (.goto 4, 3) := by decide +kernel
theorem dX3_isMajority_9 : decode cX3_isMajority 9 = .ok (.ireturn, 1) := by decide +kernel
theorem dX3_powerOf_27 : decode cX3_powerOf 27 = .ok (.ifCond .eq 20, 3) := by decide +kernel
theorem dX3_powerOf_30 : decode cX3_powerOf 30 = .ok (.aload_n 0, 1) := by decide +kernel
theorem dX3_powerOf_31 : decode cX3_powerOf 31 = .ok (.iload_n 3, 1) := by decide +kernel
theorem dX3_powerOf_32 : decode cX3_powerOf 32 = .ok (.iconst 1, 1) := by decide +kernel
theorem dX3_powerOf_33 : decode cX3_powerOf 33 = .ok (.iload_n 1, 1) := by decide +kernel
theorem dX3_powerOf_34 : decode cX3_powerOf 34 = .ok (.ishl, 1) := by decide +kernel
theorem dX3_powerOf_35 : decode cX3_powerOf 35 = .ok (.iconst (-1), 1) := by decide +kernel
theorem dX3_powerOf_36 : decode cX3_powerOf 36 = .ok (.ixor, 1) := by decide +kernel
theorem dX3_powerOf_37 : decode cX3_powerOf 37 = .ok (.iand, 1) := by decide +kernel
theorem dX3_powerOf_38 : decode cX3_powerOf 38 = .ok (.invokevirtual 46, 3) := by decide +kernel
theorem dX3_powerOf_41 : decode cX3_powerOf 41 = .ok (.ifCond .ne 6, 3) := by decide +kernel
theorem dX3_powerOf_44 : decode cX3_powerOf 44 = .ok (.iinc 2 1, 3) := by decide +kernel
theorem dX3_powerOf_53 : decode cX3_powerOf 53 = .ok (.iload_n 2, 1) := by decide +kernel
theorem dX3_powerOf_54 : decode cX3_powerOf 54 = .ok (.ireturn, 1) := by decide +kernel
theorem dX9_dummies_50 : decode cX9_dummies 50 = .ok (.ifCond .ne 9, 3) := by decide +kernel
theorem dX9_dummies_59 : decode cX9_dummies 59 = .ok (.iinc 2 1, 3) := by decide +kernel
theorem dX9_dummies_62 : decode cX9_dummies 62 = .ok (.goto (-34), 3) := by decide +kernel
theorem dX9_dummies_53 : decode cX9_dummies 53 = .ok (.iload_n 1, 1) := by decide +kernel
theorem dX9_dummies_54 : decode cX9_dummies 54 = .ok (.iconst 1, 1) := by decide +kernel
theorem dX9_dummies_55 : decode cX9_dummies 55 = .ok (.iload_n 2, 1) := by decide +kernel
theorem dX9_dummies_56 : decode cX9_dummies 56 = .ok (.ishl, 1) := by decide +kernel
theorem dX9_dummies_57 : decode cX9_dummies 57 = .ok (.ior, 1) := by decide +kernel
theorem dX9_dummies_58 : decode cX9_dummies 58 = .ok (.istore_n 1, 1) := by decide +kernel
theorem dX9_dummies_10 : decode cX9_dummies 10 = .ok (.bipush (-2), 2) := by decide +kernel
theorem dX9_dummies_12 : decode cX9_dummies 12 = .ok (.ireturn, 1) := by decide +kernel
theorem dX9_blocks_0 : decode cX9_blocks 0 = .ok (.aload_n 0, 1) := by decide +kernel
theorem dX9_blocks_1 : decode cX9_blocks 1 = .ok (.getfield 20, 3) := by decide +kernel
theorem dX9_blocks_4 : decode cX9_blocks 4 = .ok (.iload_n 1, 1) := by decide +kernel
theorem dX9_blocks_5 : decode cX9_blocks 5 = .ok (.invokevirtual 308, 3) := by decide +kernel
theorem dX0_hasSet_0 : decode cX0_hasSet 0 = .ok (.aload_n 0, 1) := by decide +kernel
theorem dX0_hasSet_1 : decode cX0_hasSet 1 = .ok (.invokevirtual 59, 3) := by decide +kernel
theorem dX0_hasSet_4 : decode cX0_hasSet 4 = .ok (.ifCond .eq 19, 3) := by decide +kernel
theorem dX0_hasSet_23 : decode cX0_hasSet 23 = .ok (.iconst 0, 1) := by decide +kernel
theorem dX0_hasSet_24 : decode cX0_hasSet 24 = .ok (.ireturn, 1) := by decide +kernel
theorem dX0_hasSet_7 : decode cX0_hasSet 7 = .ok (.iload_n 1, 1) := by decide +kernel
theorem dX0_hasSet_8 : decode cX0_hasSet 8 = .ok (.ifCond .lt 15, 3) := by decide +kernel
theorem dX0_hasSet_11 : decode cX0_hasSet 11 = .ok (.iload_n 1, 1) := by decide +kernel
theorem dX0_hasSet_12 : decode cX0_hasSet 12 = .ok (.aload_n 0, 1) := by decide +kernel
theorem dX0_hasSet_13 : decode cX0_hasSet 13 = .ok (.invokevirtual 63, 3) := by decide +kernel
theorem dX0_everybody_0 : decode cX0_everybody 0 = .ok (.iconst 1, 1) := by decide +kernel
theorem dX0_everybody_1 : decode cX0_everybody 1 = .ok (.aload_n 0, 1) := by decide +kernel
theorem dX0_everybody_2 : decode cX0_everybody 2 = .ok (.getfield 20, 3) := by decide +kernel
theorem dX0_everybody_5 : decode cX0_everybody 5 = .ok (.getfield 67, 3) := by decide +kernel
theorem dX0_everybody_8 : decode cX0_everybody 8 = .ok (.ishl, 1) := by decide +kernel
theorem dX0_everybody_9 : decode cX0_everybody 9 = .ok (.iconst 1, 1) := by decide +kernel
theorem dX0_everybody_10 : decode cX0_everybody 10 = .ok (.isub, 1) := by decide +kernel
theorem dX0_everybody_11 : decode cX0_everybody 11 = .ok (.ireturn, 1) := by decide +kernel
theorem dX0_hasSet_16 : decode cX0_hasSet 16 = .ok (.if_icmp .gt 7, 3) := by decide +kernel
theorem dX0_hasSet_19 : decode cX0_hasSet 19 = .ok (.iconst 1, 1) := by decide +kernel
theorem dX0_hasSet_20 : decode cX0_hasSet 20 = .ok (.goto 4, 3) := by decide +kernel
theorem dX9_blocks_8 : decode cX9_blocks 8 = .ok (.ifCond .ne 6, 3) := by decide +kernel
theorem dX9_blocks_14 : decode cX9_blocks 14 = .ok (.aload_n 0, 1) := by decide +kernel
theorem dX9_blocks_15 : decode cX9_blocks 15 = .ok (.getfield 78, 3) := by decide +kernel
theorem dX9_blocks_18 : decode cX9_blocks 18 = .ok (.aload_n 0, 1) := by decide +kernel
theorem dX9_blocks_19 : decode cX9_blocks 19 = .ok (.getfield 20, 3) := by decide +kernel
theorem dX9_blocks_22 : decode cX9_blocks 22 = .ok (.invokevirtual 311, 3) := by decide +kernel
theorem dX9_blocks_25 : decode cX9_blocks 25 = .ok (.aload_n 0, 1) := by decide +kernel
theorem dX9_blocks_26 : decode cX9_blocks 26 = .ok (.getfield 78, 3) := by decide +kernel
theorem dX9_blocks_29 : decode cX9_blocks 29 = .ok (.aload_n 0, 1) := by decide +kernel
theorem dX9_blocks_30 : decode cX9_blocks 30 = .ok (.getfield 20, 3) := by decide +kernel
theorem dX9_blocks_33 : decode cX9_blocks 33 = .ok (.invokevirtual 240, 3) := by decide +kernel
theorem dX9_blocks_36 : decode cX9_blocks 36 = .ok (.iload_n 1, 1) := by decide +kernel
theorem dX9_blocks_37 : decode cX9_blocks 37 = .ok (.iconst (-1), 1) := by decide +kernel
theorem dX9_blocks_38 : decode cX9_blocks 38 = .ok (.ixor, 1) := by decide +kernel
theorem dX9_blocks_39 : decode cX9_blocks 39 = .ok (.iand, 1) := by decide +kernel
theorem dX9_blocks_40 : decode cX9_blocks 40 = .ok (.invokevirtual 314, 3) := by decide +kernel
theorem dX9_blocks_43 : decode cX9_blocks 43 = .ok (.ifCond .eq 7, 3) := by decide +kernel
theorem dX9_blocks_50 : decode cX9_blocks 50 = .ok (.iconst 1, 1) := by decide +kernel
theorem dX9_blocks_51 : decode cX9_blocks 51 = .ok (.ireturn, 1) := by decide +kernel
theorem dX9_blocks_46 : decode cX9_blocks 46 = .ok (.iconst 0, 1) := by decide +kernel
theorem dX9_blocks_47 : decode cX9_blocks 47 = .ok (.goto 4, 3) := by decide +kernel
theorem dX9_blocks_11 : decode cX9_blocks 11 = .ok (.bipush (-2), 2) := by decide +kernel
theorem dX9_blocks_13 : decode cX9_blocks 13 = .ok (.ireturn, 1) := by decide +kernel
theorem dX9_strongest_0 : decode cX9_strongest 0 = .ok (.aload_n 0, 1) := by decide +kernel
theorem dX9_strongest_1 : decode cX9_strongest 1 = .ok (.getfield 20, 3) := by decide +kernel
theorem dX9_strongest_4 : decode cX9_strongest 4 = .ok (.invokevirtual 184, 3) := by decide +kernel
theorem dX9_strongest_7 : decode cX9_strongest 7 = .ok (.ifCond .ne 6, 3) := by decide +kernel
theorem dX9_strongest_13 : decode cX9_strongest 13 = .ok (.aload_n 0, 1) := by decide +kernel
theorem dX9_strongest_14 : decode cX9_strongest 14 = .ok (.getfield 78, 3) := by decide +kernel
theorem dX9_strongest_17 : decode cX9_strongest 17 = .ok (.aload_n 0, 1) := by decide +kernel
theorem dX9_strongest_18 : decode cX9_strongest 18 = .ok (.getfield 20, 3) := by decide +kernel
theorem dX9_strongest_21 : decode cX9_strongest 21 = .ok (.invokevirtual 311, 3) := by decide +kernel
theorem dX9_strongest_24 : decode cX9_strongest 24 = .ok (.iconst (-1), 1) := by decide +kernel
theorem dX9_strongest_25 : decode cX9_strongest 25 = .ok (.istore_n 1, 1) := by decide +kernel
theorem dX9_strongest_26 : decode cX9_strongest 26 = .ok (.iconst 0, 1) := by decide +kernel
theorem dX9_strongest_27 : decode cX9_strongest 27 = .ok (.istore_n 2, 1) := by decide +kernel
theorem dX9_strongest_28 : decode cX9_strongest 28 = .ok (.iconst 0, 1) := by decide +kernel
theorem dX9_strongest_29 : decode cX9_strongest 29 = .ok (.istore_n 3, 1) := by decide +kernel
theorem dX9_strongest_30 : decode cX9_strongest 30 = .ok (.iload_n 3, 1) := by decide +kernel
theorem dX9_strongest_31 : decode cX9_strongest 31 = .ok (.aload_n 0, 1) := by decide +kernel
theorem dX9_strongest_32 : decode cX9_strongest 32 = .ok (.getfield 20, 3) := by decide +kernel
theorem dX9_strongest_35 : decode cX9_strongest 35 = .ok (.getfield 133, 3) := by decide +kernel
theorem dX9_strongest_38 : decode cX9_strongest 38 = .ok (.getfield 200, 3) := by decide +kernel
theorem dX9_strongest_41 : decode cX9_strongest 41 = .ok (.if_icmp .ge 30, 3) := by decide +kernel
theorem dX9_strongest_71 : decode cX9_strongest 71 = .ok (.iload_n 1, 1) := by decide +kernel
theorem dX9_strongest_72 : decode cX9_strongest 72 = .ok (.ireturn, 1) := by decide +kernel
theorem dX9_strongest_44 : decode cX9_strongest 44 = .ok (.aload_n 0, 1) := by decide +kernel
theorem dX9_strongest_45 : decode cX9_strongest 45 = .ok (.getfield 78, 3) := by decide +kernel
theorem dX9_strongest_48 : decode cX9_strongest 48 = .ok (.iload_n 3, 1) := by decide +kernel
theorem dX9_strongest_49 : decode cX9_strongest 49 = .ok (.invokevirtual 317, 3) := by decide +kernel
theorem dX9_strongest_52 : decode cX9_strongest 52 = .ok (.istore 4, 2) := by decide +kernel
theorem dX9_strongest_54 : decode cX9_strongest 54 = .ok (.iload 4, 2) := by decide +kernel
theorem dX9_strongest_56 : decode cX9_strongest 56 = .ok (.iload_n 2, 1) := by decide +kernel
theorem dX9_strongest_57 : decode cX9_strongest 57 = .ok (.if_icmp .le 8, 3) := by decide +kernel
theorem dX9_strongest_65 : decode cX9_strongest 65 = .ok (.iinc 3 1, 3) := by decide +kernel
theorem dX9_strongest_68 : decode cX9_strongest 68 = .ok (.goto (-38), 3) := by decide +kernel
theorem dX9_strongest_60 : decode cX9_strongest 60 = .ok (.iload 4, 2) := by decide +kernel
theorem dX9_strongest_62 : decode cX9_strongest 62 = .ok (.istore_n 2, 1) := by decide +kernel
theorem dX9_strongest_63 : decode cX9_strongest 63 = .ok (.iload_n 3, 1) := by decide +kernel
theorem dX9_strongest_64 : decode cX9_strongest 64 = .ok (.istore_n 1, 1) := by decide +kernel
theorem dX9_strongest_10 : decode cX9_strongest 10 = .ok (.bipush (-2), 2) := by decide +kernel
theorem dX9_strongest_12 : decode cX9_strongest 12 = .ok (.ireturn, 1) := by decide +kernel
theorem dX9_have_0 : decode cX9_have 0 = .ok (.aload_n 0, 1) := by decide +kernel
theorem dX9_have_1 : decode cX9_have 1 = .ok (.getfield 20, 3) := by decide +kernel
theorem dX9_have_4 : decode cX9_have 4 = .ok (.iload_n 1, 1) := by decide +kernel
theorem dX9_have_5 : decode cX9_have 5 = .ok (.invokevirtual 139, 3) := by decide +kernel
theorem dX9_have_8 : decode cX9_have 8 = .ok (.ifCond .eq 14, 3) := by decide +kernel
theorem dX9_have_22 : decode cX9_have 22 = .ok (.bipush (-2), 2) := by decide +kernel
theorem dX9_have_24 : decode cX9_have 24 = .ok (.ireturn, 1) := by decide +kernel
theorem dX9_have_11 : decode cX9_have 11 = .ok (.aload_n 0, 1) := by decide +kernel
theorem dX9_have_12 : decode cX9_have 12 = .ok (.getfield 20, 3) := by decide +kernel
theorem dX9_have_15 : decode cX9_have 15 = .ok (.iload_n 2, 1) := by decide +kernel
theorem dX9_have_16 : decode cX9_have 16 = .ok (.invokevirtual 153, 3) := by decide +kernel
theorem dX9_have_19 : decode cX9_have 19 = .ok (.ifCond .ne 6, 3) := by decide +kernel
theorem dX9_have_25 : decode cX9_have 25 = .ok (.aload_n 0, 1) := by decide +kernel
theorem dX9_have_26 : decode cX9_have 26 = .ok (.invokevirtual 227, 3) := by decide +kernel
theorem dX9_have_29 : decode cX9_have 29 = .ok (.aload_n 0, 1) := by decide +kernel
theorem dX9_have_30 : decode cX9_have 30 = .ok (.getfield 64, 3) := by decide +kernel
theorem dX9_have_33 : decode cX9_have 33 = .ok (.aload_n 0, 1) := by decide +kernel
theorem dX9_have_34 : decode cX9_have 34 = .ok (.getfield 54, 3) := by decide +kernel
theorem dX9_have_37 : decode cX9_have 37 = .ok (.iload_n 1, 1) := by decide +kernel
theorem dX9_have_38 : decode cX9_have 38 = .ok (.iconst 0, 1) := by decide +kernel
theorem dX9_have_39 : decode cX9_have 39 = .ok (.invokevirtual 220, 3) := by decide +kernel
theorem dX9_have_42 : decode cX9_have 42 = .ok (.aload_n 0, 1) := by decide +kernel
theorem dX9_have_43 : decode cX9_have 43 = .ok (.getfield 64, 3) := by decide +kernel
theorem dX9_have_46 : decode cX9_have 46 = .ok (.iload_n 2, 1) := by decide +kernel
theorem dX9_have_47 : decode cX9_have 47 = .ok (.invokevirtual 224, 3) := by decide +kernel
theorem dX9_have_50 : decode cX9_have 50 = .ok (.ireturn, 1) := by decide +kernel
theorem dX9_gets_0 : decode cX9_gets 0 = .ok (.aload_n 0, 1) := by decide +kernel
theorem dX9_gets_1 : decode cX9_gets 1 = .ok (.getfield 20, 3) := by decide +kernel
theorem dX9_gets_4 : decode cX9_gets 4 = .ok (.iload_n 1, 1) := by decide +kernel
theorem dX9_gets_5 : decode cX9_gets 5 = .ok (.invokevirtual 139, 3) := by decide +kernel
theorem dX9_gets_8 : decode cX9_gets 8 = .ok (.ifCond .eq 14, 3) := by decide +kernel
theorem dX9_gets_22 : decode cX9_gets 22 = .ok (.bipush (-2), 2) := by decide +kernel
theorem dX9_gets_24 : decode cX9_gets 24 = .ok (.ireturn, 1) := by decide +kernel
theorem dX9_gets_11 : decode cX9_gets 11 = .ok (.aload_n 0, 1) := by decide +kernel
theorem dX9_gets_12 : decode cX9_gets 12 = .ok (.getfield 20, 3) := by decide +kernel
theorem dX9_gets_15 : decode cX9_gets 15 = .ok (.iload_n 2, 1) := by decide +kernel
theorem dX9_gets_16 : decode cX9_gets 16 = .ok (.invokevirtual 139, 3) := by decide +kernel
theorem dX9_gets_19 : decode cX9_gets 19 = .ok (.ifCond .ne 6, 3) := by decide +kernel
theorem dX9_gets_25 : decode cX9_gets 25 = .ok (.aload_n 0, 1) := by decide +kernel
theorem dX9_gets_26 : decode cX9_gets 26 = .ok (.invokevirtual 227, 3) := by decide +kernel
theorem dX9_gets_29 : decode cX9_gets 29 = .ok (.aload_n 0, 1) := by decide +kernel
theorem dX9_gets_30 : decode cX9_gets 30 = .ok (.getfield 64, 3) := by decide +kernel
theorem dX9_gets_33 : decode cX9_gets 33 = .ok (.aload_n 0, 1) := by decide +kernel
theorem dX9_gets_34 : decode cX9_gets 34 = .ok (.getfield 54, 3) := by decide +kernel
theorem dX9_gets_37 : decode cX9_gets 37 = .ok (.iload_n 1, 1) := by decide +kernel
theorem dX9_gets_38 : decode cX9_gets 38 = .ok (.iconst 0, 1) := by decide +kernel
theorem dX9_gets_39 : decode cX9_gets 39 = .ok (.invokevirtual 220, 3) := by decide +kernel
theorem dX9_gets_42 : decode cX9_gets 42 = .ok (.aload_n 0, 1) := by decide +kernel
theorem dX9_gets_43 : decode cX9_gets 43 = .ok (.getfield 64, 3) := by decide +kernel
theorem dX9_gets_46 : decode cX9_gets 46 = .ok (.iload_n 2, 1) := by decide +kernel
theorem dX9_gets_47 : decode cX9_gets 47 = .ok (.invokevirtual 237, 3) := by decide +kernel
theorem dX9_gets_50 : decode cX9_gets 50 = .ok (.ireturn, 1) := by decide +kernel
theorem dX9_from_0 : decode cX9_from 0 = .ok (.aload_n 0, 1) := by decide +kernel
theorem dX9_from_1 : decode cX9_from 1 = .ok (.getfield 20, 3) := by decide +kernel
theorem dX9_from_4 : decode cX9_from 4 = .ok (.iload_n 1, 1) := by decide +kernel
theorem dX9_from_5 : decode cX9_from 5 = .ok (.invokevirtual 139, 3) := by decide +kernel
theorem dX9_from_8 : decode cX9_from 8 = .ok (.ifCond .eq 14, 3) := by decide +kernel
theorem dX9_from_22 : decode cX9_from 22 = .ok (.bipush (-2), 2) := by decide +kernel
theorem dX9_from_24 : decode cX9_from 24 = .ok (.ireturn, 1) := by decide +kernel
theorem dX9_from_11 : decode cX9_from 11 = .ok (.aload_n 0, 1) := by decide +kernel
theorem dX9_from_12 : decode cX9_from 12 = .ok (.getfield 20, 3) := by decide +kernel
theorem dX9_from_15 : decode cX9_from 15 = .ok (.iload_n 2, 1) := by decide +kernel
theorem dX9_from_16 : decode cX9_from 16 = .ok (.invokevirtual 139, 3) := by decide +kernel
theorem dX9_from_19 : decode cX9_from 19 = .ok (.ifCond .ne 6, 3) := by decide +kernel
theorem dX9_from_25 : decode cX9_from 25 = .ok (.aload_n 0, 1) := by decide +kernel
theorem dX9_from_26 : decode cX9_from 26 = .ok (.invokevirtual 227, 3) := by decide +kernel
theorem dX9_from_29 : decode cX9_from 29 = .ok (.aload_n 0, 1) := by decide +kernel
theorem dX9_from_30 : decode cX9_from 30 = .ok (.getfield 64, 3) := by decide +kernel
theorem dX9_from_33 : decode cX9_from 33 = .ok (.aload_n 0, 1) := by decide +kernel
theorem dX9_from_34 : decode cX9_from 34 = .ok (.getfield 54, 3) := by decide +kernel
theorem dX9_from_37 : decode cX9_from 37 = .ok (.iload_n 1, 1) := by decide +kernel
theorem dX9_from_38 : decode cX9_from 38 = .ok (.iconst 0, 1) := by decide +kernel
theorem dX9_from_39 : decode cX9_from 39 = .ok (.invokevirtual 220, 3) := by decide +kernel
theorem dX9_from_42 : decode cX9_from 42 = .ok (.aload_n 0, 1) := by decide +kernel
theorem dX9_from_43 : decode cX9_from 43 = .ok (.getfield 64, 3) := by decide +kernel
theorem dX9_from_46 : decode cX9_from 46 = .ok (.aload_n 0, 1) := by decide +kernel
theorem dX9_from_47 : decode cX9_from 47 = .ok (.getfield 54, 3) := by decide +kernel
theorem dX9_from_50 : decode cX9_from 50 = .ok (.iload_n 2, 1) := by decide +kernel
theorem dX9_from_51 : decode cX9_from 51 = .ok (.invokevirtual 234, 3) := by decide +kernel
theorem dX9_from_54 : decode cX9_from 54 = .ok (.ireturn, 1) := by decide +kernel
theorem dX9_all_0 : decode cX9_all 0 = .ok (.aload_n 0, 1) := by decide +kernel
theorem dX9_all_1 : decode cX9_all 1 = .ok (.getfield 20, 3) := by decide +kernel
theorem dX9_all_4 : decode cX9_all 4 = .ok (.iload_n 1, 1) := by decide +kernel
theorem dX9_all_5 : decode cX9_all 5 = .ok (.invokevirtual 139, 3) := by decide +kernel
theorem dX9_all_8 : decode cX9_all 8 = .ok (.ifCond .ne 6, 3) := by decide +kernel
theorem dX9_all_14 : decode cX9_all 14 = .ok (.aload_n 0, 1) := by decide +kernel
theorem dX9_all_15 : decode cX9_all 15 = .ok (.invokevirtual 227, 3) := by decide +kernel
theorem dX9_all_18 : decode cX9_all 18 = .ok (.aload_n 0, 1) := by decide +kernel
theorem dX9_all_19 : decode cX9_all 19 = .ok (.getfield 64, 3) := by decide +kernel
theorem dX9_all_22 : decode cX9_all 22 = .ok (.aload_n 0, 1) := by decide +kernel
theorem dX9_all_23 : decode cX9_all 23 = .ok (.getfield 54, 3) := by decide +kernel
theorem dX9_all_26 : decode cX9_all 26 = .ok (.iload_n 1, 1) := by decide +kernel
theorem dX9_all_27 : decode cX9_all 27 = .ok (.iconst 0, 1) := by decide +kernel
theorem dX9_all_28 : decode cX9_all 28 = .ok (.invokevirtual 220, 3) := by decide +kernel
theorem dX9_all_31 : decode cX9_all 31 = .ok (.aload_n 0, 1) := by decide +kernel
theorem dX9_all_32 : decode cX9_all 32 = .ok (.getfield 20, 3) := by decide +kernel
theorem dX9_all_35 : decode cX9_all 35 = .ok (.invokevirtual 240, 3) := by decide +kernel
theorem dX9_all_38 : decode cX9_all 38 = .ok (.istore_n 2, 1) := by decide +kernel
theorem dX9_all_39 : decode cX9_all 39 = .ok (.iconst 0, 1) := by decide +kernel
theorem dX9_all_40 : decode cX9_all 40 = .ok (.istore_n 3, 1) := by decide +kernel
theorem dX9_all_41 : decode cX9_all 41 = .ok (.iload_n 3, 1) := by decide +kernel
theorem dX9_all_42 : decode cX9_all 42 = .ok (.aload_n 0, 1) := by decide +kernel
theorem dX9_all_43 : decode cX9_all 43 = .ok (.getfield 20, 3) := by decide +kernel
theorem dX9_all_46 : decode cX9_all 46 = .ok (.getfield 169, 3) := by decide +kernel
theorem dX9_all_49 : decode cX9_all 49 = .ok (.if_icmp .gt 23, 3) := by decide +kernel
theorem dX9_all_52 : decode cX9_all 52 = .ok (.aload_n 0, 1) := by decide +kernel
theorem dX9_all_53 : decode cX9_all 53 = .ok (.getfield 64, 3) := by decide +kernel
theorem dX9_all_56 : decode cX9_all 56 = .ok (.iload_n 3, 1) := by decide +kernel
theorem dX9_all_57 : decode cX9_all 57 = .ok (.invokevirtual 224, 3) := by decide +kernel
theorem dX9_all_60 : decode cX9_all 60 = .ok (.iload_n 2, 1) := by decide +kernel
theorem dX9_all_61 : decode cX9_all 61 = .ok (.if_icmp .ne 5, 3) := by decide +kernel
theorem dX9_all_66 : decode cX9_all 66 = .ok (.iinc 3 1, 3) := by decide +kernel
theorem dX9_all_69 : decode cX9_all 69 = .ok (.goto (-28), 3) := by decide +kernel
theorem dX9_all_64 : decode cX9_all 64 = .ok (.iload_n 3, 1) := by decide +kernel
theorem dX9_all_65 : decode cX9_all 65 = .ok (.ireturn, 1) := by decide +kernel
theorem dX9_all_72 : decode cX9_all 72 = .ok (.iconst (-1), 1) := by decide +kernel
theorem dX9_all_73 : decode cX9_all 73 = .ok (.ireturn, 1) := by decide +kernel
theorem dX9_all_11 : decode cX9_all 11 = .ok (.bipush (-2), 2) := by decide +kernel
theorem dX9_all_13 : decode cX9_all 13 = .ok (.ireturn, 1) := by decide +kernel
theorem dX9_best_0 : decode cX9_best 0 = .ok (.aload_n 0, 1) := by decide +kernel
theorem dX9_best_1 : decode cX9_best 1 = .ok (.getfield 20, 3) := by decide +kernel
theorem dX9_best_4 : decode cX9_best 4 = .ok (.invokevirtual 184, 3) := by decide +kernel
theorem dX9_best_7 : decode cX9_best 7 = .ok (.ifCond .ne 6, 3) := by decide +kernel
theorem dX9_best_13 : decode cX9_best 13 = .ok (.aload_n 0, 1) := by decide +kernel
theorem dX9_best_14 : decode cX9_best 14 = .ok (.invokevirtual 227, 3) := by decide +kernel
theorem dX9_best_17 : decode cX9_best 17 = .ok (.iconst (-1), 1) := by decide +kernel
theorem dX9_best_18 : decode cX9_best 18 = .ok (.istore_n 1, 1) := by decide +kernel
theorem dX9_best_19 : decode cX9_best 19 = .ok (.iconst 0, 1) := by decide +kernel
theorem dX9_best_20 : decode cX9_best 20 = .ok (.istore_n 2, 1) := by decide +kernel
theorem dX9_best_21 : decode cX9_best 21 = .ok (.iconst 0, 1) := by decide +kernel
theorem dX9_best_22 : decode cX9_best 22 = .ok (.istore_n 3, 1) := by decide +kernel
theorem dX9_best_23 : decode cX9_best 23 = .ok (.iload_n 3, 1) := by decide +kernel
theorem dX9_best_24 : decode cX9_best 24 = .ok (.aload_n 0, 1) := by decide +kernel
theorem dX9_best_25 : decode cX9_best 25 = .ok (.getfield 20, 3) := by decide +kernel
theorem dX9_best_28 : decode cX9_best 28 = .ok (.getfield 133, 3) := by decide +kernel
theorem dX9_best_31 : decode cX9_best 31 = .ok (.getfield 200, 3) := by decide +kernel
theorem dX9_best_34 : decode cX9_best 34 = .ok (.if_icmp .ge 34, 3) := by decide +kernel
theorem dX9_best_68 : decode cX9_best 68 = .ok (.iload_n 1, 1) := by decide +kernel
theorem dX9_best_69 : decode cX9_best 69 = .ok (.ireturn, 1) := by decide +kernel
theorem dX9_best_37 : decode cX9_best 37 = .ok (.aload_n 0, 1) := by decide +kernel
theorem dX9_best_38 : decode cX9_best 38 = .ok (.aload_n 0, 1) := by decide +kernel
theorem dX9_best_39 : decode cX9_best 39 = .ok (.getfield 54, 3) := by decide +kernel
theorem dX9_best_42 : decode cX9_best 42 = .ok (.iload_n 3, 1) := by decide +kernel
theorem dX9_best_43 : decode cX9_best 43 = .ok (.invokevirtual 230, 3) := by decide +kernel
theorem dX9_best_46 : decode cX9_best 46 = .ok (.invokestatic 203, 3) := by decide +kernel
theorem dX9_best_49 : decode cX9_best 49 = .ok (.istore 4, 2) := by decide +kernel
theorem dX9_best_51 : decode cX9_best 51 = .ok (.iload 4, 2) := by decide +kernel
theorem dX9_best_53 : decode cX9_best 53 = .ok (.iload_n 2, 1) := by decide +kernel
theorem dX9_best_54 : decode cX9_best 54 = .ok (.if_icmp .le 8, 3) := by decide +kernel
theorem dX9_best_62 : decode cX9_best 62 = .ok (.iinc 3 1, 3) := by decide +kernel
theorem dX9_best_65 : decode cX9_best 65 = .ok (.goto (-42), 3) := by decide +kernel
theorem dX9_best_57 : decode cX9_best 57 = .ok (.iload 4, 2) := by decide +kernel
theorem dX9_best_59 : decode cX9_best 59 = .ok (.istore_n 2, 1) := by decide +kernel
theorem dX9_best_60 : decode cX9_best 60 = .ok (.iload_n 3, 1) := by decide +kernel
theorem dX9_best_61 : decode cX9_best 61 = .ok (.istore_n 1, 1) := by decide +kernel
theorem dX9_best_10 : decode cX9_best 10 = .ok (.bipush (-2), 2) := by decide +kernel
theorem dX9_best_12 : decode cX9_best 12 = .ok (.ireturn, 1) := by decide +kernel
theorem dX9_lasts_0 : decode cX9_lasts 0 = .ok (.aload_n 0, 1) := by decide +kernel
theorem dX9_lasts_1 : decode cX9_lasts 1 = .ok (.getfield 20, 3) := by decide +kernel
theorem dX9_lasts_4 : decode cX9_lasts 4 = .ok (.iload_n 1, 1) := by decide +kernel
theorem dX9_lasts_5 : decode cX9_lasts 5 = .ok (.invokevirtual 139, 3) := by decide +kernel
theorem dX9_lasts_8 : decode cX9_lasts 8 = .ok (.ifCond .ne 6, 3) := by decide +kernel
theorem dX9_lasts_14 : decode cX9_lasts 14 = .ok (.aload_n 0, 1) := by decide +kernel
theorem dX9_lasts_15 : decode cX9_lasts 15 = .ok (.invokevirtual 227, 3) := by decide +kernel
theorem dX9_lasts_18 : decode cX9_lasts 18 = .ok (.aload_n 0, 1) := by decide +kernel
theorem dX9_lasts_19 : decode cX9_lasts 19 = .ok (.getfield 64, 3) := by decide +kernel
theorem dX9_lasts_22 : decode cX9_lasts 22 = .ok (.aload_n 0, 1) := by decide +kernel
theorem dX9_lasts_23 : decode cX9_lasts 23 = .ok (.getfield 54, 3) := by decide +kernel
theorem dX9_lasts_26 : decode cX9_lasts 26 = .ok (.iload_n 1, 1) := by decide +kernel
theorem dX9_lasts_27 : decode cX9_lasts 27 = .ok (.iconst 0, 1) := by decide +kernel
theorem dX9_lasts_28 : decode cX9_lasts 28 = .ok (.invokevirtual 220, 3) := by decide +kernel
theorem dX9_lasts_31 : decode cX9_lasts 31 = .ok (.iconst (-1), 1) := by decide +kernel
theorem dX9_lasts_32 : decode cX9_lasts 32 = .ok (.istore_n 2, 1) := by decide +kernel
theorem dX9_lasts_33 : decode cX9_lasts 33 = .ok (.iconst 0, 1) := by decide +kernel
theorem dX9_lasts_34 : decode cX9_lasts 34 = .ok (.istore_n 3, 1) := by decide +kernel
theorem dX9_lasts_35 : decode cX9_lasts 35 = .ok (.iload_n 3, 1) := by decide +kernel
theorem dX9_lasts_36 : decode cX9_lasts 36 = .ok (.aload_n 0, 1) := by decide +kernel
theorem dX9_lasts_37 : decode cX9_lasts 37 = .ok (.getfield 20, 3) := by decide +kernel
theorem dX9_lasts_40 : decode cX9_lasts 40 = .ok (.getfield 133, 3) := by decide +kernel
theorem dX9_lasts_43 : decode cX9_lasts 43 = .ok (.getfield 200, 3) := by decide +kernel
theorem dX9_lasts_46 : decode cX9_lasts 46 = .ok (.if_icmp .ge 27, 3) := by decide +kernel
theorem dX9_lasts_73 : decode cX9_lasts 73 = .ok (.iload_n 2, 1) := by decide +kernel
theorem dX9_lasts_74 : decode cX9_lasts 74 = .ok (.ireturn, 1) := by decide +kernel
theorem dX9_lasts_49 : decode cX9_lasts 49 = .ok (.iload_n 3, 1) := by decide +kernel
theorem dX9_lasts_50 : decode cX9_lasts 50 = .ok (.iload_n 1, 1) := by decide +kernel
theorem dX9_lasts_51 : decode cX9_lasts 51 = .ok (.if_icmp .eq 16, 3) := by decide +kernel
theorem dX9_lasts_67 : decode cX9_lasts 67 = .ok (.iinc 3 1, 3) := by decide +kernel
theorem dX9_lasts_70 : decode cX9_lasts 70 = .ok (.goto (-35), 3) := by decide +kernel
theorem dX9_lasts_54 : decode cX9_lasts 54 = .ok (.iload_n 2, 1) := by decide +kernel
theorem dX9_lasts_55 : decode cX9_lasts 55 = .ok (.aload_n 0, 1) := by decide +kernel
theorem dX9_lasts_56 : decode cX9_lasts 56 = .ok (.getfield 64, 3) := by decide +kernel
theorem dX9_lasts_59 : decode cX9_lasts 59 = .ok (.iload_n 3, 1) := by decide +kernel
theorem dX9_lasts_60 : decode cX9_lasts 60 = .ok (.invokevirtual 237, 3) := by decide +kernel
theorem dX9_lasts_63 : decode cX9_lasts 63 = .ok (.invokestatic 191, 3) := by decide +kernel
theorem dX9_lasts_66 : decode cX9_lasts 66 = .ok (.istore_n 2, 1) := by decide +kernel
theorem dX9_lasts_11 : decode cX9_lasts 11 = .ok (.bipush (-2), 2) := by decide +kernel
theorem dX9_lasts_13 : decode cX9_lasts 13 = .ok (.ireturn, 1) := by decide +kernel
theorem dX9_needed_0 : decode cX9_needed 0 = .ok (.aload_n 0, 1) := by decide +kernel
theorem dX9_needed_1 : decode cX9_needed 1 = .ok (.getfield 20, 3) := by decide +kernel
theorem dX9_needed_4 : decode cX9_needed 4 = .ok (.iload_n 1, 1) := by decide +kernel
theorem dX9_needed_5 : decode cX9_needed 5 = .ok (.invokevirtual 139, 3) := by decide +kernel
theorem dX9_needed_8 : decode cX9_needed 8 = .ok (.ifCond .ne 6, 3) := by decide +kernel
theorem dX9_needed_14 : decode cX9_needed 14 = .ok (.aload_n 0, 1) := by decide +kernel
theorem dX9_needed_15 : decode cX9_needed 15 = .ok (.invokevirtual 227, 3) := by decide +kernel
theorem dX9_needed_18 : decode cX9_needed 18 = .ok (.aload_n 0, 1) := by decide +kernel
theorem dX9_needed_19 : decode cX9_needed 19 = .ok (.aload_n 0, 1) := by decide +kernel
theorem dX9_needed_20 : decode cX9_needed 20 = .ok (.getfield 54, 3) := by decide +kernel
theorem dX9_needed_23 : decode cX9_needed 23 = .ok (.iload_n 1, 1) := by decide +kernel
theorem dX9_needed_24 : decode cX9_needed 24 = .ok (.invokevirtual 230, 3) := by decide +kernel
theorem dX9_needed_27 : decode cX9_needed 27 = .ok (.istore_n 2, 1) := by decide +kernel
theorem dX9_needed_28 : decode cX9_needed 28 = .ok (.iconst 0, 1) := by decide +kernel
theorem dX9_needed_29 : decode cX9_needed 29 = .ok (.istore_n 3, 1) := by decide +kernel
theorem dX9_needed_30 : decode cX9_needed 30 = .ok (.iconst 0, 1) := by decide +kernel
theorem dX9_needed_31 : decode cX9_needed 31 = .ok (.istore 4, 2) := by decide +kernel
theorem dX9_needed_33 : decode cX9_needed 33 = .ok (.iload 4, 2) := by decide +kernel
theorem dX9_needed_35 : decode cX9_needed 35 = .ok (.aload_n 0, 1) := by decide +kernel
theorem dX9_needed_36 : decode cX9_needed 36 = .ok (.getfield 20, 3) := by decide +kernel
theorem dX9_needed_39 : decode cX9_needed 39 = .ok (.getfield 133, 3) := by decide +kernel
theorem dX9_needed_42 : decode cX9_needed 42 = .ok (.getfield 200, 3) := by decide +kernel
theorem dX9_needed_45 : decode cX9_needed 45 = .ok (.if_icmp .ge 73, 3) := by decide +kernel
theorem dX9_needed_118 : decode cX9_needed 118 = .ok (.iload_n 3, 1) := by decide +kernel
theorem dX9_needed_119 : decode cX9_needed 119 = .ok (.ireturn, 1) := by decide +kernel
theorem dX9_needed_48 : decode cX9_needed 48 = .ok (.iload 4, 2) := by decide +kernel
theorem dX9_needed_50 : decode cX9_needed 50 = .ok (.iload_n 1, 1) := by decide +kernel
theorem dX9_needed_51 : decode cX9_needed 51 = .ok (.if_icmp .eq 61, 3) := by decide +kernel
theorem dX9_needed_112 : decode cX9_needed 112 = .ok (.iinc 4 1, 3) := by decide +kernel
theorem dX9_needed_115 : decode cX9_needed 115 = .ok (.goto (-82), 3) := by decide +kernel
theorem dX9_needed_54 : decode cX9_needed 54 = .ok (.aload_n 0, 1) := by decide +kernel
theorem dX9_needed_55 : decode cX9_needed 55 = .ok (.getfield 64, 3) := by decide +kernel
theorem dX9_needed_58 : decode cX9_needed 58 = .ok (.aload_n 0, 1) := by decide +kernel
theorem dX9_needed_59 : decode cX9_needed 59 = .ok (.getfield 20, 3) := by decide +kernel
theorem dX9_needed_62 : decode cX9_needed 62 = .ok (.aload_n 0, 1) := by decide +kernel
theorem dX9_needed_63 : decode cX9_needed 63 = .ok (.getfield 20, 3) := by decide +kernel
theorem dX9_needed_66 : decode cX9_needed 66 = .ok (.getfield 214, 3) := by decide +kernel
theorem dX9_needed_69 : decode cX9_needed 69 = .ok (.iload 4, 2) := by decide +kernel
theorem dX9_needed_71 : decode cX9_needed 71 = .ok (.invokevirtual 217, 3) := by decide +kernel
theorem dX9_needed_74 : decode cX9_needed 74 = .ok (.iload_n 2, 1) := by decide +kernel
theorem dX9_needed_75 : decode cX9_needed 75 = .ok (.aload_n 0, 1) := by decide +kernel
theorem dX9_needed_76 : decode cX9_needed 76 = .ok (.aload_n 0, 1) := by decide +kernel
theorem dX9_needed_77 : decode cX9_needed 77 = .ok (.getfield 54, 3) := by decide +kernel
theorem dX9_needed_80 : decode cX9_needed 80 = .ok (.iload_n 1, 1) := by decide +kernel
theorem dX9_needed_81 : decode cX9_needed 81 = .ok (.invokevirtual 230, 3) := by decide +kernel
theorem dX9_needed_84 : decode cX9_needed 84 = .ok (.iconst (-1), 1) := by decide +kernel
theorem dX9_needed_85 : decode cX9_needed 85 = .ok (.ixor, 1) := by decide +kernel
theorem dX9_needed_86 : decode cX9_needed 86 = .ok (.iand, 1) := by decide +kernel
theorem dX9_needed_87 : decode cX9_needed 87 = .ok (.iconst 1, 1) := by decide +kernel
theorem dX9_needed_88 : decode cX9_needed 88 = .ok (.iload 4, 2) := by decide +kernel
theorem dX9_needed_90 : decode cX9_needed 90 = .ok (.ishl, 1) := by decide +kernel
theorem dX9_needed_91 : decode cX9_needed 91 = .ok (.iconst (-1), 1) := by decide +kernel
theorem dX9_needed_92 : decode cX9_needed 92 = .ok (.ixor, 1) := by decide +kernel
theorem dX9_needed_93 : decode cX9_needed 93 = .ok (.iand, 1) := by decide +kernel
theorem dX9_needed_94 : decode cX9_needed 94 = .ok (.istore 5, 2) := by decide +kernel
theorem dX9_needed_96 : decode cX9_needed 96 = .ok (.iload_n 3, 1) := by decide +kernel
theorem dX9_needed_97 : decode cX9_needed 97 = .ok (.iload 5, 2) := by decide +kernel
theorem dX9_needed_99 : decode cX9_needed 99 = .ok (.ifCond .eq 10, 3) := by decide +kernel
theorem dX9_needed_109 : decode cX9_needed 109 = .ok (.iconst 0, 1) := by decide +kernel
theorem dX9_needed_110 : decode cX9_needed 110 = .ok (.ior, 1) := by decide +kernel
theorem dX9_needed_111 : decode cX9_needed 111 = .ok (.istore_n 3, 1) := by decide +kernel
theorem dX9_needed_102 : decode cX9_needed 102 = .ok (.iconst 1, 1) := by decide +kernel
theorem dX9_needed_103 : decode cX9_needed 103 = .ok (.iload 4, 2) := by decide +kernel
theorem dX9_needed_105 : decode cX9_needed 105 = .ok (.ishl, 1) := by decide +kernel
theorem dX9_needed_106 : decode cX9_needed 106 = .ok (.goto 4, 3) := by decide +kernel
theorem dX9_needed_11 : decode cX9_needed 11 = .ok (.bipush (-2), 2) := by decide +kernel
theorem dX9_needed_13 : decode cX9_needed 13 = .ok (.ireturn, 1) := by decide +kernel
theorem dX9_by_0 : decode cX9_by 0 = .ok (.aload_n 0, 1) := by decide +kernel
theorem dX9_by_1 : decode cX9_by 1 = .ok (.getfield 20, 3) := by decide +kernel
theorem dX9_by_4 : decode cX9_by 4 = .ok (.iload_n 1, 1) := by decide +kernel
theorem dX9_by_5 : decode cX9_by 5 = .ok (.invokevirtual 139, 3) := by decide +kernel
theorem dX9_by_8 : decode cX9_by 8 = .ok (.ifCond .eq 12, 3) := by decide +kernel
theorem dX9_by_20 : decode cX9_by 20 = .ok (.bipush (-2), 2) := by decide +kernel
theorem dX9_by_22 : decode cX9_by 22 = .ok (.ireturn, 1) := by decide +kernel
theorem dX9_by_11 : decode cX9_by 11 = .ok (.iload_n 2, 1) := by decide +kernel
theorem dX9_by_12 : decode cX9_by 12 = .ok (.ifCond .lt 8, 3) := by decide +kernel
theorem dX9_by_15 : decode cX9_by 15 = .ok (.iload_n 2, 1) := by decide +kernel
theorem dX9_by_16 : decode cX9_by 16 = .ok (.iconst 3, 1) := by decide +kernel
theorem dX9_by_17 : decode cX9_by 17 = .ok (.if_icmp .le 6, 3) := by decide +kernel
theorem dX9_by_23 : decode cX9_by 23 = .ok (.aload_n 0, 1) := by decide +kernel
theorem dX9_by_24 : decode cX9_by 24 = .ok (.getfield 64, 3) := by decide +kernel
theorem dX9_by_27 : decode cX9_by 27 = .ok (.aload_n 0, 1) := by decide +kernel
theorem dX9_by_28 : decode cX9_by 28 = .ok (.getfield 20, 3) := by decide +kernel
theorem dX9_by_31 : decode cX9_by 31 = .ok (.iload_n 2, 1) := by decide +kernel
theorem dX9_by_32 : decode cX9_by 32 = .ok (.iconst (-1), 1) := by decide +kernel
theorem dX9_by_33 : decode cX9_by 33 = .ok (.invokevirtual 217, 3) := by decide +kernel
theorem dX9_by_36 : decode cX9_by 36 = .ok (.aload_n 0, 1) := by decide +kernel
theorem dX9_by_37 : decode cX9_by 37 = .ok (.aload_n 0, 1) := by decide +kernel
theorem dX9_by_38 : decode cX9_by 38 = .ok (.getfield 54, 3) := by decide +kernel
theorem dX9_by_41 : decode cX9_by 41 = .ok (.iload_n 1, 1) := by decide +kernel
theorem dX9_by_42 : decode cX9_by 42 = .ok (.invokevirtual 230, 3) := by decide +kernel
theorem dX9_by_45 : decode cX9_by 45 = .ok (.ireturn, 1) := by decide +kernel
theorem dX9_carry_0 : decode cX9_carry 0 = .ok (.aload_n 0, 1) := by decide +kernel
theorem dX9_carry_1 : decode cX9_carry 1 = .ok (.getfield 20, 3) := by decide +kernel
theorem dX9_carry_4 : decode cX9_carry 4 = .ok (.iload_n 1, 1) := by decide +kernel
theorem dX9_carry_5 : decode cX9_carry 5 = .ok (.invokevirtual 139, 3) := by decide +kernel
theorem dX9_carry_8 : decode cX9_carry 8 = .ok (.ifCond .eq 30, 3) := by decide +kernel
theorem dX9_carry_38 : decode cX9_carry 38 = .ok (.bipush (-2), 2) := by decide +kernel
theorem dX9_carry_40 : decode cX9_carry 40 = .ok (.ireturn, 1) := by decide +kernel
theorem dX9_carry_11 : decode cX9_carry 11 = .ok (.aload_n 0, 1) := by decide +kernel
theorem dX9_carry_12 : decode cX9_carry 12 = .ok (.getfield 20, 3) := by decide +kernel
theorem dX9_carry_15 : decode cX9_carry 15 = .ok (.iload_n 2, 1) := by decide +kernel
theorem dX9_carry_16 : decode cX9_carry 16 = .ok (.invokevirtual 139, 3) := by decide +kernel
theorem dX9_carry_19 : decode cX9_carry 19 = .ok (.ifCond .eq 19, 3) := by decide +kernel
theorem dX9_carry_22 : decode cX9_carry 22 = .ok (.aload_n 0, 1) := by decide +kernel
theorem dX9_carry_23 : decode cX9_carry 23 = .ok (.getfield 20, 3) := by decide +kernel
theorem dX9_carry_26 : decode cX9_carry 26 = .ok (.iload_n 3, 1) := by decide +kernel
theorem dX9_carry_27 : decode cX9_carry 27 = .ok (.invokevirtual 139, 3) := by decide +kernel
theorem dX9_carry_30 : decode cX9_carry 30 = .ok (.ifCond .eq 8, 3) := by decide +kernel
theorem dX9_carry_33 : decode cX9_carry 33 = .ok (.iload_n 2, 1) := by decide +kernel
theorem dX9_carry_34 : decode cX9_carry 34 = .ok (.iload_n 3, 1) := by decide +kernel
theorem dX9_carry_35 : decode cX9_carry 35 = .ok (.if_icmp .ne 6, 3) := by decide +kernel
theorem dX9_carry_41 : decode cX9_carry 41 = .ok (.aload_n 0, 1) := by decide +kernel
theorem dX9_carry_42 : decode cX9_carry 42 = .ok (.getfield 64, 3) := by decide +kernel
theorem dX9_carry_45 : decode cX9_carry 45 = .ok (.aload_n 0, 1) := by decide +kernel
theorem dX9_carry_46 : decode cX9_carry 46 = .ok (.getfield 20, 3) := by decide +kernel
theorem dX9_carry_49 : decode cX9_carry 49 = .ok (.aload_n 0, 1) := by decide +kernel
theorem dX9_carry_50 : decode cX9_carry 50 = .ok (.getfield 20, 3) := by decide +kernel
theorem dX9_carry_53 : decode cX9_carry 53 = .ok (.getfield 214, 3) := by decide +kernel
theorem dX9_carry_56 : decode cX9_carry 56 = .ok (.iload_n 2, 1) := by decide +kernel
theorem dX9_carry_57 : decode cX9_carry 57 = .ok (.invokevirtual 217, 3) := by decide +kernel
theorem dX9_carry_60 : decode cX9_carry 60 = .ok (.aload_n 0, 1) := by decide +kernel
theorem dX9_carry_61 : decode cX9_carry 61 = .ok (.getfield 64, 3) := by decide +kernel
theorem dX9_carry_64 : decode cX9_carry 64 = .ok (.aload_n 0, 1) := by decide +kernel
theorem dX9_carry_65 : decode cX9_carry 65 = .ok (.getfield 54, 3) := by decide +kernel
theorem dX9_carry_68 : decode cX9_carry 68 = .ok (.iload_n 1, 1) := by decide +kernel
theorem dX9_carry_69 : decode cX9_carry 69 = .ok (.iconst 0, 1) := by decide +kernel
theorem dX9_carry_70 : decode cX9_carry 70 = .ok (.invokevirtual 220, 3) := by decide +kernel
theorem dX9_carry_73 : decode cX9_carry 73 = .ok (.aload_n 0, 1) := by decide +kernel
theorem dX9_carry_74 : decode cX9_carry 74 = .ok (.getfield 71, 3) := by decide +kernel
theorem dX9_carry_77 : decode cX9_carry 77 = .ok (.aload_n 0, 1) := by decide +kernel
theorem dX9_carry_78 : decode cX9_carry 78 = .ok (.getfield 54, 3) := by decide +kernel
theorem dX9_carry_81 : decode cX9_carry 81 = .ok (.aload_n 0, 1) := by decide +kernel
theorem dX9_carry_82 : decode cX9_carry 82 = .ok (.getfield 64, 3) := by decide +kernel
theorem dX9_carry_85 : decode cX9_carry 85 = .ok (.iload_n 2, 1) := by decide +kernel
theorem dX9_carry_86 : decode cX9_carry 86 = .ok (.iload_n 3, 1) := by decide +kernel
theorem dX9_carry_87 : decode cX9_carry 87 = .ok (.invokevirtual 243, 3) := by decide +kernel
theorem dX1_prepare_0 : decode cX1_prepare 0 = .ok (.aload_n 0, 1) := by decide +kernel
theorem dX1_prepare_1 : decode cX1_prepare 1 = .ok (.iload_n 3, 1) := by decide +kernel
theorem dX1_prepare_2 : decode cX1_prepare 2 = .ok (.putfield 21, 3) := by decide +kernel
theorem dX1_prepare_5 : decode cX1_prepare 5 = .ok (.aload_n 0, 1) := by decide +kernel
theorem dX1_prepare_6 : decode cX1_prepare 6 = .ok (.iload 4, 2) := by decide +kernel
theorem dX1_prepare_8 : decode cX1_prepare 8 = .ok (.putfield 25, 3) := by decide +kernel
theorem dX1_prepare_11 : decode cX1_prepare 11 = .ok (.aload_n 0, 1) := by decide +kernel
theorem dX1_prepare_12 : decode cX1_prepare 12 = .ok (.aload_n 2, 1) := by decide +kernel
theorem dX1_prepare_13 : decode cX1_prepare 13 = .ok (.getfield 28, 3) := by decide +kernel
theorem dX1_prepare_16 : decode cX1_prepare 16 = .ok (.putfield 33, 3) := by decide +kernel
theorem dX1_prepare_19 : decode cX1_prepare 19 = .ok (.iconst 0, 1) := by decide +kernel
theorem dX1_prepare_20 : decode cX1_prepare 20 = .ok (.istore 5, 2) := by decide +kernel
theorem dX1_prepare_22 : decode cX1_prepare 22 = .ok (.iload 5, 2) := by decide +kernel
theorem dX1_prepare_24 : decode cX1_prepare 24 = .ok (.aload_n 0, 1) := by decide +kernel
theorem dX1_prepare_25 : decode cX1_prepare 25 = .ok (.getfield 33, 3) := by decide +kernel
theorem dX1_prepare_28 : decode cX1_prepare 28 = .ok (.if_icmp .gt 37, 3) := by decide +kernel
theorem dX1_prepare_31 : decode cX1_prepare 31 = .ok (.aload_n 0, 1) := by decide +kernel
theorem dX1_prepare_32 : decode cX1_prepare 32 = .ok (.getfield 9, 3) := by decide +kernel
theorem dX1_prepare_35 : decode cX1_prepare 35 = .ok (.iload 5, 2) := by decide +kernel
theorem dX1_prepare_37 : decode cX1_prepare 37 = .ok (.aload_n 1, 1) := by decide +kernel
theorem dX1_prepare_38 : decode cX1_prepare 38 = .ok (.aload_n 2, 1) := by decide +kernel
theorem dX1_prepare_39 : decode cX1_prepare 39 = .ok (.iload 5, 2) := by decide +kernel
theorem dX1_prepare_41 : decode cX1_prepare 41 = .ok (.invokevirtual 34, 3) := by decide +kernel
theorem dX1_prepare_44 : decode cX1_prepare 44 = .ok (.iconst 1, 1) := by decide +kernel
theorem dX1_prepare_45 : decode cX1_prepare 45 = .ok (.aload_n 0, 1) := by decide +kernel
theorem dX1_prepare_46 : decode cX1_prepare 46 = .ok (.getfield 21, 3) := by decide +kernel
theorem dX1_prepare_49 : decode cX1_prepare 49 = .ok (.ishl, 1) := by decide +kernel
theorem dX1_prepare_50 : decode cX1_prepare 50 = .ok (.iconst (-1), 1) := by decide +kernel
theorem dX1_prepare_51 : decode cX1_prepare 51 = .ok (.ixor, 1) := by decide +kernel
theorem dX1_prepare_52 : decode cX1_prepare 52 = .ok (.iand, 1) := by decide +kernel
theorem dX1_prepare_53 : decode cX1_prepare 53 = .ok (.iload 5, 2) := by decide +kernel
theorem dX1_prepare_55 : decode cX1_prepare 55 = .ok (.invokestatic 38, 3) := by decide +kernel
theorem dX1_roomsOf_0 : decode cX1_roomsOf 0 = .ok (.iconst 0, 1) := by decide +kernel
theorem dX1_roomsOf_1 : decode cX1_roomsOf 1 = .ok (.istore_n 3, 1) := by decide +kernel
theorem dX1_roomsOf_2 : decode cX1_roomsOf 2 = .ok (.iconst 0, 1) := by decide +kernel
theorem dX1_roomsOf_3 : decode cX1_roomsOf 3 = .ok (.istore 4, 2) := by decide +kernel
theorem dX1_roomsOf_5 : decode cX1_roomsOf 5 = .ok (.iload 4, 2) := by decide +kernel
theorem dX1_roomsOf_7 : decode cX1_roomsOf 7 = .ok (.bipush 6, 2) := by decide +kernel
theorem dX1_roomsOf_9 : decode cX1_roomsOf 9 = .ok (.if_icmp .ge 30, 3) := by decide +kernel
theorem dX1_roomsOf_12 : decode cX1_roomsOf 12 = .ok (.iload_n 1, 1) := by decide +kernel
theorem dX1_roomsOf_13 : decode cX1_roomsOf 13 = .ok (.iload 4, 2) := by decide +kernel
theorem dX1_roomsOf_15 : decode cX1_roomsOf 15 = .ok (.invokestatic 51, 3) := by decide +kernel
theorem dX1_roomsOf_18 : decode cX1_roomsOf 18 = .ok (.ifCond .eq 15, 3) := by decide +kernel
theorem dX1_roomsOf_33 : decode cX1_roomsOf 33 = .ok (.iinc 4 1, 3) := by decide +kernel
theorem dX1_roomsOf_36 : decode cX1_roomsOf 36 = .ok (.goto (-31), 3) := by decide +kernel
theorem dX1_roomsOf_21 : decode cX1_roomsOf 21 = .ok (.iload_n 3, 1) := by decide +kernel
theorem dX1_roomsOf_22 : decode cX1_roomsOf 22 = .ok (.iconst 1, 1) := by decide +kernel
theorem dX1_roomsOf_23 : decode cX1_roomsOf 23 = .ok (.aload_n 0, 1) := by decide +kernel
theorem dX1_roomsOf_24 : decode cX1_roomsOf 24 = .ok (.iload 4, 2) := by decide +kernel
theorem dX1_roomsOf_26 : decode cX1_roomsOf 26 = .ok (.iload_n 2, 1) := by decide +kernel
theorem dX1_roomsOf_27 : decode cX1_roomsOf 27 = .ok (.invokevirtual 45, 3) := by decide +kernel
theorem dX1_roomsOf_30 : decode cX1_roomsOf 30 = .ok (.ishl, 1) := by decide +kernel
theorem dX1_roomsOf_31 : decode cX1_roomsOf 31 = .ok (.ior, 1) := by decide +kernel
theorem dX1_roomsOf_32 : decode cX1_roomsOf 32 = .ok (.istore_n 3, 1) := by decide +kernel
theorem dX1_roomsOf_39 : decode cX1_roomsOf 39 = .ok (.iload_n 3, 1) := by decide +kernel
theorem dX1_roomsOf_40 : decode cX1_roomsOf 40 = .ok (.ireturn, 1) := by decide +kernel
theorem dX1_prepare_58 : decode cX1_prepare 58 = .ok (.iastore, 1) := by decide +kernel
theorem dX1_prepare_59 : decode cX1_prepare 59 = .ok (.iinc 5 1, 3) := by decide +kernel
theorem dX1_prepare_62 : decode cX1_prepare 62 = .ok (.goto (-40), 3) := by decide +kernel
theorem dX1_prepare_65 : decode cX1_prepare 65 = .ok (.aload_n 0, 1) := by decide +kernel
theorem dX1_prepare_66 : decode cX1_prepare 66 = .ok (.aload_n 2, 1) := by decide +kernel
theorem dX1_prepare_67 : decode cX1_prepare 67 = .ok (.getfield 42, 3) := by decide +kernel
theorem dX1_prepare_70 : decode cX1_prepare 70 = .ok (.aload_n 0, 1) := by decide +kernel
theorem dX1_prepare_71 : decode cX1_prepare 71 = .ok (.getfield 21, 3) := by decide +kernel
theorem dX1_prepare_74 : decode cX1_prepare 74 = .ok (.if_icmp .eq 24, 3) := by decide +kernel
theorem dX1_prepare_98 : decode cX1_prepare 98 = .ok (.iconst 1, 1) := by decide +kernel
theorem dX1_prepare_99 : decode cX1_prepare 99 = .ok (.goto 4, 3) := by decide +kernel
theorem dX1_prepare_103 : decode cX1_prepare 103 = .ok (.putfield 55, 3) := by decide +kernel
theorem dX1_prepare_106 : decode cX1_prepare 106 = .ok (.aload_n 0, 1) := by decide +kernel
theorem dX1_prepare_107 : decode cX1_prepare 107 = .ok (.aload_n 2, 1) := by decide +kernel
theorem dX1_prepare_108 : decode cX1_prepare 108 = .ok (.getfield 42, 3) := by decide +kernel
theorem dX1_prepare_111 : decode cX1_prepare 111 = .ok (.aload_n 0, 1) := by decide +kernel
theorem dX1_prepare_112 : decode cX1_prepare 112 = .ok (.getfield 21, 3) := by decide +kernel
theorem dX1_prepare_115 : decode cX1_prepare 115 = .ok (.if_icmp .ne 28, 3) := by decide +kernel
theorem dX1_prepare_143 : decode cX1_prepare 143 = .ok (.iconst 0, 1) := by decide +kernel
theorem dX1_prepare_144 : decode cX1_prepare 144 = .ok (.putfield 59, 3) := by decide +kernel
theorem dX1_prepare_147 : decode cX1_prepare 147 = .ok (.return_, 1) := by decide +kernel
theorem dX1_prepare_118 : decode cX1_prepare 118 = .ok (.aload_n 1, 1) := by decide +kernel
theorem dX1_prepare_119 : decode cX1_prepare 119 = .ok (.aload_n 0, 1) := by decide +kernel
theorem dX1_prepare_120 : decode cX1_prepare 120 = .ok (.getfield 21, 3) := by decide +kernel
theorem dX1_prepare_123 : decode cX1_prepare 123 = .ok (.iconst 0, 1) := by decide +kernel
theorem dX1_prepare_124 : decode cX1_prepare 124 = .ok (.invokevirtual 45, 3) := by decide +kernel
theorem dX1_prepare_127 : decode cX1_prepare 127 = .ok (.aload_n 1, 1) := by decide +kernel
theorem dX1_prepare_128 : decode cX1_prepare 128 = .ok (.aload_n 0, 1) := by decide +kernel
theorem dX1_prepare_129 : decode cX1_prepare 129 = .ok (.getfield 25, 3) := by decide +kernel
theorem dX1_prepare_132 : decode cX1_prepare 132 = .ok (.iconst 0, 1) := by decide +kernel
theorem dX1_prepare_133 : decode cX1_prepare 133 = .ok (.invokevirtual 45, 3) := by decide +kernel
theorem dX1_prepare_136 : decode cX1_prepare 136 = .ok (.if_icmp .ne 7, 3) := by decide +kernel
theorem dX1_prepare_139 : decode cX1_prepare 139 = .ok (.iconst 1, 1) := by decide +kernel
theorem dX1_prepare_140 : decode cX1_prepare 140 = .ok (.goto 4, 3) := by decide +kernel
theorem dX1_prepare_77 : decode cX1_prepare 77 = .ok (.aload_n 0, 1) := by decide +kernel
theorem dX1_prepare_78 : decode cX1_prepare 78 = .ok (.getfield 9, 3) := by decide +kernel
theorem dX1_prepare_81 : decode cX1_prepare 81 = .ok (.iconst 0, 1) := by decide +kernel
theorem dX1_prepare_82 : decode cX1_prepare 82 = .ok (.iaload, 1) := by decide +kernel
theorem dX1_prepare_83 : decode cX1_prepare 83 = .ok (.aload_n 1, 1) := by decide +kernel
theorem dX1_prepare_84 : decode cX1_prepare 84 = .ok (.aload_n 0, 1) := by decide +kernel
theorem dX1_prepare_85 : decode cX1_prepare 85 = .ok (.getfield 21, 3) := by decide +kernel
theorem dX1_prepare_88 : decode cX1_prepare 88 = .ok (.iconst 0, 1) := by decide +kernel
theorem dX1_prepare_89 : decode cX1_prepare 89 = .ok (.invokevirtual 45, 3) := by decide +kernel
theorem dX1_prepare_92 : decode cX1_prepare 92 = .ok (.invokestatic 51, 3) := by decide +kernel
theorem dX1_prepare_95 : decode cX1_prepare 95 = .ok (.ifCond .eq 7, 3) := by decide +kernel
theorem dX1_prepare_102 : decode cX1_prepare 102 = .ok (.iconst 0, 1) := by decide +kernel
theorem dX9_carry_90 : decode cX9_carry 90 = .ok (.aload_n 0, 1) := by decide +kernel
theorem dX9_carry_91 : decode cX9_carry 91 = .ok (.getfield 71, 3) := by decide +kernel
theorem dX9_carry_94 : decode cX9_carry 94 = .ok (.aload_n 0, 1) := by decide +kernel
theorem dX9_carry_95 : decode cX9_carry 95 = .ok (.getfield 54, 3) := by decide +kernel
theorem dX9_carry_98 : decode cX9_carry 98 = .ok (.invokevirtual 246, 3) := by decide +kernel
theorem dX1_soonest_0 : decode cX1_soonest 0 = .ok (.aload_n 0, 1) := by decide +kernel
theorem dX1_soonest_1 : decode cX1_soonest 1 = .ok (.getfield 59, 3) := by decide +kernel
theorem dX1_soonest_4 : decode cX1_soonest 4 = .ok (.ifCond .eq 5, 3) := by decide +kernel
theorem dX1_soonest_9 : decode cX1_soonest 9 = .ok (.aload_n 1, 1) := by decide +kernel
theorem dX1_soonest_10 : decode cX1_soonest 10 = .ok (.aload_n 0, 1) := by decide +kernel
theorem dX1_soonest_11 : decode cX1_soonest 11 = .ok (.getfield 21, 3) := by decide +kernel
theorem dX1_soonest_14 : decode cX1_soonest 14 = .ok (.iconst 0, 1) := by decide +kernel
theorem dX1_soonest_15 : decode cX1_soonest 15 = .ok (.invokevirtual 45, 3) := by decide +kernel
theorem dX1_soonest_18 : decode cX1_soonest 18 = .ok (.istore_n 2, 1) := by decide +kernel
theorem dX1_soonest_19 : decode cX1_soonest 19 = .ok (.iconst 1, 1) := by decide +kernel
theorem dX1_soonest_20 : decode cX1_soonest 20 = .ok (.istore_n 3, 1) := by decide +kernel
theorem dX1_soonest_21 : decode cX1_soonest 21 = .ok (.iload_n 3, 1) := by decide +kernel
theorem dX1_soonest_22 : decode cX1_soonest 22 = .ok (.aload_n 0, 1) := by decide +kernel
theorem dX1_soonest_23 : decode cX1_soonest 23 = .ok (.getfield 33, 3) := by decide +kernel
theorem dX1_soonest_26 : decode cX1_soonest 26 = .ok (.if_icmp .gt 46, 3) := by decide +kernel
theorem dX1_soonest_72 : decode cX1_soonest 72 = .ok (.iconst (-1), 1) := by decide +kernel
theorem dX1_soonest_73 : decode cX1_soonest 73 = .ok (.ireturn, 1) := by decide +kernel
theorem dX1_soonest_29 : decode cX1_soonest 29 = .ok (.aload_n 0, 1) := by decide +kernel
theorem dX1_soonest_30 : decode cX1_soonest 30 = .ok (.aload_n 1, 1) := by decide +kernel
theorem dX1_soonest_31 : decode cX1_soonest 31 = .ok (.iload_n 3, 1) := by decide +kernel
theorem dX1_soonest_32 : decode cX1_soonest 32 = .ok (.invokevirtual 62, 3) := by decide +kernel
theorem dX1_lookBack_0 : decode cX1_lookBack 0 = .ok (.aload_n 0, 1) := by decide +kernel
theorem dX1_lookBack_1 : decode cX1_lookBack 1 = .ok (.getfield 15, 3) := by decide +kernel
theorem dX1_lookBack_4 : decode cX1_lookBack 4 = .ok (.iload_n 2, 1) := by decide +kernel
theorem dX1_lookBack_5 : decode cX1_lookBack 5 = .ok (.iconst 1, 1) := by decide +kernel
theorem dX1_lookBack_6 : decode cX1_lookBack 6 = .ok (.aload_n 1, 1) := by decide +kernel
theorem dX1_lookBack_7 : decode cX1_lookBack 7 = .ok (.aload_n 0, 1) := by decide +kernel
theorem dX1_lookBack_8 : decode cX1_lookBack 8 = .ok (.getfield 25, 3) := by decide +kernel
theorem dX1_lookBack_11 : decode cX1_lookBack 11 = .ok (.iload_n 2, 1) := by decide +kernel
theorem dX1_lookBack_12 : decode cX1_lookBack 12 = .ok (.invokevirtual 45, 3) := by decide +kernel
theorem dX1_lookBack_15 : decode cX1_lookBack 15 = .ok (.ishl, 1) := by decide +kernel
theorem dX1_lookBack_16 : decode cX1_lookBack 16 = .ok (.iastore, 1) := by decide +kernel
theorem dX1_lookBack_17 : decode cX1_lookBack 17 = .ok (.aload_n 0, 1) := by decide +kernel
theorem dX1_lookBack_18 : decode cX1_lookBack 18 = .ok (.getfield 18, 3) := by decide +kernel
theorem dX1_lookBack_21 : decode cX1_lookBack 21 = .ok (.iload_n 2, 1) := by decide +kernel
theorem dX1_lookBack_22 : decode cX1_lookBack 22 = .ok (.iconst 0, 1) := by decide +kernel
theorem dX1_lookBack_23 : decode cX1_lookBack 23 = .ok (.iastore, 1) := by decide +kernel
theorem dX1_lookBack_24 : decode cX1_lookBack 24 = .ok (.iload_n 2, 1) := by decide +kernel
theorem dX1_lookBack_25 : decode cX1_lookBack 25 = .ok (.iconst 1, 1) := by decide +kernel
theorem dX1_lookBack_26 : decode cX1_lookBack 26 = .ok (.isub, 1) := by decide +kernel
theorem dX1_lookBack_27 : decode cX1_lookBack 27 = .ok (.istore_n 3, 1) := by decide +kernel
theorem dX1_lookBack_28 : decode cX1_lookBack 28 = .ok (.iload_n 3, 1) := by decide +kernel
theorem dX1_lookBack_29 : decode cX1_lookBack 29 = .ok (.ifCond .lt 53, 3) := by decide +kernel
theorem dX1_lookBack_82 : decode cX1_lookBack 82 = .ok (.return_, 1) := by decide +kernel
theorem dX1_lookBack_32 : decode cX1_lookBack 32 = .ok (.aload_n 0, 1) := by decide +kernel
theorem dX1_lookBack_33 : decode cX1_lookBack 33 = .ok (.getfield 15, 3) := by decide +kernel
theorem dX1_lookBack_36 : decode cX1_lookBack 36 = .ok (.iload_n 3, 1) := by decide +kernel
theorem dX1_lookBack_37 : decode cX1_lookBack 37 = .ok (.aload_n 1, 1) := by decide +kernel
theorem dX1_lookBack_38 : decode cX1_lookBack 38 = .ok (.aload_n 0, 1) := by decide +kernel
theorem dX1_lookBack_39 : decode cX1_lookBack 39 = .ok (.getfield 21, 3) := by decide +kernel
theorem dX1_lookBack_42 : decode cX1_lookBack 42 = .ok (.aload_n 0, 1) := by decide +kernel
theorem dX1_lookBack_43 : decode cX1_lookBack 43 = .ok (.getfield 15, 3) := by decide +kernel
theorem dX1_lookBack_46 : decode cX1_lookBack 46 = .ok (.iload_n 3, 1) := by decide +kernel
theorem dX1_lookBack_47 : decode cX1_lookBack 47 = .ok (.iconst 1, 1) := by decide +kernel
theorem dX1_lookBack_48 : decode cX1_lookBack 48 = .ok (.iadd, 1) := by decide +kernel
theorem dX1_lookBack_49 : decode cX1_lookBack 49 = .ok (.iaload, 1) := by decide +kernel
theorem dX1_lookBack_50 : decode cX1_lookBack 50 = .ok (.invokevirtual 66, 3) := by decide +kernel
theorem dX1_lookBack_53 : decode cX1_lookBack 53 = .ok (.iastore, 1) := by decide +kernel
theorem dX1_lookBack_54 : decode cX1_lookBack 54 = .ok (.aload_n 0, 1) := by decide +kernel
theorem dX1_lookBack_55 : decode cX1_lookBack 55 = .ok (.getfield 18, 3) := by decide +kernel
theorem dX1_lookBack_58 : decode cX1_lookBack 58 = .ok (.iload_n 3, 1) := by decide +kernel
theorem dX1_lookBack_59 : decode cX1_lookBack 59 = .ok (.aload_n 1, 1) := by decide +kernel
theorem dX1_lookBack_60 : decode cX1_lookBack 60 = .ok (.aload_n 0, 1) := by decide +kernel
theorem dX1_lookBack_61 : decode cX1_lookBack 61 = .ok (.getfield 21, 3) := by decide +kernel
theorem dX1_lookBack_64 : decode cX1_lookBack 64 = .ok (.aload_n 0, 1) := by decide +kernel
theorem dX1_lookBack_65 : decode cX1_lookBack 65 = .ok (.iload_n 3, 1) := by decide +kernel
theorem dX1_lookBack_66 : decode cX1_lookBack 66 = .ok (.iconst 1, 1) := by decide +kernel
theorem dX1_lookBack_67 : decode cX1_lookBack 67 = .ok (.iadd, 1) := by decide +kernel
theorem dX1_lookBack_68 : decode cX1_lookBack 68 = .ok (.iload_n 2, 1) := by decide +kernel
theorem dX1_lookBack_69 : decode cX1_lookBack 69 = .ok (.invokevirtual 69, 3) := by decide +kernel
theorem dX1_goodWithout_0 : decode cX1_goodWithout 0 = .ok (.iload_n 1, 1) := by decide +kernel
theorem dX1_goodWithout_1 : decode cX1_goodWithout 1 = .ok (.iload_n 2, 1) := by decide +kernel
theorem dX1_goodWithout_2 : decode cX1_goodWithout 2 = .ok (.if_icmp .ne 7, 3) := by decide +kernel
theorem dX1_goodWithout_9 : decode cX1_goodWithout 9 = .ok (.aload_n 0, 1) := by decide +kernel
theorem dX1_goodWithout_10 : decode cX1_goodWithout 10 = .ok (.getfield 9, 3) := by decide +kernel
theorem dX1_goodWithout_13 : decode cX1_goodWithout 13 = .ok (.iload_n 1, 1) := by decide +kernel
theorem dX1_goodWithout_14 : decode cX1_goodWithout 14 = .ok (.iaload, 1) := by decide +kernel
theorem dX1_goodWithout_15 : decode cX1_goodWithout 15 = .ok (.istore_n 3, 1) := by decide +kernel
theorem dX1_goodWithout_16 : decode cX1_goodWithout 16 = .ok (.iload_n 3, 1) := by decide +kernel
theorem dX1_goodWithout_17 : decode cX1_goodWithout 17 = .ok (.aload_n 0, 1) := by decide +kernel
theorem dX1_goodWithout_18 : decode cX1_goodWithout 18 = .ok (.getfield 15, 3) := by decide +kernel
theorem dX1_goodWithout_21 : decode cX1_goodWithout 21 = .ok (.iload_n 1, 1) := by decide +kernel
theorem dX1_goodWithout_22 : decode cX1_goodWithout 22 = .ok (.iaload, 1) := by decide +kernel
theorem dX1_goodWithout_23 : decode cX1_goodWithout 23 = .ok (.iand, 1) := by decide +kernel
theorem dX1_goodWithout_24 : decode cX1_goodWithout 24 = .ok (.iload_n 3, 1) := by decide +kernel
theorem dX1_goodWithout_25 : decode cX1_goodWithout 25 = .ok (.iconst (-1), 1) := by decide +kernel
theorem dX1_goodWithout_26 : decode cX1_goodWithout 26 = .ok (.ixor, 1) := by decide +kernel
theorem dX1_goodWithout_27 : decode cX1_goodWithout 27 = .ok (.aload_n 0, 1) := by decide +kernel
theorem dX1_goodWithout_28 : decode cX1_goodWithout 28 = .ok (.getfield 18, 3) := by decide +kernel
theorem dX1_goodWithout_31 : decode cX1_goodWithout 31 = .ok (.iload_n 1, 1) := by decide +kernel
theorem dX1_goodWithout_32 : decode cX1_goodWithout 32 = .ok (.iaload, 1) := by decide +kernel
theorem dX1_goodWithout_33 : decode cX1_goodWithout 33 = .ok (.iand, 1) := by decide +kernel
theorem dX1_goodWithout_34 : decode cX1_goodWithout 34 = .ok (.ior, 1) := by decide +kernel
theorem dX1_goodWithout_35 : decode cX1_goodWithout 35 = .ok (.ireturn, 1) := by decide +kernel
theorem dX1_goodWithout_5 : decode cX1_goodWithout 5 = .ok (.iconst 0, 1) := by decide +kernel
theorem dX1_goodWithout_6 : decode cX1_goodWithout 6 = .ok (.goto 9, 3) := by decide +kernel
theorem dX1_lookBack_72 : decode cX1_lookBack 72 = .ok (.invokevirtual 66, 3) := by decide +kernel
theorem dX1_lookBack_75 : decode cX1_lookBack 75 = .ok (.iastore, 1) := by decide +kernel
theorem dX1_lookBack_76 : decode cX1_lookBack 76 = .ok (.iinc 3 (-1), 3) := by decide +kernel
theorem dX1_lookBack_79 : decode cX1_lookBack 79 = .ok (.goto (-51), 3) := by decide +kernel
theorem dX1_soonest_35 : decode cX1_soonest 35 = .ok (.aload_n 0, 1) := by decide +kernel
theorem dX1_soonest_36 : decode cX1_soonest 36 = .ok (.getfield 55, 3) := by decide +kernel
theorem dX1_soonest_39 : decode cX1_soonest 39 = .ok (.ifCond .eq 12, 3) := by decide +kernel
theorem dX1_soonest_51 : decode cX1_soonest 51 = .ok (.aload_n 0, 1) := by decide +kernel
theorem dX1_soonest_52 : decode cX1_soonest 52 = .ok (.getfield 18, 3) := by decide +kernel
theorem dX1_soonest_55 : decode cX1_soonest 55 = .ok (.iconst 0, 1) := by decide +kernel
theorem dX1_soonest_56 : decode cX1_soonest 56 = .ok (.iaload, 1) := by decide +kernel
theorem dX1_soonest_57 : decode cX1_soonest 57 = .ok (.iload_n 2, 1) := by decide +kernel
theorem dX1_soonest_58 : decode cX1_soonest 58 = .ok (.invokestatic 51, 3) := by decide +kernel
theorem dX1_soonest_61 : decode cX1_soonest 61 = .ok (.ifCond .eq 5, 3) := by decide +kernel
theorem dX1_soonest_66 : decode cX1_soonest 66 = .ok (.iinc 3 1, 3) := by decide +kernel
theorem dX1_soonest_69 : decode cX1_soonest 69 = .ok (.goto (-48), 3) := by decide +kernel
theorem dX1_soonest_64 : decode cX1_soonest 64 = .ok (.iload_n 3, 1) := by decide +kernel
theorem dX1_soonest_65 : decode cX1_soonest 65 = .ok (.ireturn, 1) := by decide +kernel
theorem dX1_soonest_42 : decode cX1_soonest 42 = .ok (.aload_n 0, 1) := by decide +kernel
theorem dX1_soonest_43 : decode cX1_soonest 43 = .ok (.getfield 15, 3) := by decide +kernel
theorem dX1_soonest_46 : decode cX1_soonest 46 = .ok (.iconst 0, 1) := by decide +kernel
theorem dX1_soonest_47 : decode cX1_soonest 47 = .ok (.iaload, 1) := by decide +kernel
theorem dX1_soonest_48 : decode cX1_soonest 48 = .ok (.goto 9, 3) := by decide +kernel
theorem dX1_soonest_7 : decode cX1_soonest 7 = .ok (.iconst 0, 1) := by decide +kernel
theorem dX1_soonest_8 : decode cX1_soonest 8 = .ok (.ireturn, 1) := by decide +kernel
theorem dX9_carry_101 : decode cX9_carry 101 = .ok (.ireturn, 1) := by decide +kernel
theorem dX9_walk_0 : decode cX9_walk 0 = .ok (.aload_n 0, 1) := by decide +kernel
theorem dX9_walk_1 : decode cX9_walk 1 = .ok (.getfield 20, 3) := by decide +kernel
theorem dX9_walk_4 : decode cX9_walk 4 = .ok (.iload 4, 2) := by decide +kernel
theorem dX9_walk_6 : decode cX9_walk 6 = .ok (.invokevirtual 153, 3) := by decide +kernel
theorem dX9_walk_9 : decode cX9_walk 9 = .ok (.ifCond .ne 6, 3) := by decide +kernel
theorem dX9_walk_15 : decode cX9_walk 15 = .ok (.aload_n 0, 1) := by decide +kernel
theorem dX9_walk_16 : decode cX9_walk 16 = .ok (.iload_n 1, 1) := by decide +kernel
theorem dX9_walk_17 : decode cX9_walk 17 = .ok (.iload_n 2, 1) := by decide +kernel
theorem dX9_walk_18 : decode cX9_walk 18 = .ok (.iload_n 3, 1) := by decide +kernel
theorem dX9_walk_19 : decode cX9_walk 19 = .ok (.invokevirtual 250, 3) := by decide +kernel
theorem dX9_walk_22 : decode cX9_walk 22 = .ok (.istore 5, 2) := by decide +kernel
theorem dX9_walk_24 : decode cX9_walk 24 = .ok (.iload 5, 2) := by decide +kernel
theorem dX9_walk_26 : decode cX9_walk 26 = .ok (.ifCond .ge 8, 3) := by decide +kernel
theorem dX9_walk_34 : decode cX9_walk 34 = .ok (.aload_n 0, 1) := by decide +kernel
theorem dX9_walk_35 : decode cX9_walk 35 = .ok (.getfield 71, 3) := by decide +kernel
theorem dX9_walk_38 : decode cX9_walk 38 = .ok (.aload_n 0, 1) := by decide +kernel
theorem dX9_walk_39 : decode cX9_walk 39 = .ok (.getfield 54, 3) := by decide +kernel
theorem dX9_walk_42 : decode cX9_walk 42 = .ok (.iload 5, 2) := by decide +kernel
theorem dX9_walk_44 : decode cX9_walk 44 = .ok (.iload 4, 2) := by decide +kernel
theorem dX9_walk_46 : decode cX9_walk 46 = .ok (.invokevirtual 253, 3) := by decide +kernel
theorem dX1_roomAt_0 : decode cX1_roomAt 0 = .ok (.aload_n 1, 1) := by decide +kernel
theorem dX1_roomAt_1 : decode cX1_roomAt 1 = .ok (.aload_n 0, 1) := by decide +kernel
theorem dX1_roomAt_2 : decode cX1_roomAt 2 = .ok (.getfield 21, 3) := by decide +kernel
theorem dX1_roomAt_5 : decode cX1_roomAt 5 = .ok (.iconst 0, 1) := by decide +kernel
theorem dX1_roomAt_6 : decode cX1_roomAt 6 = .ok (.invokevirtual 45, 3) := by decide +kernel
theorem dX1_roomAt_9 : decode cX1_roomAt 9 = .ok (.istore 4, 2) := by decide +kernel
theorem dX1_roomAt_11 : decode cX1_roomAt 11 = .ok (.aload_n 0, 1) := by decide +kernel
theorem dX1_roomAt_12 : decode cX1_roomAt 12 = .ok (.getfield 55, 3) := by decide +kernel
theorem dX1_roomAt_15 : decode cX1_roomAt 15 = .ok (.istore 5, 2) := by decide +kernel
theorem dX1_roomAt_17 : decode cX1_roomAt 17 = .ok (.iconst 1, 1) := by decide +kernel
theorem dX1_roomAt_18 : decode cX1_roomAt 18 = .ok (.istore 6, 2) := by decide +kernel
theorem dX1_roomAt_20 : decode cX1_roomAt 20 = .ok (.iload 6, 2) := by decide +kernel
theorem dX1_roomAt_22 : decode cX1_roomAt 22 = .ok (.iload_n 3, 1) := by decide +kernel
theorem dX1_roomAt_23 : decode cX1_roomAt 23 = .ok (.if_icmp .gt 99, 3) := by decide +kernel
theorem dX1_roomAt_122 : decode cX1_roomAt 122 = .ok (.iload 4, 2) := by decide +kernel
theorem dX1_roomAt_124 : decode cX1_roomAt 124 = .ok (.ireturn, 1) := by decide +kernel
theorem dX1_roomAt_26 : decode cX1_roomAt 26 = .ok (.iload 6, 2) := by decide +kernel
theorem dX1_roomAt_28 : decode cX1_roomAt 28 = .ok (.iload_n 2, 1) := by decide +kernel
theorem dX1_roomAt_29 : decode cX1_roomAt 29 = .ok (.if_icmp .gt 93, 3) := by decide +kernel
theorem dX1_roomAt_32 : decode cX1_roomAt 32 = .ok (.iload 5, 2) := by decide +kernel
theorem dX1_roomAt_34 : decode cX1_roomAt 34 = .ok (.ifCond .eq 13, 3) := by decide +kernel
theorem dX1_roomAt_47 : decode cX1_roomAt 47 = .ok (.aload_n 0, 1) := by decide +kernel
theorem dX1_roomAt_48 : decode cX1_roomAt 48 = .ok (.iload 6, 2) := by decide +kernel
theorem dX1_roomAt_50 : decode cX1_roomAt 50 = .ok (.iload_n 2, 1) := by decide +kernel
theorem dX1_roomAt_51 : decode cX1_roomAt 51 = .ok (.invokevirtual 69, 3) := by decide +kernel
theorem dX1_roomAt_54 : decode cX1_roomAt 54 = .ok (.istore 7, 2) := by decide +kernel
theorem dX1_roomAt_56 : decode cX1_roomAt 56 = .ok (.aload_n 1, 1) := by decide +kernel
theorem dX1_roomAt_57 : decode cX1_roomAt 57 = .ok (.aload_n 0, 1) := by decide +kernel
theorem dX1_roomAt_58 : decode cX1_roomAt 58 = .ok (.getfield 21, 3) := by decide +kernel
theorem dX1_roomAt_61 : decode cX1_roomAt 61 = .ok (.iload 4, 2) := by decide +kernel
theorem dX1_roomAt_63 : decode cX1_roomAt 63 = .ok (.invokevirtual 72, 3) := by decide +kernel
theorem dX1_roomAt_66 : decode cX1_roomAt 66 = .ok (.iload 7, 2) := by decide +kernel
theorem dX1_roomAt_68 : decode cX1_roomAt 68 = .ok (.iand, 1) := by decide +kernel
theorem dX1_roomAt_69 : decode cX1_roomAt 69 = .ok (.invokestatic 75, 3) := by decide +kernel
theorem dX9_lowest_0 : decode cX9_lowest 0 = .ok (.iconst 0, 1) := by decide +kernel
theorem dX9_lowest_1 : decode cX9_lowest 1 = .ok (.istore_n 1, 1) := by decide +kernel
theorem dX9_lowest_2 : decode cX9_lowest 2 = .ok (.iload_n 1, 1) := by decide +kernel
theorem dX9_lowest_3 : decode cX9_lowest 3 = .ok (.bipush 32, 2) := by decide +kernel
theorem dX9_lowest_5 : decode cX9_lowest 5 = .ok (.if_icmp .ge 19, 3) := by decide +kernel
theorem dX9_lowest_8 : decode cX9_lowest 8 = .ok (.iload_n 0, 1) := by decide +kernel
theorem dX9_lowest_9 : decode cX9_lowest 9 = .ok (.iload_n 1, 1) := by decide +kernel
theorem dX9_lowest_10 : decode cX9_lowest 10 = .ok (.invokestatic 175, 3) := by decide +kernel
theorem dX9_lowest_13 : decode cX9_lowest 13 = .ok (.ifCond .eq 5, 3) := by decide +kernel
theorem dX9_lowest_18 : decode cX9_lowest 18 = .ok (.iinc 1 1, 3) := by decide +kernel
theorem dX9_lowest_21 : decode cX9_lowest 21 = .ok (.goto (-19), 3) := by decide +kernel
theorem dX9_lowest_16 : decode cX9_lowest 16 = .ok (.iload_n 1, 1) := by decide +kernel
theorem dX9_lowest_17 : decode cX9_lowest 17 = .ok (.ireturn, 1) := by decide +kernel
theorem dX9_lowest_24 : decode cX9_lowest 24 = .ok (.iconst (-1), 1) := by decide +kernel
theorem dX9_lowest_25 : decode cX9_lowest 25 = .ok (.ireturn, 1) := by decide +kernel
theorem dX1_roomAt_72 : decode cX1_roomAt 72 = .ok (.istore 8, 2) := by decide +kernel
theorem dX1_roomAt_74 : decode cX1_roomAt 74 = .ok (.iload 8, 2) := by decide +kernel
theorem dX1_roomAt_76 : decode cX1_roomAt 76 = .ok (.iconst (-1), 1) := by decide +kernel
theorem dX1_roomAt_77 : decode cX1_roomAt 77 = .ok (.if_icmp .ne 8, 3) := by decide +kernel
theorem dX1_roomAt_85 : decode cX1_roomAt 85 = .ok (.iload 8, 2) := by decide +kernel
theorem dX1_roomAt_87 : decode cX1_roomAt 87 = .ok (.istore 4, 2) := by decide +kernel
theorem dX1_roomAt_89 : decode cX1_roomAt 89 = .ok (.iload 5, 2) := by decide +kernel
theorem dX1_roomAt_91 : decode cX1_roomAt 91 = .ok (.ifCond .ne 18, 3) := by decide +kernel
theorem dX1_roomAt_94 : decode cX1_roomAt 94 = .ok (.aload_n 0, 1) := by decide +kernel
theorem dX1_roomAt_95 : decode cX1_roomAt 95 = .ok (.getfield 9, 3) := by decide +kernel
theorem dX1_roomAt_98 : decode cX1_roomAt 98 = .ok (.iload 6, 2) := by decide +kernel
theorem dX1_roomAt_100 : decode cX1_roomAt 100 = .ok (.iaload, 1) := by decide +kernel
theorem dX1_roomAt_101 : decode cX1_roomAt 101 = .ok (.iload 4, 2) := by decide +kernel
theorem dX1_roomAt_103 : decode cX1_roomAt 103 = .ok (.invokestatic 51, 3) := by decide +kernel
theorem dX1_roomAt_106 : decode cX1_roomAt 106 = .ok (.ifCond .eq 7, 3) := by decide +kernel
theorem dX1_roomAt_113 : decode cX1_roomAt 113 = .ok (.iconst 0, 1) := by decide +kernel
theorem dX1_roomAt_114 : decode cX1_roomAt 114 = .ok (.istore 5, 2) := by decide +kernel
theorem dX1_roomAt_116 : decode cX1_roomAt 116 = .ok (.iinc 6 1, 3) := by decide +kernel
theorem dX1_roomAt_119 : decode cX1_roomAt 119 = .ok (.goto (-99), 3) := by decide +kernel
theorem dX1_roomAt_109 : decode cX1_roomAt 109 = .ok (.iconst 1, 1) := by decide +kernel
theorem dX1_roomAt_110 : decode cX1_roomAt 110 = .ok (.goto 4, 3) := by decide +kernel
theorem dX1_roomAt_80 : decode cX1_roomAt 80 = .ok (.iload 4, 2) := by decide +kernel
theorem dX1_roomAt_82 : decode cX1_roomAt 82 = .ok (.goto 5, 3) := by decide +kernel
theorem dX1_roomAt_37 : decode cX1_roomAt 37 = .ok (.aload_n 0, 1) := by decide +kernel
theorem dX1_roomAt_38 : decode cX1_roomAt 38 = .ok (.getfield 15, 3) := by decide +kernel
theorem dX1_roomAt_41 : decode cX1_roomAt 41 = .ok (.iload 6, 2) := by decide +kernel
theorem dX1_roomAt_43 : decode cX1_roomAt 43 = .ok (.iaload, 1) := by decide +kernel
theorem dX1_roomAt_44 : decode cX1_roomAt 44 = .ok (.goto 10, 3) := by decide +kernel
theorem dX9_walk_49 : decode cX9_walk 49 = .ok (.ireturn, 1) := by decide +kernel
theorem dX9_walk_29 : decode cX9_walk 29 = .ok (.iload 5, 2) := by decide +kernel
theorem dX9_walk_31 : decode cX9_walk 31 = .ok (.goto 18, 3) := by decide +kernel
theorem dX9_walk_12 : decode cX9_walk 12 = .ok (.bipush (-2), 2) := by decide +kernel
theorem dX9_walk_14 : decode cX9_walk 14 = .ok (.ireturn, 1) := by decide +kernel
theorem dX9_widen_0 : decode cX9_widen 0 = .ok (.aload_n 0, 1) := by decide +kernel
theorem dX9_widen_1 : decode cX9_widen 1 = .ok (.getfield 20, 3) := by decide +kernel
theorem dX9_widen_4 : decode cX9_widen 4 = .ok (.iload_n 1, 1) := by decide +kernel
theorem dX9_widen_5 : decode cX9_widen 5 = .ok (.invokevirtual 139, 3) := by decide +kernel
theorem dX9_widen_8 : decode cX9_widen 8 = .ok (.ifCond .eq 17, 3) := by decide +kernel
theorem dX9_widen_25 : decode cX9_widen 25 = .ok (.bipush (-2), 2) := by decide +kernel
theorem dX9_widen_27 : decode cX9_widen 27 = .ok (.ireturn, 1) := by decide +kernel
theorem dX9_widen_11 : decode cX9_widen 11 = .ok (.aload_n 0, 1) := by decide +kernel
theorem dX9_widen_12 : decode cX9_widen 12 = .ok (.getfield 20, 3) := by decide +kernel
theorem dX9_widen_15 : decode cX9_widen 15 = .ok (.getfield 119, 3) := by decide +kernel
theorem dX9_widen_18 : decode cX9_widen 18 = .ok (.iload_n 2, 1) := by decide +kernel
theorem dX9_widen_19 : decode cX9_widen 19 = .ok (.invokevirtual 257, 3) := by decide +kernel
theorem dX9_widen_22 : decode cX9_widen 22 = .ok (.ifCond .ne 6, 3) := by decide +kernel
theorem dX9_widen_28 : decode cX9_widen 28 = .ok (.aload_n 0, 1) := by decide +kernel
theorem dX9_widen_29 : decode cX9_widen 29 = .ok (.invokevirtual 227, 3) := by decide +kernel
theorem dX9_widen_32 : decode cX9_widen 32 = .ok (.iconst 1, 1) := by decide +kernel
theorem dX9_widen_33 : decode cX9_widen 33 = .ok (.istore_n 3, 1) := by decide +kernel
theorem dX9_widen_34 : decode cX9_widen 34 = .ok (.iconst 0, 1) := by decide +kernel
theorem dX9_widen_35 : decode cX9_widen 35 = .ok (.istore 4, 2) := by decide +kernel
theorem dX9_widen_37 : decode cX9_widen 37 = .ok (.iconst 1, 1) := by decide +kernel
theorem dX9_widen_38 : decode cX9_widen 38 = .ok (.istore 5, 2) := by decide +kernel
theorem dX9_widen_40 : decode cX9_widen 40 = .ok (.iload 5, 2) := by decide +kernel
theorem dX9_widen_42 : decode cX9_widen 42 = .ok (.bipush 9, 2) := by decide +kernel
theorem dX9_widen_44 : decode cX9_widen 44 = .ok (.if_icmp .gt 51, 3) := by decide +kernel
theorem dX9_widen_47 : decode cX9_widen 47 = .ok (.aload_n 0, 1) := by decide +kernel
theorem dX9_widen_48 : decode cX9_widen 48 = .ok (.getfield 58, 3) := by decide +kernel
theorem dX9_widen_51 : decode cX9_widen 51 = .ok (.aload_n 0, 1) := by decide +kernel
theorem dX9_widen_52 : decode cX9_widen 52 = .ok (.getfield 20, 3) := by decide +kernel
theorem dX9_widen_55 : decode cX9_widen 55 = .ok (.iload_n 2, 1) := by decide +kernel
theorem dX9_widen_56 : decode cX9_widen 56 = .ok (.iload 5, 2) := by decide +kernel
theorem dX9_widen_58 : decode cX9_widen 58 = .ok (.invokevirtual 116, 3) := by decide +kernel
theorem dX2_settle_0 : decode cX2_settle 0 = .ok (.aload_n 0, 1) := by decide +kernel
theorem dX2_settle_1 : decode cX2_settle 1 = .ok (.aload_n 1, 1) := by decide +kernel
theorem dX2_settle_2 : decode cX2_settle 2 = .ok (.iload_n 2, 1) := by decide +kernel
theorem dX2_settle_3 : decode cX2_settle 3 = .ok (.iload_n 3, 1) := by decide +kernel
theorem dX2_settle_4 : decode cX2_settle 4 = .ok (.invokevirtual 27, 3) := by decide +kernel
theorem dX2_openDoors_0 : decode cX2_openDoors 0 = .ok (.aload_n 0, 1) := by decide +kernel
theorem dX2_openDoors_1 : decode cX2_openDoors 1 = .ok (.aload_n 1, 1) := by decide +kernel
theorem dX2_openDoors_2 : decode cX2_openDoors 2 = .ok (.getfield 39, 3) := by decide +kernel
theorem dX2_openDoors_5 : decode cX2_openDoors 5 = .ok (.getfield 57, 3) := by decide +kernel
theorem dX2_openDoors_8 : decode cX2_openDoors 8 = .ok (.putfield 35, 3) := by decide +kernel
theorem dX2_openDoors_11 : decode cX2_openDoors 11 = .ok (.aload_n 0, 1) := by decide +kernel
theorem dX2_openDoors_12 : decode cX2_openDoors 12 = .ok (.aload_n 1, 1) := by decide +kernel
theorem dX2_openDoors_13 : decode cX2_openDoors 13 = .ok (.getfield 60, 3) := by decide +kernel
theorem dX2_openDoors_16 : decode cX2_openDoors 16 = .ok (.putfield 63, 3) := by decide +kernel
theorem dX2_openDoors_19 : decode cX2_openDoors 19 = .ok (.aload_n 0, 1) := by decide +kernel
theorem dX2_openDoors_20 : decode cX2_openDoors 20 = .ok (.aload_n 1, 1) := by decide +kernel
theorem dX2_openDoors_21 : decode cX2_openDoors 21 = .ok (.getfield 64, 3) := by decide +kernel
theorem dX2_openDoors_24 : decode cX2_openDoors 24 = .ok (.putfield 67, 3) := by decide +kernel
theorem dX2_openDoors_27 : decode cX2_openDoors 27 = .ok (.iconst 0, 1) := by decide +kernel
theorem dX2_openDoors_28 : decode cX2_openDoors 28 = .ok (.istore 4, 2) := by decide +kernel
theorem dX2_openDoors_30 : decode cX2_openDoors 30 = .ok (.iload 4, 2) := by decide +kernel
theorem dX2_openDoors_32 : decode cX2_openDoors 32 = .ok (.aload_n 0, 1) := by decide +kernel
theorem dX2_openDoors_33 : decode cX2_openDoors 33 = .ok (.getfield 35, 3) := by decide +kernel
theorem dX2_openDoors_36 : decode cX2_openDoors 36 = .ok (.if_icmp .ge 44, 3) := by decide +kernel
theorem dX2_openDoors_80 : decode cX2_openDoors 80 = .ok (.iconst 0, 1) := by decide +kernel
theorem dX2_openDoors_81 : decode cX2_openDoors 81 = .ok (.istore 4, 2) := by decide +kernel
theorem dX2_openDoors_83 : decode cX2_openDoors 83 = .ok (.iload 4, 2) := by decide +kernel
theorem dX2_openDoors_85 : decode cX2_openDoors 85 = .ok (.aload_n 1, 1) := by decide +kernel
theorem dX2_openDoors_86 : decode cX2_openDoors 86 = .ok (.getfield 68, 3) := by decide +kernel
theorem dX2_openDoors_89 : decode cX2_openDoors 89 = .ok (.getfield 57, 3) := by decide +kernel
theorem dX2_openDoors_92 : decode cX2_openDoors 92 = .ok (.if_icmp .ge 54, 3) := by decide +kernel
theorem dX2_openDoors_146 : decode cX2_openDoors 146 = .ok (.return_, 1) := by decide +kernel
theorem dX2_openDoors_95 : decode cX2_openDoors 95 = .ok (.iload 4, 2) := by decide +kernel
theorem dX2_openDoors_97 : decode cX2_openDoors 97 = .ok (.iload_n 2, 1) := by decide +kernel
theorem dX2_openDoors_98 : decode cX2_openDoors 98 = .ok (.if_icmp .eq 9, 3) := by decide +kernel
theorem dX2_openDoors_107 : decode cX2_openDoors 107 = .ok (.iconst 1, 1) := by decide +kernel
theorem dX2_openDoors_108 : decode cX2_openDoors 108 = .ok (.goto 4, 3) := by decide +kernel
theorem dX2_openDoors_112 : decode cX2_openDoors 112 = .ok (.istore 5, 2) := by decide +kernel
theorem dX2_openDoors_114 : decode cX2_openDoors 114 = .ok (.aload_n 0, 1) := by decide +kernel
theorem dX2_openDoors_115 : decode cX2_openDoors 115 = .ok (.aload_n 1, 1) := by decide +kernel
theorem dX2_openDoors_116 : decode cX2_openDoors 116 = .ok (.iload 4, 2) := by decide +kernel
theorem dX2_openDoors_118 : decode cX2_openDoors 118 = .ok (.iload 5, 2) := by decide +kernel
theorem dX2_openDoors_120 : decode cX2_openDoors 120 = .ok (.ifCond .eq 7, 3) := by decide +kernel
theorem dX2_openDoors_123 : decode cX2_openDoors 123 = .ok (.iload_n 3, 1) := by decide +kernel
theorem dX2_openDoors_124 : decode cX2_openDoors 124 = .ok (.goto 13, 3) := by decide +kernel
theorem dX2_openDoors_137 : decode cX2_openDoors 137 = .ok (.invokevirtual 71, 3) := by decide +kernel
theorem dX2_openDoor_0 : decode cX2_openDoor 0 = .ok (.aload_n 1, 1) := by decide +kernel
theorem dX2_openDoor_1 : decode cX2_openDoor 1 = .ok (.getfield 68, 3) := by decide +kernel
theorem dX2_openDoor_4 : decode cX2_openDoor 4 = .ok (.iload_n 2, 1) := by decide +kernel
theorem dX2_openDoor_5 : decode cX2_openDoor 5 = .ok (.iconst 0, 1) := by decide +kernel
theorem dX2_openDoor_6 : decode cX2_openDoor 6 = .ok (.invokevirtual 44, 3) := by decide +kernel
theorem dX2_openDoor_9 : decode cX2_openDoor 9 = .ok (.istore 4, 2) := by decide +kernel
theorem dX2_openDoor_11 : decode cX2_openDoor 11 = .ok (.aload_n 1, 1) := by decide +kernel
theorem dX2_openDoor_12 : decode cX2_openDoor 12 = .ok (.getfield 68, 3) := by decide +kernel
theorem dX2_openDoor_15 : decode cX2_openDoor 15 = .ok (.iload_n 2, 1) := by decide +kernel
theorem dX2_openDoor_16 : decode cX2_openDoor 16 = .ok (.iconst 1, 1) := by decide +kernel
theorem dX2_openDoor_17 : decode cX2_openDoor 17 = .ok (.invokevirtual 44, 3) := by decide +kernel
theorem dX2_openDoor_20 : decode cX2_openDoor 20 = .ok (.istore 5, 2) := by decide +kernel
theorem dX2_openDoor_22 : decode cX2_openDoor 22 = .ok (.aload_n 1, 1) := by decide +kernel
theorem dX2_openDoor_23 : decode cX2_openDoor 23 = .ok (.iload 4, 2) := by decide +kernel
theorem dX2_openDoor_25 : decode cX2_openDoor 25 = .ok (.invokevirtual 74, 3) := by decide +kernel
theorem dX2_openDoor_28 : decode cX2_openDoor 28 = .ok (.ifCond .eq 12, 3) := by decide +kernel
theorem dX2_openDoor_40 : decode cX2_openDoor 40 = .ok (.return_, 1) := by decide +kernel
theorem dX2_openDoor_31 : decode cX2_openDoor 31 = .ok (.aload_n 1, 1) := by decide +kernel
theorem dX2_openDoor_32 : decode cX2_openDoor 32 = .ok (.iload 5, 2) := by decide +kernel
theorem dX2_openDoor_34 : decode cX2_openDoor 34 = .ok (.invokevirtual 74, 3) := by decide +kernel
theorem dX2_openDoor_37 : decode cX2_openDoor 37 = .ok (.ifCond .ne 4, 3) := by decide +kernel
theorem dX2_openDoor_41 : decode cX2_openDoor 41 = .ok (.iconst 0, 1) := by decide +kernel
theorem dX2_openDoor_42 : decode cX2_openDoor 42 = .ok (.istore 6, 2) := by decide +kernel
theorem dX2_openDoor_44 : decode cX2_openDoor 44 = .ok (.iload 6, 2) := by decide +kernel
theorem dX2_openDoor_46 : decode cX2_openDoor 46 = .ok (.aload_n 0, 1) := by decide +kernel
theorem dX2_openDoor_47 : decode cX2_openDoor 47 = .ok (.getfield 35, 3) := by decide +kernel
theorem dX2_openDoor_50 : decode cX2_openDoor 50 = .ok (.if_icmp .ge 63, 3) := by decide +kernel
theorem dX2_openDoor_113 : decode cX2_openDoor 113 = .ok (.return_, 1) := by decide +kernel
theorem dX2_openDoor_53 : decode cX2_openDoor 53 = .ok (.aload_n 1, 1) := by decide +kernel
theorem dX2_openDoor_54 : decode cX2_openDoor 54 = .ok (.getfield 39, 3) := by decide +kernel
theorem dX2_openDoor_57 : decode cX2_openDoor 57 = .ok (.iload 6, 2) := by decide +kernel
theorem dX2_openDoor_59 : decode cX2_openDoor 59 = .ok (.iconst 1, 1) := by decide +kernel
theorem dX2_openDoor_60 : decode cX2_openDoor 60 = .ok (.invokevirtual 44, 3) := by decide +kernel
theorem dX2_openDoor_63 : decode cX2_openDoor 63 = .ok (.iload_n 3, 1) := by decide +kernel
theorem dX2_openDoor_64 : decode cX2_openDoor 64 = .ok (.if_icmp .gt 43, 3) := by decide +kernel
theorem dX2_openDoor_107 : decode cX2_openDoor 107 = .ok (.iinc 6 1, 3) := by decide +kernel
theorem dX2_openDoor_110 : decode cX2_openDoor 110 = .ok (.goto (-66), 3) := by decide +kernel
theorem dX2_openDoor_67 : decode cX2_openDoor 67 = .ok (.aload_n 0, 1) := by decide +kernel
theorem dX2_openDoor_68 : decode cX2_openDoor 68 = .ok (.getfield 9, 3) := by decide +kernel
theorem dX2_openDoor_71 : decode cX2_openDoor 71 = .ok (.iload 6, 2) := by decide +kernel
theorem dX2_openDoor_73 : decode cX2_openDoor 73 = .ok (.bipush 8, 2) := by decide +kernel
theorem dX2_openDoor_75 : decode cX2_openDoor 75 = .ok (.imul, 1) := by decide +kernel
theorem dX2_openDoor_76 : decode cX2_openDoor 76 = .ok (.iload 4, 2) := by decide +kernel
theorem dX2_openDoor_78 : decode cX2_openDoor 78 = .ok (.iadd, 1) := by decide +kernel
theorem dX2_openDoor_79 : decode cX2_openDoor 79 = .ok (.dup2, 1) := by decide +kernel
theorem dX2_openDoor_80 : decode cX2_openDoor 80 = .ok (.iaload, 1) := by decide +kernel
theorem dX2_openDoor_81 : decode cX2_openDoor 81 = .ok (.iconst 1, 1) := by decide +kernel
theorem dX2_openDoor_82 : decode cX2_openDoor 82 = .ok (.iload 5, 2) := by decide +kernel
theorem dX2_openDoor_84 : decode cX2_openDoor 84 = .ok (.ishl, 1) := by decide +kernel
theorem dX2_openDoor_85 : decode cX2_openDoor 85 = .ok (.ior, 1) := by decide +kernel
theorem dX2_openDoor_86 : decode cX2_openDoor 86 = .ok (.iastore, 1) := by decide +kernel
theorem dX2_openDoor_87 : decode cX2_openDoor 87 = .ok (.aload_n 0, 1) := by decide +kernel
theorem dX2_openDoor_88 : decode cX2_openDoor 88 = .ok (.getfield 9, 3) := by decide +kernel
theorem dX2_openDoor_91 : decode cX2_openDoor 91 = .ok (.iload 6, 2) := by decide +kernel
theorem dX2_openDoor_93 : decode cX2_openDoor 93 = .ok (.bipush 8, 2) := by decide +kernel
theorem dX2_openDoor_95 : decode cX2_openDoor 95 = .ok (.imul, 1) := by decide +kernel
theorem dX2_openDoor_96 : decode cX2_openDoor 96 = .ok (.iload 5, 2) := by decide +kernel
theorem dX2_openDoor_98 : decode cX2_openDoor 98 = .ok (.iadd, 1) := by decide +kernel
theorem dX2_openDoor_99 : decode cX2_openDoor 99 = .ok (.dup2, 1) := by decide +kernel
theorem dX2_openDoor_100 : decode cX2_openDoor 100 = .ok (.iaload, 1) := by decide +kernel
theorem dX2_openDoor_101 : decode cX2_openDoor 101 = .ok (.iconst 1, 1) := by decide +kernel
theorem dX2_openDoor_102 : decode cX2_openDoor 102 = .ok (.iload 4, 2) := by decide +kernel
theorem dX2_openDoor_104 : decode cX2_openDoor 104 = .ok (.ishl, 1) := by decide +kernel
theorem dX2_openDoor_105 : decode cX2_openDoor 105 = .ok (.ior, 1) := by decide +kernel
theorem dX2_openDoor_106 : decode cX2_openDoor 106 = .ok (.iastore, 1) := by decide +kernel
theorem dX2_openDoors_140 : decode cX2_openDoors 140 = .ok (.iinc 4 1, 3) := by decide +kernel
theorem dX2_openDoors_143 : decode cX2_openDoors 143 = .ok (.goto (-60), 3) := by decide +kernel
theorem dX2_openDoors_101 : decode cX2_openDoors 101 = .ok (.iload_n 2, 1) := by decide +kernel
theorem dX2_openDoors_102 : decode cX2_openDoors 102 = .ok (.bipush (-2), 2) := by decide +kernel
theorem dX2_openDoors_104 : decode cX2_openDoors 104 = .ok (.if_icmp .ne 7, 3) := by decide +kernel
theorem dX2_openDoors_111 : decode cX2_openDoors 111 = .ok (.iconst 0, 1) := by decide +kernel
theorem dX2_openDoors_127 : decode cX2_openDoors 127 = .ok (.aload_n 1, 1) := by decide +kernel
theorem dX2_openDoors_128 : decode cX2_openDoors 128 = .ok (.getfield 68, 3) := by decide +kernel
theorem dX2_openDoors_131 : decode cX2_openDoors 131 = .ok (.iload 4, 2) := by decide +kernel
theorem dX2_openDoors_133 : decode cX2_openDoors 133 = .ok (.iconst 2, 1) := by decide +kernel
theorem dX2_openDoors_134 : decode cX2_openDoors 134 = .ok (.invokevirtual 44, 3) := by decide +kernel
theorem dX2_openDoors_39 : decode cX2_openDoors 39 = .ok (.iconst 0, 1) := by decide +kernel
theorem dX2_openDoors_40 : decode cX2_openDoors 40 = .ok (.istore 5, 2) := by decide +kernel
theorem dX2_openDoors_42 : decode cX2_openDoors 42 = .ok (.iload 5, 2) := by decide +kernel
theorem dX2_openDoors_44 : decode cX2_openDoors 44 = .ok (.aload_n 0, 1) := by decide +kernel
theorem dX2_openDoors_45 : decode cX2_openDoors 45 = .ok (.getfield 63, 3) := by decide +kernel
theorem dX2_openDoors_48 : decode cX2_openDoors 48 = .ok (.if_icmp .ge 26, 3) := by decide +kernel
theorem dX2_openDoors_74 : decode cX2_openDoors 74 = .ok (.iinc 4 1, 3) := by decide +kernel
theorem dX2_openDoors_77 : decode cX2_openDoors 77 = .ok (.goto (-47), 3) := by decide +kernel
theorem dX2_openDoors_51 : decode cX2_openDoors 51 = .ok (.aload_n 0, 1) := by decide +kernel
theorem dX2_openDoors_52 : decode cX2_openDoors 52 = .ok (.getfield 9, 3) := by decide +kernel
theorem dX2_openDoors_55 : decode cX2_openDoors 55 = .ok (.iload 4, 2) := by decide +kernel
theorem dX2_openDoors_57 : decode cX2_openDoors 57 = .ok (.bipush 8, 2) := by decide +kernel
theorem dX2_openDoors_59 : decode cX2_openDoors 59 = .ok (.imul, 1) := by decide +kernel
theorem dX2_openDoors_60 : decode cX2_openDoors 60 = .ok (.iload 5, 2) := by decide +kernel
theorem dX2_openDoors_62 : decode cX2_openDoors 62 = .ok (.iadd, 1) := by decide +kernel
theorem dX2_openDoors_63 : decode cX2_openDoors 63 = .ok (.iconst 1, 1) := by decide +kernel
theorem dX2_openDoors_64 : decode cX2_openDoors 64 = .ok (.iload 5, 2) := by decide +kernel
theorem dX2_openDoors_66 : decode cX2_openDoors 66 = .ok (.ishl, 1) := by decide +kernel
theorem dX2_openDoors_67 : decode cX2_openDoors 67 = .ok (.iastore, 1) := by decide +kernel
theorem dX2_openDoors_68 : decode cX2_openDoors 68 = .ok (.iinc 5 1, 3) := by decide +kernel
theorem dX2_openDoors_71 : decode cX2_openDoors 71 = .ok (.goto (-29), 3) := by decide +kernel
theorem dX2_settle_7 : decode cX2_settle 7 = .ok (.aload_n 0, 1) := by decide +kernel
theorem dX2_settle_8 : decode cX2_settle 8 = .ok (.aload_n 1, 1) := by decide +kernel
theorem dX2_settle_9 : decode cX2_settle 9 = .ok (.invokevirtual 31, 3) := by decide +kernel
theorem dX2_hearBids_0 : decode cX2_hearBids 0 = .ok (.aload_n 0, 1) := by decide +kernel
theorem dX2_hearBids_1 : decode cX2_hearBids 1 = .ok (.getfield 15, 3) := by decide +kernel
theorem dX2_hearBids_4 : decode cX2_hearBids 4 = .ok (.iconst (-1), 1) := by decide +kernel
theorem dX2_hearBids_5 : decode cX2_hearBids 5 = .ok (.invokestatic 78, 3) := by decide +kernel
theorem dJ7_fill_53178_0 : decode cJ7_fill_53178 0 = .ok (.iconst 0, 1) := by decide +kernel
theorem dJ7_fill_53178_1 : decode cJ7_fill_53178 1 = .ok (.istore_n 2, 1) := by decide +kernel
theorem dJ7_fill_53178_2 : decode cJ7_fill_53178 2 = .ok (.aload_n 0, 1) := by decide +kernel
theorem dJ7_fill_53178_3 : decode cJ7_fill_53178 3 = .ok (.arraylength, 1) := by decide +kernel
theorem dJ7_fill_53178_4 : decode cJ7_fill_53178 4 = .ok (.istore_n 3, 1) := by decide +kernel
theorem dJ7_fill_53178_5 : decode cJ7_fill_53178 5 = .ok (.iload_n 2, 1) := by decide +kernel
theorem dJ7_fill_53178_6 : decode cJ7_fill_53178 6 = .ok (.iload_n 3, 1) := by decide +kernel
theorem dJ7_fill_53178_7 : decode cJ7_fill_53178 7 = .ok (.if_icmp .ge 13, 3) := by decide +kernel
theorem dJ7_fill_53178_10 : decode cJ7_fill_53178 10 = .ok (.aload_n 0, 1) := by decide +kernel
theorem dJ7_fill_53178_11 : decode cJ7_fill_53178 11 = .ok (.iload_n 2, 1) := by decide +kernel
theorem dJ7_fill_53178_12 : decode cJ7_fill_53178 12 = .ok (.iload_n 1, 1) := by decide +kernel
theorem dJ7_fill_53178_13 : decode cJ7_fill_53178 13 = .ok (.iastore, 1) := by decide +kernel
theorem dJ7_fill_53178_14 : decode cJ7_fill_53178 14 = .ok (.iinc 2 1, 3) := by decide +kernel
theorem dJ7_fill_53178_17 : decode cJ7_fill_53178 17 = .ok (.goto (-12), 3) := by decide +kernel
theorem dJ7_fill_53178_20 : decode cJ7_fill_53178 20 = .ok (.return_, 1) := by decide +kernel
theorem dX2_hearBids_8 : decode cX2_hearBids 8 = .ok (.aload_n 0, 1) := by decide +kernel
theorem dX2_hearBids_9 : decode cX2_hearBids 9 = .ok (.getfield 18, 3) := by decide +kernel
theorem dX2_hearBids_12 : decode cX2_hearBids 12 = .ok (.iconst (-1), 1) := by decide +kernel
theorem dX2_hearBids_13 : decode cX2_hearBids 13 = .ok (.invokestatic 78, 3) := by decide +kernel
theorem dX2_hearBids_16 : decode cX2_hearBids 16 = .ok (.iconst 0, 1) := by decide +kernel
theorem dX2_hearBids_17 : decode cX2_hearBids 17 = .ok (.istore_n 2, 1) := by decide +kernel
theorem dX2_hearBids_18 : decode cX2_hearBids 18 = .ok (.iload_n 2, 1) := by decide +kernel
theorem dX2_hearBids_19 : decode cX2_hearBids 19 = .ok (.aload_n 1, 1) := by decide +kernel
theorem dX2_hearBids_20 : decode cX2_hearBids 20 = .ok (.getfield 84, 3) := by decide +kernel
theorem dX2_hearBids_23 : decode cX2_hearBids 23 = .ok (.getfield 57, 3) := by decide +kernel
theorem dX2_hearBids_26 : decode cX2_hearBids 26 = .ok (.if_icmp .ge 40, 3) := by decide +kernel
theorem dX2_hearBids_66 : decode cX2_hearBids 66 = .ok (.iconst 0, 1) := by decide +kernel
theorem dX2_hearBids_67 : decode cX2_hearBids 67 = .ok (.istore_n 2, 1) := by decide +kernel
theorem dX2_hearBids_68 : decode cX2_hearBids 68 = .ok (.iload_n 2, 1) := by decide +kernel
theorem dX2_hearBids_69 : decode cX2_hearBids 69 = .ok (.aload_n 1, 1) := by decide +kernel
theorem dX2_hearBids_70 : decode cX2_hearBids 70 = .ok (.getfield 91, 3) := by decide +kernel
theorem dX2_hearBids_73 : decode cX2_hearBids 73 = .ok (.getfield 57, 3) := by decide +kernel
theorem dX2_hearBids_76 : decode cX2_hearBids 76 = .ok (.if_icmp .ge 52, 3) := by decide +kernel
theorem dX2_hearBids_128 : decode cX2_hearBids 128 = .ok (.return_, 1) := by decide +kernel
theorem dX2_hearBids_79 : decode cX2_hearBids 79 = .ok (.aload_n 1, 1) := by decide +kernel
theorem dX2_hearBids_80 : decode cX2_hearBids 80 = .ok (.getfield 91, 3) := by decide +kernel
theorem dX2_hearBids_83 : decode cX2_hearBids 83 = .ok (.iload_n 2, 1) := by decide +kernel
theorem dX2_hearBids_84 : decode cX2_hearBids 84 = .ok (.iconst 0, 1) := by decide +kernel
theorem dX2_hearBids_85 : decode cX2_hearBids 85 = .ok (.invokevirtual 44, 3) := by decide +kernel
theorem dX2_hearBids_88 : decode cX2_hearBids 88 = .ok (.ifCond .ne 34, 3) := by decide +kernel
theorem dX2_hearBids_122 : decode cX2_hearBids 122 = .ok (.iinc 2 1, 3) := by decide +kernel
theorem dX2_hearBids_125 : decode cX2_hearBids 125 = .ok (.goto (-57), 3) := by decide +kernel
theorem dX2_hearBids_91 : decode cX2_hearBids 91 = .ok (.aload_n 0, 1) := by decide +kernel
theorem dX2_hearBids_92 : decode cX2_hearBids 92 = .ok (.aload_n 1, 1) := by decide +kernel
theorem dX2_hearBids_93 : decode cX2_hearBids 93 = .ok (.getfield 91, 3) := by decide +kernel
theorem dX2_hearBids_96 : decode cX2_hearBids 96 = .ok (.iload_n 2, 1) := by decide +kernel
theorem dX2_hearBids_97 : decode cX2_hearBids 97 = .ok (.iconst 1, 1) := by decide +kernel
theorem dX2_hearBids_98 : decode cX2_hearBids 98 = .ok (.invokevirtual 44, 3) := by decide +kernel
theorem dX2_hearBids_101 : decode cX2_hearBids 101 = .ok (.aload_n 1, 1) := by decide +kernel
theorem dX2_hearBids_102 : decode cX2_hearBids 102 = .ok (.getfield 91, 3) := by decide +kernel
theorem dX2_hearBids_105 : decode cX2_hearBids 105 = .ok (.iload_n 2, 1) := by decide +kernel
theorem dX2_hearBids_106 : decode cX2_hearBids 106 = .ok (.iconst 2, 1) := by decide +kernel
theorem dX2_hearBids_107 : decode cX2_hearBids 107 = .ok (.invokevirtual 44, 3) := by decide +kernel
theorem dX2_hearBids_110 : decode cX2_hearBids 110 = .ok (.aload_n 1, 1) := by decide +kernel
theorem dX2_hearBids_111 : decode cX2_hearBids 111 = .ok (.getfield 91, 3) := by decide +kernel
theorem dX2_hearBids_114 : decode cX2_hearBids 114 = .ok (.iload_n 2, 1) := by decide +kernel
theorem dX2_hearBids_115 : decode cX2_hearBids 115 = .ok (.iconst 3, 1) := by decide +kernel
theorem dX2_hearBids_116 : decode cX2_hearBids 116 = .ok (.invokevirtual 44, 3) := by decide +kernel
theorem dX2_hearBids_119 : decode cX2_hearBids 119 = .ok (.invokevirtual 87, 3) := by decide +kernel
theorem dX2_hearBid_0 : decode cX2_hearBid 0 = .ok (.iload_n 1, 1) := by decide +kernel
theorem dX2_hearBid_1 : decode cX2_hearBid 1 = .ok (.ifCond .lt 15, 3) := by decide +kernel
theorem dX2_hearBid_16 : decode cX2_hearBid 16 = .ok (.return_, 1) := by decide +kernel
theorem dX2_hearBid_4 : decode cX2_hearBid 4 = .ok (.iload_n 1, 1) := by decide +kernel
theorem dX2_hearBid_5 : decode cX2_hearBid 5 = .ok (.aload_n 0, 1) := by decide +kernel
theorem dX2_hearBid_6 : decode cX2_hearBid 6 = .ok (.getfield 35, 3) := by decide +kernel
theorem dX2_hearBid_9 : decode cX2_hearBid 9 = .ok (.if_icmp .ge 7, 3) := by decide +kernel
theorem dX2_hearBid_12 : decode cX2_hearBid 12 = .ok (.iload_n 3, 1) := by decide +kernel
theorem dX2_hearBid_13 : decode cX2_hearBid 13 = .ok (.ifCond .ge 4, 3) := by decide +kernel
theorem dX2_hearBid_17 : decode cX2_hearBid 17 = .ok (.iload_n 3, 1) := by decide +kernel
theorem dX2_hearBid_18 : decode cX2_hearBid 18 = .ok (.istore 4, 2) := by decide +kernel
theorem dX2_hearBid_20 : decode cX2_hearBid 20 = .ok (.iload 4, 2) := by decide +kernel
theorem dX2_hearBid_22 : decode cX2_hearBid 22 = .ok (.aload_n 0, 1) := by decide +kernel
theorem dX2_hearBid_23 : decode cX2_hearBid 23 = .ok (.getfield 67, 3) := by decide +kernel
theorem dX2_hearBid_26 : decode cX2_hearBid 26 = .ok (.if_icmp .gt 51, 3) := by decide +kernel
theorem dX2_hearBid_77 : decode cX2_hearBid 77 = .ok (.return_, 1) := by decide +kernel
theorem dX2_hearBid_29 : decode cX2_hearBid 29 = .ok (.aload_n 0, 1) := by decide +kernel
theorem dX2_hearBid_30 : decode cX2_hearBid 30 = .ok (.getfield 18, 3) := by decide +kernel
theorem dX2_hearBid_33 : decode cX2_hearBid 33 = .ok (.iload_n 1, 1) := by decide +kernel
theorem dX2_hearBid_34 : decode cX2_hearBid 34 = .ok (.bipush 15, 2) := by decide +kernel
theorem dX2_hearBid_36 : decode cX2_hearBid 36 = .ok (.imul, 1) := by decide +kernel
theorem dX2_hearBid_37 : decode cX2_hearBid 37 = .ok (.iload 4, 2) := by decide +kernel
theorem dX2_hearBid_39 : decode cX2_hearBid 39 = .ok (.iadd, 1) := by decide +kernel
theorem dX2_hearBid_40 : decode cX2_hearBid 40 = .ok (.iaload, 1) := by decide +kernel
theorem dX2_hearBid_41 : decode cX2_hearBid 41 = .ok (.iload_n 3, 1) := by decide +kernel
theorem dX2_hearBid_42 : decode cX2_hearBid 42 = .ok (.if_icmp .gt 29, 3) := by decide +kernel
theorem dX2_hearBid_71 : decode cX2_hearBid 71 = .ok (.iinc 4 1, 3) := by decide +kernel
theorem dX2_hearBid_74 : decode cX2_hearBid 74 = .ok (.goto (-54), 3) := by decide +kernel
theorem dX2_hearBid_45 : decode cX2_hearBid 45 = .ok (.aload_n 0, 1) := by decide +kernel
theorem dX2_hearBid_46 : decode cX2_hearBid 46 = .ok (.getfield 18, 3) := by decide +kernel
theorem dX2_hearBid_49 : decode cX2_hearBid 49 = .ok (.iload_n 1, 1) := by decide +kernel
theorem dX2_hearBid_50 : decode cX2_hearBid 50 = .ok (.bipush 15, 2) := by decide +kernel
theorem dX2_hearBid_52 : decode cX2_hearBid 52 = .ok (.imul, 1) := by decide +kernel
theorem dX2_hearBid_53 : decode cX2_hearBid 53 = .ok (.iload 4, 2) := by decide +kernel
theorem dX2_hearBid_55 : decode cX2_hearBid 55 = .ok (.iadd, 1) := by decide +kernel
theorem dX2_hearBid_56 : decode cX2_hearBid 56 = .ok (.iload_n 3, 1) := by decide +kernel
theorem dX2_hearBid_57 : decode cX2_hearBid 57 = .ok (.iastore, 1) := by decide +kernel
theorem dX2_hearBid_58 : decode cX2_hearBid 58 = .ok (.aload_n 0, 1) := by decide +kernel
theorem dX2_hearBid_59 : decode cX2_hearBid 59 = .ok (.getfield 15, 3) := by decide +kernel
theorem dX2_hearBid_62 : decode cX2_hearBid 62 = .ok (.iload_n 1, 1) := by decide +kernel
theorem dX2_hearBid_63 : decode cX2_hearBid 63 = .ok (.bipush 15, 2) := by decide +kernel
theorem dX2_hearBid_65 : decode cX2_hearBid 65 = .ok (.imul, 1) := by decide +kernel
theorem dX2_hearBid_66 : decode cX2_hearBid 66 = .ok (.iload 4, 2) := by decide +kernel
theorem dX2_hearBid_68 : decode cX2_hearBid 68 = .ok (.iadd, 1) := by decide +kernel
theorem dX2_hearBid_69 : decode cX2_hearBid 69 = .ok (.iload_n 2, 1) := by decide +kernel
theorem dX2_hearBid_70 : decode cX2_hearBid 70 = .ok (.iastore, 1) := by decide +kernel
theorem dX2_hearBids_29 : decode cX2_hearBids 29 = .ok (.aload_n 0, 1) := by decide +kernel
theorem dX2_hearBids_30 : decode cX2_hearBids 30 = .ok (.aload_n 1, 1) := by decide +kernel
theorem dX2_hearBids_31 : decode cX2_hearBids 31 = .ok (.getfield 84, 3) := by decide +kernel
theorem dX2_hearBids_34 : decode cX2_hearBids 34 = .ok (.iload_n 2, 1) := by decide +kernel
theorem dX2_hearBids_35 : decode cX2_hearBids 35 = .ok (.iconst 0, 1) := by decide +kernel
theorem dX2_hearBids_36 : decode cX2_hearBids 36 = .ok (.invokevirtual 44, 3) := by decide +kernel
theorem dX2_hearBids_39 : decode cX2_hearBids 39 = .ok (.aload_n 1, 1) := by decide +kernel
theorem dX2_hearBids_40 : decode cX2_hearBids 40 = .ok (.getfield 84, 3) := by decide +kernel
theorem dX2_hearBids_43 : decode cX2_hearBids 43 = .ok (.iload_n 2, 1) := by decide +kernel
theorem dX2_hearBids_44 : decode cX2_hearBids 44 = .ok (.iconst 1, 1) := by decide +kernel
theorem dX2_hearBids_45 : decode cX2_hearBids 45 = .ok (.invokevirtual 44, 3) := by decide +kernel
theorem dX2_hearBids_48 : decode cX2_hearBids 48 = .ok (.aload_n 1, 1) := by decide +kernel
theorem dX2_hearBids_49 : decode cX2_hearBids 49 = .ok (.getfield 84, 3) := by decide +kernel
theorem dX2_hearBids_52 : decode cX2_hearBids 52 = .ok (.iload_n 2, 1) := by decide +kernel
theorem dX2_hearBids_53 : decode cX2_hearBids 53 = .ok (.iconst 2, 1) := by decide +kernel
theorem dX2_hearBids_54 : decode cX2_hearBids 54 = .ok (.invokevirtual 44, 3) := by decide +kernel
theorem dX2_hearBids_57 : decode cX2_hearBids 57 = .ok (.invokevirtual 87, 3) := by decide +kernel
theorem dX2_hearBids_60 : decode cX2_hearBids 60 = .ok (.iinc 2 1, 3) := by decide +kernel
theorem dX2_hearBids_63 : decode cX2_hearBids 63 = .ok (.goto (-45), 3) := by decide +kernel
theorem dX2_settle_12 : decode cX2_settle 12 = .ok (.iconst 0, 1) := by decide +kernel
theorem dX2_settle_13 : decode cX2_settle 13 = .ok (.istore 4, 2) := by decide +kernel
theorem dX2_settle_15 : decode cX2_settle 15 = .ok (.iload 4, 2) := by decide +kernel
theorem dX2_settle_17 : decode cX2_settle 17 = .ok (.aload_n 0, 1) := by decide +kernel
theorem dX2_settle_18 : decode cX2_settle 18 = .ok (.getfield 35, 3) := by decide +kernel
theorem dX2_settle_21 : decode cX2_settle 21 = .ok (.if_icmp .ge 25, 3) := by decide +kernel
theorem dX2_settle_46 : decode cX2_settle 46 = .ok (.aload_n 0, 1) := by decide +kernel
theorem dX2_settle_47 : decode cX2_settle 47 = .ok (.invokevirtual 54, 3) := by decide +kernel
theorem dX2_gather_0 : decode cX2_gather 0 = .ok (.iconst 0, 1) := by decide +kernel
theorem dX2_gather_1 : decode cX2_gather 1 = .ok (.istore_n 1, 1) := by decide +kernel
theorem dX2_gather_2 : decode cX2_gather 2 = .ok (.iload_n 1, 1) := by decide +kernel
theorem dX2_gather_3 : decode cX2_gather 3 = .ok (.aload_n 0, 1) := by decide +kernel
theorem dX2_gather_4 : decode cX2_gather 4 = .ok (.getfield 35, 3) := by decide +kernel
theorem dX2_gather_7 : decode cX2_gather 7 = .ok (.if_icmp .ge 47, 3) := by decide +kernel
theorem dX2_gather_54 : decode cX2_gather 54 = .ok (.return_, 1) := by decide +kernel
theorem dX2_gather_10 : decode cX2_gather 10 = .ok (.iconst 0, 1) := by decide +kernel
theorem dX2_gather_11 : decode cX2_gather 11 = .ok (.istore_n 2, 1) := by decide +kernel
theorem dX2_gather_12 : decode cX2_gather 12 = .ok (.iload_n 2, 1) := by decide +kernel
theorem dX2_gather_13 : decode cX2_gather 13 = .ok (.aload_n 0, 1) := by decide +kernel
theorem dX2_gather_14 : decode cX2_gather 14 = .ok (.getfield 67, 3) := by decide +kernel
theorem dX2_gather_17 : decode cX2_gather 17 = .ok (.if_icmp .gt 31, 3) := by decide +kernel
theorem dX2_gather_20 : decode cX2_gather 20 = .ok (.aload_n 0, 1) := by decide +kernel
theorem dX2_gather_21 : decode cX2_gather 21 = .ok (.getfield 24, 3) := by decide +kernel
theorem dX2_gather_24 : decode cX2_gather 24 = .ok (.iload_n 1, 1) := by decide +kernel
theorem dX2_gather_25 : decode cX2_gather 25 = .ok (.bipush 15, 2) := by decide +kernel
theorem dX2_gather_27 : decode cX2_gather 27 = .ok (.imul, 1) := by decide +kernel
theorem dX2_gather_28 : decode cX2_gather 28 = .ok (.iload_n 2, 1) := by decide +kernel
theorem dX2_gather_29 : decode cX2_gather 29 = .ok (.iadd, 1) := by decide +kernel
theorem dX2_gather_30 : decode cX2_gather 30 = .ok (.aload_n 0, 1) := by decide +kernel
theorem dX2_gather_31 : decode cX2_gather 31 = .ok (.aload_n 0, 1) := by decide +kernel
theorem dX2_gather_32 : decode cX2_gather 32 = .ok (.iload_n 1, 1) := by decide +kernel
theorem dX2_gather_33 : decode cX2_gather 33 = .ok (.iload_n 2, 1) := by decide +kernel
theorem dX2_gather_34 : decode cX2_gather 34 = .ok (.invokevirtual 111, 3) := by decide +kernel
theorem dX2_gather_37 : decode cX2_gather 37 = .ok (.iload_n 2, 1) := by decide +kernel
theorem dX2_gather_38 : decode cX2_gather 38 = .ok (.invokevirtual 114, 3) := by decide +kernel
theorem dX2_gather_41 : decode cX2_gather 41 = .ok (.iastore, 1) := by decide +kernel
theorem dX2_gather_42 : decode cX2_gather 42 = .ok (.iinc 2 1, 3) := by decide +kernel
theorem dX2_gather_45 : decode cX2_gather 45 = .ok (.goto (-33), 3) := by decide +kernel
theorem dX2_gather_48 : decode cX2_gather 48 = .ok (.iinc 1 1, 3) := by decide +kernel
theorem dX2_gather_51 : decode cX2_gather 51 = .ok (.goto (-49), 3) := by decide +kernel
theorem dX2_settle_50 : decode cX2_settle 50 = .ok (.return_, 1) := by decide +kernel
theorem dX2_settle_24 : decode cX2_settle 24 = .ok (.aload_n 0, 1) := by decide +kernel
theorem dX2_settle_25 : decode cX2_settle 25 = .ok (.iload 4, 2) := by decide +kernel
theorem dX2_settle_27 : decode cX2_settle 27 = .ok (.aload_n 1, 1) := by decide +kernel
theorem dX2_settle_28 : decode cX2_settle 28 = .ok (.getfield 39, 3) := by decide +kernel
theorem dX2_settle_31 : decode cX2_settle 31 = .ok (.iload 4, 2) := by decide +kernel
theorem dX2_settle_33 : decode cX2_settle 33 = .ok (.iconst 0, 1) := by decide +kernel
theorem dX2_settle_34 : decode cX2_settle 34 = .ok (.invokevirtual 44, 3) := by decide +kernel
theorem dX2_settle_37 : decode cX2_settle 37 = .ok (.invokevirtual 50, 3) := by decide +kernel
theorem dX2_goAsBidden_0 : decode cX2_goAsBidden 0 = .ok (.iload_n 2, 1) := by decide +kernel
theorem dX2_goAsBidden_1 : decode cX2_goAsBidden 1 = .ok (.istore_n 3, 1) := by decide +kernel
theorem dX2_goAsBidden_2 : decode cX2_goAsBidden 2 = .ok (.aload_n 0, 1) := by decide +kernel
theorem dX2_goAsBidden_3 : decode cX2_goAsBidden 3 = .ok (.getfield 21, 3) := by decide +kernel
theorem dX2_goAsBidden_6 : decode cX2_goAsBidden 6 = .ok (.iload_n 1, 1) := by decide +kernel
theorem dX2_goAsBidden_7 : decode cX2_goAsBidden 7 = .ok (.bipush 15, 2) := by decide +kernel
theorem dX2_goAsBidden_9 : decode cX2_goAsBidden 9 = .ok (.imul, 1) := by decide +kernel
theorem dX2_goAsBidden_10 : decode cX2_goAsBidden 10 = .ok (.iload_n 3, 1) := by decide +kernel
theorem dX2_goAsBidden_11 : decode cX2_goAsBidden 11 = .ok (.iastore, 1) := by decide +kernel
theorem dX2_goAsBidden_12 : decode cX2_goAsBidden 12 = .ok (.iconst 0, 1) := by decide +kernel
theorem dX2_goAsBidden_13 : decode cX2_goAsBidden 13 = .ok (.istore 4, 2) := by decide +kernel
theorem dX2_goAsBidden_15 : decode cX2_goAsBidden 15 = .ok (.iload 4, 2) := by decide +kernel
theorem dX2_goAsBidden_17 : decode cX2_goAsBidden 17 = .ok (.aload_n 0, 1) := by decide +kernel
theorem dX2_goAsBidden_18 : decode cX2_goAsBidden 18 = .ok (.getfield 67, 3) := by decide +kernel
theorem dX2_goAsBidden_21 : decode cX2_goAsBidden 21 = .ok (.if_icmp .ge 38, 3) := by decide +kernel
theorem dX2_goAsBidden_59 : decode cX2_goAsBidden 59 = .ok (.return_, 1) := by decide +kernel
theorem dX2_goAsBidden_24 : decode cX2_goAsBidden 24 = .ok (.aload_n 0, 1) := by decide +kernel
theorem dX2_goAsBidden_25 : decode cX2_goAsBidden 25 = .ok (.iload_n 1, 1) := by decide +kernel
theorem dX2_goAsBidden_26 : decode cX2_goAsBidden 26 = .ok (.iload_n 3, 1) := by decide +kernel
theorem dX2_goAsBidden_27 : decode cX2_goAsBidden 27 = .ok (.aload_n 0, 1) := by decide +kernel
theorem dX2_goAsBidden_28 : decode cX2_goAsBidden 28 = .ok (.iload_n 1, 1) := by decide +kernel
theorem dX2_goAsBidden_29 : decode cX2_goAsBidden 29 = .ok (.iload 4, 2) := by decide +kernel
theorem dX2_goAsBidden_31 : decode cX2_goAsBidden 31 = .ok (.invokevirtual 94, 3) := by decide +kernel
theorem dX2_goAsBidden_34 : decode cX2_goAsBidden 34 = .ok (.invokevirtual 97, 3) := by decide +kernel
theorem dX2_nextRoom_0 : decode cX2_nextRoom 0 = .ok (.iload_n 3, 1) := by decide +kernel
theorem dX2_nextRoom_1 : decode cX2_nextRoom 1 = .ok (.iconst (-1), 1) := by decide +kernel
theorem dX2_nextRoom_2 : decode cX2_nextRoom 2 = .ok (.if_icmp .eq 8, 3) := by decide +kernel
theorem dX2_nextRoom_10 : decode cX2_nextRoom 10 = .ok (.iload_n 2, 1) := by decide +kernel
theorem dX2_nextRoom_11 : decode cX2_nextRoom 11 = .ok (.ireturn, 1) := by decide +kernel
theorem dX2_nextRoom_5 : decode cX2_nextRoom 5 = .ok (.iload_n 3, 1) := by decide +kernel
theorem dX2_nextRoom_6 : decode cX2_nextRoom 6 = .ok (.iload_n 2, 1) := by decide +kernel
theorem dX2_nextRoom_7 : decode cX2_nextRoom 7 = .ok (.if_icmp .ne 5, 3) := by decide +kernel
theorem dX2_nextRoom_12 : decode cX2_nextRoom 12 = .ok (.iconst 1, 1) := by decide +kernel
theorem dX2_nextRoom_13 : decode cX2_nextRoom 13 = .ok (.iload_n 3, 1) := by decide +kernel
theorem dX2_nextRoom_14 : decode cX2_nextRoom 14 = .ok (.ishl, 1) := by decide +kernel
theorem dX2_nextRoom_15 : decode cX2_nextRoom 15 = .ok (.istore 4, 2) := by decide +kernel
theorem dX2_nextRoom_17 : decode cX2_nextRoom 17 = .ok (.iconst 0, 1) := by decide +kernel
theorem dX2_nextRoom_18 : decode cX2_nextRoom 18 = .ok (.istore 5, 2) := by decide +kernel
theorem dX2_nextRoom_20 : decode cX2_nextRoom 20 = .ok (.iload 5, 2) := by decide +kernel
theorem dX2_nextRoom_22 : decode cX2_nextRoom 22 = .ok (.aload_n 0, 1) := by decide +kernel
theorem dX2_nextRoom_23 : decode cX2_nextRoom 23 = .ok (.getfield 63, 3) := by decide +kernel
theorem dX2_nextRoom_26 : decode cX2_nextRoom 26 = .ok (.if_icmp .ge 40, 3) := by decide +kernel
theorem dX2_nextRoom_66 : decode cX2_nextRoom 66 = .ok (.iload_n 2, 1) := by decide +kernel
theorem dX2_nextRoom_67 : decode cX2_nextRoom 67 = .ok (.ireturn, 1) := by decide +kernel
theorem dX2_nextRoom_29 : decode cX2_nextRoom 29 = .ok (.aload_n 0, 1) := by decide +kernel
theorem dX2_nextRoom_30 : decode cX2_nextRoom 30 = .ok (.iload_n 1, 1) := by decide +kernel
theorem dX2_nextRoom_31 : decode cX2_nextRoom 31 = .ok (.iload_n 2, 1) := by decide +kernel
theorem dX2_nextRoom_32 : decode cX2_nextRoom 32 = .ok (.invokevirtual 101, 3) := by decide +kernel
theorem dX2_nextRoom_35 : decode cX2_nextRoom 35 = .ok (.iload 4, 2) := by decide +kernel
theorem dX2_nextRoom_37 : decode cX2_nextRoom 37 = .ok (.iand, 1) := by decide +kernel
theorem dX2_nextRoom_38 : decode cX2_nextRoom 38 = .ok (.istore 6, 2) := by decide +kernel
theorem dX2_nextRoom_40 : decode cX2_nextRoom 40 = .ok (.iload 6, 2) := by decide +kernel
theorem dX2_nextRoom_42 : decode cX2_nextRoom 42 = .ok (.ifCond .eq 9, 3) := by decide +kernel
theorem dX2_nextRoom_51 : decode cX2_nextRoom 51 = .ok (.aload_n 0, 1) := by decide +kernel
theorem dX2_nextRoom_52 : decode cX2_nextRoom 52 = .ok (.iload_n 1, 1) := by decide +kernel
theorem dX2_nextRoom_53 : decode cX2_nextRoom 53 = .ok (.iload 4, 2) := by decide +kernel
theorem dX2_nextRoom_55 : decode cX2_nextRoom 55 = .ok (.invokevirtual 108, 3) := by decide +kernel
theorem dX2_nextRoom_58 : decode cX2_nextRoom 58 = .ok (.istore 4, 2) := by decide +kernel
theorem dX2_nextRoom_60 : decode cX2_nextRoom 60 = .ok (.iinc 5 1, 3) := by decide +kernel
theorem dX2_nextRoom_63 : decode cX2_nextRoom 63 = .ok (.goto (-43), 3) := by decide +kernel
theorem dX2_nextRoom_45 : decode cX2_nextRoom 45 = .ok (.iload 6, 2) := by decide +kernel
theorem dX2_nextRoom_47 : decode cX2_nextRoom 47 = .ok (.invokestatic 104, 3) := by decide +kernel
theorem dX2_nextRoom_50 : decode cX2_nextRoom 50 = .ok (.ireturn, 1) := by decide +kernel
theorem dX2_goAsBidden_37 : decode cX2_goAsBidden 37 = .ok (.istore_n 3, 1) := by decide +kernel
theorem dX2_goAsBidden_38 : decode cX2_goAsBidden 38 = .ok (.aload_n 0, 1) := by decide +kernel
theorem dX2_goAsBidden_39 : decode cX2_goAsBidden 39 = .ok (.getfield 21, 3) := by decide +kernel
theorem dX2_goAsBidden_42 : decode cX2_goAsBidden 42 = .ok (.iload_n 1, 1) := by decide +kernel
theorem dX2_goAsBidden_43 : decode cX2_goAsBidden 43 = .ok (.bipush 15, 2) := by decide +kernel
theorem dX2_goAsBidden_45 : decode cX2_goAsBidden 45 = .ok (.imul, 1) := by decide +kernel
theorem dX2_goAsBidden_46 : decode cX2_goAsBidden 46 = .ok (.iload 4, 2) := by decide +kernel
theorem dX2_goAsBidden_48 : decode cX2_goAsBidden 48 = .ok (.iadd, 1) := by decide +kernel
theorem dX2_goAsBidden_49 : decode cX2_goAsBidden 49 = .ok (.iconst 1, 1) := by decide +kernel
theorem dX2_goAsBidden_50 : decode cX2_goAsBidden 50 = .ok (.iadd, 1) := by decide +kernel
theorem dX2_goAsBidden_51 : decode cX2_goAsBidden 51 = .ok (.iload_n 3, 1) := by decide +kernel
theorem dX2_goAsBidden_52 : decode cX2_goAsBidden 52 = .ok (.iastore, 1) := by decide +kernel
theorem dX2_goAsBidden_53 : decode cX2_goAsBidden 53 = .ok (.iinc 4 1, 3) := by decide +kernel
theorem dX2_goAsBidden_56 : decode cX2_goAsBidden 56 = .ok (.goto (-41), 3) := by decide +kernel
theorem dX2_settle_40 : decode cX2_settle 40 = .ok (.iinc 4 1, 3) := by decide +kernel
theorem dX2_settle_43 : decode cX2_settle 43 = .ok (.goto (-28), 3) := by decide +kernel
theorem dX9_widen_61 : decode cX9_widen 61 = .ok (.aload_n 0, 1) := by decide +kernel
theorem dX9_widen_62 : decode cX9_widen 62 = .ok (.aload_n 0, 1) := by decide +kernel
theorem dX9_widen_63 : decode cX9_widen 63 = .ok (.getfield 58, 3) := by decide +kernel
theorem dX9_widen_66 : decode cX9_widen 66 = .ok (.iload_n 1, 1) := by decide +kernel
theorem dX9_widen_67 : decode cX9_widen 67 = .ok (.invokevirtual 230, 3) := by decide +kernel
theorem dX9_widen_70 : decode cX9_widen 70 = .ok (.invokestatic 203, 3) := by decide +kernel
theorem dX9_widen_73 : decode cX9_widen 73 = .ok (.istore 6, 2) := by decide +kernel
theorem dX9_widen_75 : decode cX9_widen 75 = .ok (.iload 6, 2) := by decide +kernel
theorem dX9_widen_77 : decode cX9_widen 77 = .ok (.iload 4, 2) := by decide +kernel
theorem dX9_widen_79 : decode cX9_widen 79 = .ok (.if_icmp .le 10, 3) := by decide +kernel
theorem dX9_widen_89 : decode cX9_widen 89 = .ok (.iinc 5 1, 3) := by decide +kernel
theorem dX9_widen_92 : decode cX9_widen 92 = .ok (.goto (-52), 3) := by decide +kernel
theorem dX9_widen_82 : decode cX9_widen 82 = .ok (.iload 6, 2) := by decide +kernel
theorem dX9_widen_84 : decode cX9_widen 84 = .ok (.istore 4, 2) := by decide +kernel
theorem dX9_widen_86 : decode cX9_widen 86 = .ok (.iload 5, 2) := by decide +kernel
theorem dX9_widen_88 : decode cX9_widen 88 = .ok (.istore_n 3, 1) := by decide +kernel
theorem dX9_widen_95 : decode cX9_widen 95 = .ok (.iload_n 3, 1) := by decide +kernel
theorem dX9_widen_96 : decode cX9_widen 96 = .ok (.ireturn, 1) := by decide +kernel
theorem dX9_shut_0 : decode cX9_shut 0 = .ok (.aload_n 0, 1) := by decide +kernel
theorem dX9_shut_1 : decode cX9_shut 1 = .ok (.getfield 20, 3) := by decide +kernel
theorem dX9_shut_4 : decode cX9_shut 4 = .ok (.iload_n 1, 1) := by decide +kernel
theorem dX9_shut_5 : decode cX9_shut 5 = .ok (.invokevirtual 139, 3) := by decide +kernel
theorem dX9_shut_8 : decode cX9_shut 8 = .ok (.ifCond .eq 17, 3) := by decide +kernel
theorem dX9_shut_25 : decode cX9_shut 25 = .ok (.bipush (-2), 2) := by decide +kernel
theorem dX9_shut_27 : decode cX9_shut 27 = .ok (.ireturn, 1) := by decide +kernel
theorem dX9_shut_11 : decode cX9_shut 11 = .ok (.aload_n 0, 1) := by decide +kernel
theorem dX9_shut_12 : decode cX9_shut 12 = .ok (.getfield 20, 3) := by decide +kernel
theorem dX9_shut_15 : decode cX9_shut 15 = .ok (.getfield 119, 3) := by decide +kernel
theorem dX9_shut_18 : decode cX9_shut 18 = .ok (.iload_n 2, 1) := by decide +kernel
theorem dX9_shut_19 : decode cX9_shut 19 = .ok (.invokevirtual 257, 3) := by decide +kernel
theorem dX9_shut_22 : decode cX9_shut 22 = .ok (.ifCond .ne 6, 3) := by decide +kernel
theorem dX9_shut_28 : decode cX9_shut 28 = .ok (.aload_n 0, 1) := by decide +kernel
theorem dX9_shut_29 : decode cX9_shut 29 = .ok (.invokevirtual 227, 3) := by decide +kernel
theorem dX9_shut_32 : decode cX9_shut 32 = .ok (.aload_n 0, 1) := by decide +kernel
theorem dX9_shut_33 : decode cX9_shut 33 = .ok (.getfield 58, 3) := by decide +kernel
theorem dX9_shut_36 : decode cX9_shut 36 = .ok (.aload_n 0, 1) := by decide +kernel
theorem dX9_shut_37 : decode cX9_shut 37 = .ok (.getfield 20, 3) := by decide +kernel
theorem dX9_shut_40 : decode cX9_shut 40 = .ok (.iload_n 2, 1) := by decide +kernel
theorem dX9_shut_41 : decode cX9_shut 41 = .ok (.iconst 0, 1) := by decide +kernel
theorem dX9_shut_42 : decode cX9_shut 42 = .ok (.invokevirtual 116, 3) := by decide +kernel
theorem dX9_shut_45 : decode cX9_shut 45 = .ok (.aload_n 0, 1) := by decide +kernel
theorem dX9_shut_46 : decode cX9_shut 46 = .ok (.aload_n 0, 1) := by decide +kernel
theorem dX9_shut_47 : decode cX9_shut 47 = .ok (.getfield 58, 3) := by decide +kernel
theorem dX9_shut_50 : decode cX9_shut 50 = .ok (.iload_n 1, 1) := by decide +kernel
theorem dX9_shut_51 : decode cX9_shut 51 = .ok (.invokevirtual 230, 3) := by decide +kernel
theorem dX9_shut_54 : decode cX9_shut 54 = .ok (.ireturn, 1) := by decide +kernel
theorem dX9_bars_0 : decode cX9_bars 0 = .ok (.aload_n 0, 1) := by decide +kernel
theorem dX9_bars_1 : decode cX9_bars 1 = .ok (.getfield 20, 3) := by decide +kernel
theorem dX9_bars_4 : decode cX9_bars 4 = .ok (.iload_n 1, 1) := by decide +kernel
theorem dX9_bars_5 : decode cX9_bars 5 = .ok (.invokevirtual 139, 3) := by decide +kernel
theorem dX9_bars_8 : decode cX9_bars 8 = .ok (.ifCond .eq 25, 3) := by decide +kernel
theorem dX9_bars_33 : decode cX9_bars 33 = .ok (.bipush (-2), 2) := by decide +kernel
theorem dX9_bars_35 : decode cX9_bars 35 = .ok (.ireturn, 1) := by decide +kernel
theorem dX9_bars_11 : decode cX9_bars 11 = .ok (.aload_n 0, 1) := by decide +kernel
theorem dX9_bars_12 : decode cX9_bars 12 = .ok (.getfield 20, 3) := by decide +kernel
theorem dX9_bars_15 : decode cX9_bars 15 = .ok (.iload_n 2, 1) := by decide +kernel
theorem dX9_bars_16 : decode cX9_bars 16 = .ok (.invokevirtual 143, 3) := by decide +kernel
theorem dX9_bars_19 : decode cX9_bars 19 = .ok (.ifCond .eq 14, 3) := by decide +kernel
theorem dX9_bars_22 : decode cX9_bars 22 = .ok (.aload_n 0, 1) := by decide +kernel
theorem dX9_bars_23 : decode cX9_bars 23 = .ok (.getfield 20, 3) := by decide +kernel
theorem dX9_bars_26 : decode cX9_bars 26 = .ok (.iload_n 3, 1) := by decide +kernel
theorem dX9_bars_27 : decode cX9_bars 27 = .ok (.invokevirtual 143, 3) := by decide +kernel
theorem dX9_bars_30 : decode cX9_bars 30 = .ok (.ifCond .ne 6, 3) := by decide +kernel
theorem dX9_bars_36 : decode cX9_bars 36 = .ok (.iconst 1, 1) := by decide +kernel
theorem dX9_bars_37 : decode cX9_bars 37 = .ok (.istore 4, 2) := by decide +kernel
theorem dX9_bars_39 : decode cX9_bars 39 = .ok (.iload 4, 2) := by decide +kernel
theorem dX9_bars_41 : decode cX9_bars 41 = .ok (.bipush 9, 2) := by decide +kernel
theorem dX9_bars_43 : decode cX9_bars 43 = .ok (.if_icmp .gt 41, 3) := by decide +kernel
theorem dX9_bars_46 : decode cX9_bars 46 = .ok (.aload_n 0, 1) := by decide +kernel
theorem dX9_bars_47 : decode cX9_bars 47 = .ok (.getfield 58, 3) := by decide +kernel
theorem dX9_bars_50 : decode cX9_bars 50 = .ok (.aload_n 0, 1) := by decide +kernel
theorem dX9_bars_51 : decode cX9_bars 51 = .ok (.getfield 20, 3) := by decide +kernel
theorem dX9_bars_54 : decode cX9_bars 54 = .ok (.bipush (-2), 2) := by decide +kernel
theorem dX9_bars_56 : decode cX9_bars 56 = .ok (.iload 4, 2) := by decide +kernel
theorem dX9_bars_58 : decode cX9_bars 58 = .ok (.invokevirtual 260, 3) := by decide +kernel
theorem dX9_bars_61 : decode cX9_bars 61 = .ok (.aload_n 0, 1) := by decide +kernel
theorem dX9_bars_62 : decode cX9_bars 62 = .ok (.getfield 58, 3) := by decide +kernel
theorem dX9_bars_65 : decode cX9_bars 65 = .ok (.iload_n 1, 1) := by decide +kernel
theorem dX9_bars_66 : decode cX9_bars 66 = .ok (.iload_n 2, 1) := by decide +kernel
theorem dX9_bars_67 : decode cX9_bars 67 = .ok (.iload_n 3, 1) := by decide +kernel
theorem dX9_bars_68 : decode cX9_bars 68 = .ok (.invokevirtual 146, 3) := by decide +kernel
theorem dX9_bars_71 : decode cX9_bars 71 = .ok (.iconst (-1), 1) := by decide +kernel
theorem dX9_bars_72 : decode cX9_bars 72 = .ok (.if_icmp .eq 6, 3) := by decide +kernel
theorem dX9_bars_78 : decode cX9_bars 78 = .ok (.iinc 4 1, 3) := by decide +kernel
theorem dX9_bars_81 : decode cX9_bars 81 = .ok (.goto (-42), 3) := by decide +kernel
theorem dX9_bars_75 : decode cX9_bars 75 = .ok (.iload 4, 2) := by decide +kernel
theorem dX9_bars_77 : decode cX9_bars 77 = .ok (.ireturn, 1) := by decide +kernel
theorem dX9_bars_84 : decode cX9_bars 84 = .ok (.iconst (-1), 1) := by decide +kernel
theorem dX9_bars_85 : decode cX9_bars 85 = .ok (.ireturn, 1) := by decide +kernel
theorem dX9_firsts_0 : decode cX9_firsts 0 = .ok (.aload_n 0, 1) := by decide +kernel
theorem dX9_firsts_1 : decode cX9_firsts 1 = .ok (.iload_n 1, 1) := by decide +kernel
theorem dX9_firsts_2 : decode cX9_firsts 2 = .ok (.invokevirtual 263, 3) := by decide +kernel
theorem dX9_seenFault_0 : decode cX9_seenFault 0 = .ok (.iload_n 1, 1) := by decide +kernel
theorem dX9_seenFault_1 : decode cX9_seenFault 1 = .ok (.invokestatic 276, 3) := by decide +kernel
theorem dX9_isSlot_0 : decode cX9_isSlot 0 = .ok (.iload_n 0, 1) := by decide +kernel
theorem dX9_isSlot_1 : decode cX9_isSlot 1 = .ok (.ifCond .lt 12, 3) := by decide +kernel
theorem dX9_isSlot_13 : decode cX9_isSlot 13 = .ok (.iconst 0, 1) := by decide +kernel
theorem dX9_isSlot_14 : decode cX9_isSlot 14 = .ok (.ireturn, 1) := by decide +kernel
theorem dX9_isSlot_4 : decode cX9_isSlot 4 = .ok (.iload_n 0, 1) := by decide +kernel
theorem dX9_isSlot_5 : decode cX9_isSlot 5 = .ok (.iconst 4, 1) := by decide +kernel
theorem dX9_isSlot_6 : decode cX9_isSlot 6 = .ok (.if_icmp .ge 7, 3) := by decide +kernel
theorem dX9_isSlot_9 : decode cX9_isSlot 9 = .ok (.iconst 1, 1) := by decide +kernel
theorem dX9_isSlot_10 : decode cX9_isSlot 10 = .ok (.goto 4, 3) := by decide +kernel
theorem dX9_seenFault_4 : decode cX9_seenFault 4 = .ok (.ifCond .eq 13, 3) := by decide +kernel
theorem dX9_seenFault_17 : decode cX9_seenFault 17 = .ok (.bipush (-2), 2) := by decide +kernel
theorem dX9_seenFault_19 : decode cX9_seenFault 19 = .ok (.ireturn, 1) := by decide +kernel
theorem dX9_seenFault_7 : decode cX9_seenFault 7 = .ok (.aload_n 0, 1) := by decide +kernel
theorem dX9_seenFault_8 : decode cX9_seenFault 8 = .ok (.getfield 20, 3) := by decide +kernel
theorem dX9_seenFault_11 : decode cX9_seenFault 11 = .ok (.invokevirtual 184, 3) := by decide +kernel
theorem dX9_seenFault_14 : decode cX9_seenFault 14 = .ok (.ifCond .ne 6, 3) := by decide +kernel
theorem dX9_seenFault_20 : decode cX9_seenFault 20 = .ok (.aload_n 0, 1) := by decide +kernel
theorem dX9_seenFault_21 : decode cX9_seenFault 21 = .ok (.getfield 46, 3) := by decide +kernel
theorem dX9_seenFault_24 : decode cX9_seenFault 24 = .ok (.iload_n 1, 1) := by decide +kernel
theorem dX9_seenFault_25 : decode cX9_seenFault 25 = .ok (.aaload, 1) := by decide +kernel
theorem dX9_seenFault_26 : decode cX9_seenFault 26 = .ok (.astore_n 2, 1) := by decide +kernel
theorem dX9_seenFault_27 : decode cX9_seenFault 27 = .ok (.aload_n 2, 1) := by decide +kernel
theorem dX9_seenFault_28 : decode cX9_seenFault 28 = .ok (.invokevirtual 279, 3) := by decide +kernel
theorem dX7_isBare_0 : decode cX7_isBare 0 = .ok (.aload_n 0, 1) := by decide +kernel
theorem dX7_isBare_1 : decode cX7_isBare 1 = .ok (.getfield 15, 3) := by decide +kernel
theorem dX7_isBare_4 : decode cX7_isBare 4 = .ok (.ifCond .ge 7, 3) := by decide +kernel
theorem dX7_isBare_11 : decode cX7_isBare 11 = .ok (.iconst 0, 1) := by decide +kernel
theorem dX7_isBare_12 : decode cX7_isBare 12 = .ok (.ireturn, 1) := by decide +kernel
theorem dX7_isBare_7 : decode cX7_isBare 7 = .ok (.iconst 1, 1) := by decide +kernel
theorem dX7_isBare_8 : decode cX7_isBare 8 = .ok (.goto 4, 3) := by decide +kernel
theorem dX9_seenFault_31 : decode cX9_seenFault 31 = .ok (.ifCond .eq 6, 3) := by decide +kernel
theorem dX9_seenFault_37 : decode cX9_seenFault 37 = .ok (.aload_n 2, 1) := by decide +kernel
theorem dX9_seenFault_38 : decode cX9_seenFault 38 = .ok (.getfield 282, 3) := by decide +kernel
theorem dX9_seenFault_41 : decode cX9_seenFault 41 = .ok (.iconst 3, 1) := by decide +kernel
theorem dX9_seenFault_42 : decode cX9_seenFault 42 = .ok (.irem, 1) := by decide +kernel
theorem dX9_seenFault_43 : decode cX9_seenFault 43 = .ok (.ifCond .eq 6, 3) := by decide +kernel
theorem dX9_seenFault_49 : decode cX9_seenFault 49 = .ok (.iconst 0, 1) := by decide +kernel
theorem dX9_seenFault_50 : decode cX9_seenFault 50 = .ok (.istore_n 3, 1) := by decide +kernel
theorem dX9_seenFault_51 : decode cX9_seenFault 51 = .ok (.iload_n 3, 1) := by decide +kernel
theorem dX9_seenFault_52 : decode cX9_seenFault 52 = .ok (.iconst 2, 1) := by decide +kernel
theorem dX9_seenFault_53 : decode cX9_seenFault 53 = .ok (.iadd, 1) := by decide +kernel
theorem dX9_seenFault_54 : decode cX9_seenFault 54 = .ok (.aload_n 2, 1) := by decide +kernel
theorem dX9_seenFault_55 : decode cX9_seenFault 55 = .ok (.getfield 282, 3) := by decide +kernel
theorem dX9_seenFault_58 : decode cX9_seenFault 58 = .ok (.if_icmp .ge 38, 3) := by decide +kernel
theorem dX9_seenFault_96 : decode cX9_seenFault 96 = .ok (.iconst 0, 1) := by decide +kernel
theorem dX9_seenFault_97 : decode cX9_seenFault 97 = .ok (.ireturn, 1) := by decide +kernel
theorem dX9_seenFault_61 : decode cX9_seenFault 61 = .ok (.aload_n 0, 1) := by decide +kernel
theorem dX9_seenFault_62 : decode cX9_seenFault 62 = .ok (.aload_n 2, 1) := by decide +kernel
theorem dX9_seenFault_63 : decode cX9_seenFault 63 = .ok (.iload_n 3, 1) := by decide +kernel
theorem dX9_seenFault_64 : decode cX9_seenFault 64 = .ok (.invokevirtual 285, 3) := by decide +kernel
theorem dX7_cell_0 : decode cX7_cell 0 = .ok (.iload_n 1, 1) := by decide +kernel
theorem dX7_cell_1 : decode cX7_cell 1 = .ok (.ifCond .lt 20, 3) := by decide +kernel
theorem dX7_cell_21 : decode cX7_cell 21 = .ok (.ldc2_w 34, 3) := by decide +kernel
theorem dX7_cell_24 : decode cX7_cell 24 = .ok (.lreturn, 1) := by decide +kernel
theorem dX7_cell_4 : decode cX7_cell 4 = .ok (.iload_n 1, 1) := by decide +kernel
theorem dX7_cell_5 : decode cX7_cell 5 = .ok (.aload_n 0, 1) := by decide +kernel
theorem dX7_cell_6 : decode cX7_cell 6 = .ok (.getfield 15, 3) := by decide +kernel
theorem dX7_cell_9 : decode cX7_cell 9 = .ok (.if_icmp .ge 12, 3) := by decide +kernel
theorem dX7_cell_12 : decode cX7_cell 12 = .ok (.aload_n 0, 1) := by decide +kernel
theorem dX7_cell_13 : decode cX7_cell 13 = .ok (.getfield 11, 3) := by decide +kernel
theorem dX7_cell_16 : decode cX7_cell 16 = .ok (.iload_n 1, 1) := by decide +kernel
theorem dX7_cell_17 : decode cX7_cell 17 = .ok (.laload, 1) := by decide +kernel
theorem dX7_cell_18 : decode cX7_cell 18 = .ok (.goto 6, 3) := by decide +kernel
theorem dX9_seenFault_67 : decode cX9_seenFault 67 = .ok (.aload_n 2, 1) := by decide +kernel
theorem dX9_seenFault_68 : decode cX9_seenFault 68 = .ok (.iload_n 3, 1) := by decide +kernel
theorem dX9_seenFault_69 : decode cX9_seenFault 69 = .ok (.iconst 1, 1) := by decide +kernel
theorem dX9_seenFault_70 : decode cX9_seenFault 70 = .ok (.iadd, 1) := by decide +kernel
theorem dX9_seenFault_71 : decode cX9_seenFault 71 = .ok (.invokevirtual 285, 3) := by decide +kernel
theorem dX9_seenFault_74 : decode cX9_seenFault 74 = .ok (.aload_n 2, 1) := by decide +kernel
theorem dX9_seenFault_75 : decode cX9_seenFault 75 = .ok (.iload_n 3, 1) := by decide +kernel
theorem dX9_seenFault_76 : decode cX9_seenFault 76 = .ok (.iconst 2, 1) := by decide +kernel
theorem dX9_seenFault_77 : decode cX9_seenFault 77 = .ok (.iadd, 1) := by decide +kernel
theorem dX9_seenFault_78 : decode cX9_seenFault 78 = .ok (.invokevirtual 285, 3) := by decide +kernel
theorem dX9_seenFault_81 : decode cX9_seenFault 81 = .ok (.invokevirtual 288, 3) := by decide +kernel
theorem dX9_isSighting_0 : decode cX9_isSighting 0 = .ok (.lload_n 1, 1) := by decide +kernel
theorem dX9_isSighting_1 : decode cX9_isSighting 1 = .ok (.lconst 0, 1) := by decide +kernel
theorem dX9_isSighting_2 : decode cX9_isSighting 2 = .ok (.lcmp, 1) := by decide +kernel
theorem dX9_isSighting_3 : decode cX9_isSighting 3 = .ok (.ifCond .lt 56, 3) := by decide +kernel
theorem dX9_isSighting_59 : decode cX9_isSighting 59 = .ok (.iconst 0, 1) := by decide +kernel
theorem dX9_isSighting_60 : decode cX9_isSighting 60 = .ok (.ireturn, 1) := by decide +kernel
theorem dX9_isSighting_6 : decode cX9_isSighting 6 = .ok (.lload_n 1, 1) := by decide +kernel
theorem dX9_isSighting_7 : decode cX9_isSighting 7 = .ok (.aload_n 0, 1) := by decide +kernel
theorem dX9_isSighting_8 : decode cX9_isSighting 8 = .ok (.getfield 20, 3) := by decide +kernel
theorem dX9_isSighting_11 : decode cX9_isSighting 11 = .ok (.getfield 133, 3) := by decide +kernel
theorem dX9_isSighting_14 : decode cX9_isSighting 14 = .ok (.getfield 200, 3) := by decide +kernel
theorem dX9_isSighting_17 : decode cX9_isSighting 17 = .ok (.i2l, 1) := by decide +kernel
theorem dX9_isSighting_18 : decode cX9_isSighting 18 = .ok (.lcmp, 1) := by decide +kernel
theorem dX9_isSighting_19 : decode cX9_isSighting 19 = .ok (.ifCond .ge 40, 3) := by decide +kernel
theorem dX9_isSighting_22 : decode cX9_isSighting 22 = .ok (.lload_n 3, 1) := by decide +kernel
theorem dX9_isSighting_23 : decode cX9_isSighting 23 = .ok (.lconst 0, 1) := by decide +kernel
theorem dX9_isSighting_24 : decode cX9_isSighting 24 = .ok (.lcmp, 1) := by decide +kernel
theorem dX9_isSighting_25 : decode cX9_isSighting 25 = .ok (.ifCond .lt 34, 3) := by decide +kernel
theorem dX9_isSighting_28 : decode cX9_isSighting 28 = .ok (.lload_n 3, 1) := by decide +kernel
theorem dX9_isSighting_29 : decode cX9_isSighting 29 = .ok (.aload_n 0, 1) := by decide +kernel
theorem dX9_isSighting_30 : decode cX9_isSighting 30 = .ok (.getfield 20, 3) := by decide +kernel
theorem dX9_isSighting_33 : decode cX9_isSighting 33 = .ok (.getfield 169, 3) := by decide +kernel
theorem dX9_isSighting_36 : decode cX9_isSighting 36 = .ok (.i2l, 1) := by decide +kernel
theorem dX9_isSighting_37 : decode cX9_isSighting 37 = .ok (.lcmp, 1) := by decide +kernel
theorem dX9_isSighting_38 : decode cX9_isSighting 38 = .ok (.ifCond .gt 21, 3) := by decide +kernel
theorem dX9_isSighting_41 : decode cX9_isSighting 41 = .ok (.lload 5, 2) := by decide +kernel
theorem dX9_isSighting_43 : decode cX9_isSighting 43 = .ok (.lconst 0, 1) := by decide +kernel
theorem dX9_isSighting_44 : decode cX9_isSighting 44 = .ok (.lcmp, 1) := by decide +kernel
theorem dX9_isSighting_45 : decode cX9_isSighting 45 = .ok (.ifCond .eq 10, 3) := by decide +kernel
theorem dX9_isSighting_55 : decode cX9_isSighting 55 = .ok (.iconst 1, 1) := by decide +kernel
theorem dX9_isSighting_56 : decode cX9_isSighting 56 = .ok (.goto 4, 3) := by decide +kernel
theorem dX9_isSighting_48 : decode cX9_isSighting 48 = .ok (.lload 5, 2) := by decide +kernel
theorem dX9_isSighting_50 : decode cX9_isSighting 50 = .ok (.lconst 1, 1) := by decide +kernel
theorem dX9_isSighting_51 : decode cX9_isSighting 51 = .ok (.lcmp, 1) := by decide +kernel
theorem dX9_isSighting_52 : decode cX9_isSighting 52 = .ok (.ifCond .ne 7, 3) := by decide +kernel
theorem dX9_seenFault_84 : decode cX9_seenFault 84 = .ok (.ifCond .ne 6, 3) := by decide +kernel
theorem dX9_seenFault_90 : decode cX9_seenFault 90 = .ok (.iinc 3 3, 3) := by decide +kernel
theorem dX9_seenFault_93 : decode cX9_seenFault 93 = .ok (.goto (-42), 3) := by decide +kernel
theorem dX9_seenFault_87 : decode cX9_seenFault 87 = .ok (.bipush (-2), 2) := by decide +kernel
theorem dX9_seenFault_89 : decode cX9_seenFault 89 = .ok (.ireturn, 1) := by decide +kernel
theorem dX9_seenFault_46 : decode cX9_seenFault 46 = .ok (.bipush (-2), 2) := by decide +kernel
theorem dX9_seenFault_48 : decode cX9_seenFault 48 = .ok (.ireturn, 1) := by decide +kernel
theorem dX9_seenFault_34 : decode cX9_seenFault 34 = .ok (.bipush (-6), 2) := by decide +kernel
theorem dX9_seenFault_36 : decode cX9_seenFault 36 = .ok (.ireturn, 1) := by decide +kernel
theorem dX9_firsts_5 : decode cX9_firsts 5 = .ok (.istore_n 2, 1) := by decide +kernel
theorem dX9_firsts_6 : decode cX9_firsts 6 = .ok (.iload_n 2, 1) := by decide +kernel
theorem dX9_firsts_7 : decode cX9_firsts 7 = .ok (.ifCond .eq 7, 3) := by decide +kernel
theorem dX9_firsts_14 : decode cX9_firsts 14 = .ok (.aload_n 0, 1) := by decide +kernel
theorem dX9_firsts_15 : decode cX9_firsts 15 = .ok (.aload_n 0, 1) := by decide +kernel
theorem dX9_firsts_16 : decode cX9_firsts 16 = .ok (.getfield 46, 3) := by decide +kernel
theorem dX9_firsts_19 : decode cX9_firsts 19 = .ok (.iload_n 1, 1) := by decide +kernel
theorem dX9_firsts_20 : decode cX9_firsts 20 = .ok (.aaload, 1) := by decide +kernel
theorem dX9_firsts_21 : decode cX9_firsts 21 = .ok (.invokevirtual 266, 3) := by decide +kernel
theorem dX9_possibleFirsts_0 : decode cX9_possibleFirsts 0 = .ok (.aload_n 0, 1) := by decide +kernel
theorem dX9_possibleFirsts_1 : decode cX9_possibleFirsts 1 = .ok (.invokevirtual 227, 3) := by decide +kernel
theorem dX9_possibleFirsts_4 : decode cX9_possibleFirsts 4 = .ok (.iconst 0, 1) := by decide +kernel
theorem dX9_possibleFirsts_5 : decode cX9_possibleFirsts 5 = .ok (.istore_n 2, 1) := by decide +kernel
theorem dX9_possibleFirsts_6 : decode cX9_possibleFirsts 6 = .ok (.iconst 0, 1) := by decide +kernel
theorem dX9_possibleFirsts_7 : decode cX9_possibleFirsts 7 = .ok (.istore_n 3, 1) := by decide +kernel
theorem dX9_possibleFirsts_8 : decode cX9_possibleFirsts 8 = .ok (.iload_n 3, 1) := by decide +kernel
theorem dX9_possibleFirsts_9 : decode cX9_possibleFirsts 9 = .ok (.aload_n 0, 1) := by decide +kernel
theorem dX9_possibleFirsts_10 : decode cX9_possibleFirsts 10 = .ok (.getfield 20, 3) := by decide +kernel
theorem dX9_possibleFirsts_13 : decode cX9_possibleFirsts 13 = .ok (.getfield 133, 3) := by decide +kernel
theorem dX9_possibleFirsts_16 : decode cX9_possibleFirsts 16 = .ok (.getfield 200, 3) := by decide +kernel
theorem dX9_possibleFirsts_19 : decode cX9_possibleFirsts 19 = .ok (.if_icmp .ge 36, 3) := by decide +kernel
theorem dX9_possibleFirsts_55 : decode cX9_possibleFirsts 55 = .ok (.iload_n 2, 1) := by decide +kernel
theorem dX9_possibleFirsts_56 : decode cX9_possibleFirsts 56 = .ok (.ireturn, 1) := by decide +kernel
theorem dX9_possibleFirsts_22 : decode cX9_possibleFirsts 22 = .ok (.aload_n 0, 1) := by decide +kernel
theorem dX9_possibleFirsts_23 : decode cX9_possibleFirsts 23 = .ok (.getfield 64, 3) := by decide +kernel
theorem dX9_possibleFirsts_26 : decode cX9_possibleFirsts 26 = .ok (.aload_n 0, 1) := by decide +kernel
theorem dX9_possibleFirsts_27 : decode cX9_possibleFirsts 27 = .ok (.getfield 54, 3) := by decide +kernel
theorem dX9_possibleFirsts_30 : decode cX9_possibleFirsts 30 = .ok (.iload_n 3, 1) := by decide +kernel
theorem dX9_possibleFirsts_31 : decode cX9_possibleFirsts 31 = .ok (.iconst 0, 1) := by decide +kernel
theorem dX9_possibleFirsts_32 : decode cX9_possibleFirsts 32 = .ok (.invokevirtual 220, 3) := by decide +kernel
theorem dX9_possibleFirsts_35 : decode cX9_possibleFirsts 35 = .ok (.aload_n 0, 1) := by decide +kernel
theorem dX9_possibleFirsts_36 : decode cX9_possibleFirsts 36 = .ok (.aload_n 1, 1) := by decide +kernel
theorem dX9_possibleFirsts_37 : decode cX9_possibleFirsts 37 = .ok (.invokevirtual 292, 3) := by decide +kernel
theorem dX9_agrees_0 : decode cX9_agrees 0 = .ok (.iconst 0, 1) := by decide +kernel
theorem dX9_agrees_1 : decode cX9_agrees 1 = .ok (.istore_n 2, 1) := by decide +kernel
theorem dX9_agrees_2 : decode cX9_agrees 2 = .ok (.iload_n 2, 1) := by decide +kernel
theorem dX9_agrees_3 : decode cX9_agrees 3 = .ok (.iconst 2, 1) := by decide +kernel
theorem dX9_agrees_4 : decode cX9_agrees 4 = .ok (.iadd, 1) := by decide +kernel
theorem dX9_agrees_5 : decode cX9_agrees 5 = .ok (.aload_n 1, 1) := by decide +kernel
theorem dX9_agrees_6 : decode cX9_agrees 6 = .ok (.getfield 282, 3) := by decide +kernel
theorem dX9_agrees_9 : decode cX9_agrees 9 = .ok (.if_icmp .ge 57, 3) := by decide +kernel
theorem dX9_agrees_66 : decode cX9_agrees 66 = .ok (.iconst 1, 1) := by decide +kernel
theorem dX9_agrees_67 : decode cX9_agrees 67 = .ok (.ireturn, 1) := by decide +kernel
theorem dX9_agrees_12 : decode cX9_agrees 12 = .ok (.aload_n 0, 1) := by decide +kernel
theorem dX9_agrees_13 : decode cX9_agrees 13 = .ok (.getfield 64, 3) := by decide +kernel
theorem dX9_agrees_16 : decode cX9_agrees 16 = .ok (.aload_n 1, 1) := by decide +kernel
theorem dX9_agrees_17 : decode cX9_agrees 17 = .ok (.iload_n 2, 1) := by decide +kernel
theorem dX9_agrees_18 : decode cX9_agrees 18 = .ok (.iconst 1, 1) := by decide +kernel
theorem dX9_agrees_19 : decode cX9_agrees 19 = .ok (.iadd, 1) := by decide +kernel
theorem dX9_agrees_20 : decode cX9_agrees 20 = .ok (.invokevirtual 285, 3) := by decide +kernel
theorem dX9_agrees_23 : decode cX9_agrees 23 = .ok (.l2i, 1) := by decide +kernel
theorem dX9_agrees_24 : decode cX9_agrees 24 = .ok (.invokevirtual 224, 3) := by decide +kernel
theorem dX9_agrees_27 : decode cX9_agrees 27 = .ok (.istore_n 3, 1) := by decide +kernel
theorem dX9_agrees_28 : decode cX9_agrees 28 = .ok (.iload_n 3, 1) := by decide +kernel
theorem dX9_agrees_29 : decode cX9_agrees 29 = .ok (.aload_n 1, 1) := by decide +kernel
theorem dX9_agrees_30 : decode cX9_agrees 30 = .ok (.iload_n 2, 1) := by decide +kernel
theorem dX9_agrees_31 : decode cX9_agrees 31 = .ok (.invokevirtual 285, 3) := by decide +kernel
theorem dX9_agrees_34 : decode cX9_agrees 34 = .ok (.l2i, 1) := by decide +kernel
theorem dX9_agrees_35 : decode cX9_agrees 35 = .ok (.invokestatic 175, 3) := by decide +kernel
theorem dX9_agrees_38 : decode cX9_agrees 38 = .ok (.aload_n 1, 1) := by decide +kernel
theorem dX9_agrees_39 : decode cX9_agrees 39 = .ok (.iload_n 2, 1) := by decide +kernel
theorem dX9_agrees_40 : decode cX9_agrees 40 = .ok (.iconst 2, 1) := by decide +kernel
theorem dX9_agrees_41 : decode cX9_agrees 41 = .ok (.iadd, 1) := by decide +kernel
theorem dX9_agrees_42 : decode cX9_agrees 42 = .ok (.invokevirtual 285, 3) := by decide +kernel
theorem dX9_agrees_45 : decode cX9_agrees 45 = .ok (.lconst 1, 1) := by decide +kernel
theorem dX9_agrees_46 : decode cX9_agrees 46 = .ok (.lcmp, 1) := by decide +kernel
theorem dX9_agrees_47 : decode cX9_agrees 47 = .ok (.ifCond .ne 7, 3) := by decide +kernel
theorem dX9_agrees_54 : decode cX9_agrees 54 = .ok (.iconst 0, 1) := by decide +kernel
theorem dX9_agrees_55 : decode cX9_agrees 55 = .ok (.if_icmp .eq 5, 3) := by decide +kernel
theorem dX9_agrees_60 : decode cX9_agrees 60 = .ok (.iinc 2 3, 3) := by decide +kernel
theorem dX9_agrees_63 : decode cX9_agrees 63 = .ok (.goto (-61), 3) := by decide +kernel
theorem dX9_agrees_58 : decode cX9_agrees 58 = .ok (.iconst 0, 1) := by decide +kernel
theorem dX9_agrees_59 : decode cX9_agrees 59 = .ok (.ireturn, 1) := by decide +kernel
theorem dX9_agrees_50 : decode cX9_agrees 50 = .ok (.iconst 1, 1) := by decide +kernel
theorem dX9_agrees_51 : decode cX9_agrees 51 = .ok (.goto 4, 3) := by decide +kernel
theorem dX9_possibleFirsts_40 : decode cX9_possibleFirsts 40 = .ok (.ifCond .eq 9, 3) := by decide +kernel
theorem dX9_possibleFirsts_49 : decode cX9_possibleFirsts 49 = .ok (.iinc 3 1, 3) := by decide +kernel
theorem dX9_possibleFirsts_52 : decode cX9_possibleFirsts 52 = .ok (.goto (-44), 3) := by decide +kernel
theorem dX9_possibleFirsts_43 : decode cX9_possibleFirsts 43 = .ok (.iload_n 2, 1) := by decide +kernel
theorem dX9_possibleFirsts_44 : decode cX9_possibleFirsts 44 = .ok (.iconst 1, 1) := by decide +kernel
theorem dX9_possibleFirsts_45 : decode cX9_possibleFirsts 45 = .ok (.iload_n 3, 1) := by decide +kernel
theorem dX9_possibleFirsts_46 : decode cX9_possibleFirsts 46 = .ok (.ishl, 1) := by decide +kernel
theorem dX9_possibleFirsts_47 : decode cX9_possibleFirsts 47 = .ok (.ior, 1) := by decide +kernel
theorem dX9_possibleFirsts_48 : decode cX9_possibleFirsts 48 = .ok (.istore_n 2, 1) := by decide +kernel
theorem dX9_firsts_24 : decode cX9_firsts 24 = .ok (.ireturn, 1) := by decide +kernel
theorem dX9_firsts_10 : decode cX9_firsts 10 = .ok (.iload_n 2, 1) := by decide +kernel
theorem dX9_firsts_11 : decode cX9_firsts 11 = .ok (.goto 13, 3) := by decide +kernel
theorem dX9_ask_0 : decode cX9_ask 0 = .ok (.aload_n 0, 1) := by decide +kernel
theorem dX9_ask_1 : decode cX9_ask 1 = .ok (.iload_n 1, 1) := by decide +kernel
theorem dX9_ask_2 : decode cX9_ask 2 = .ok (.invokevirtual 263, 3) := by decide +kernel
theorem dX9_ask_5 : decode cX9_ask 5 = .ok (.istore_n 2, 1) := by decide +kernel
theorem dX9_ask_6 : decode cX9_ask 6 = .ok (.iload_n 2, 1) := by decide +kernel
theorem dX9_ask_7 : decode cX9_ask 7 = .ok (.ifCond .eq 7, 3) := by decide +kernel
theorem dX9_ask_14 : decode cX9_ask 14 = .ok (.aload_n 0, 1) := by decide +kernel
theorem dX9_ask_15 : decode cX9_ask 15 = .ok (.aload_n 0, 1) := by decide +kernel
theorem dX9_ask_16 : decode cX9_ask 16 = .ok (.aload_n 0, 1) := by decide +kernel
theorem dX9_ask_17 : decode cX9_ask 17 = .ok (.getfield 46, 3) := by decide +kernel
theorem dX9_ask_20 : decode cX9_ask 20 = .ok (.iload_n 1, 1) := by decide +kernel
theorem dX9_ask_21 : decode cX9_ask 21 = .ok (.aaload, 1) := by decide +kernel
theorem dX9_ask_22 : decode cX9_ask 22 = .ok (.invokevirtual 266, 3) := by decide +kernel
theorem dX9_ask_25 : decode cX9_ask 25 = .ok (.invokevirtual 270, 3) := by decide +kernel
theorem dX9_bestAsked_0 : decode cX9_bestAsked 0 = .ok (.iconst (-1), 1) := by decide +kernel
theorem dX9_bestAsked_1 : decode cX9_bestAsked 1 = .ok (.istore_n 2, 1) := by decide +kernel
theorem dX9_bestAsked_2 : decode cX9_bestAsked 2 = .ok (.iload_n 1, 1) := by decide +kernel
theorem dX9_bestAsked_3 : decode cX9_bestAsked 3 = .ok (.invokestatic 203, 3) := by decide +kernel
theorem dX9_bestAsked_6 : decode cX9_bestAsked 6 = .ok (.istore_n 3, 1) := by decide +kernel
theorem dX9_bestAsked_7 : decode cX9_bestAsked 7 = .ok (.iconst 0, 1) := by decide +kernel
theorem dX9_bestAsked_8 : decode cX9_bestAsked 8 = .ok (.istore 4, 2) := by decide +kernel
theorem dX9_bestAsked_10 : decode cX9_bestAsked 10 = .ok (.iload 4, 2) := by decide +kernel
theorem dX9_bestAsked_12 : decode cX9_bestAsked 12 = .ok (.aload_n 0, 1) := by decide +kernel
theorem dX9_bestAsked_13 : decode cX9_bestAsked 13 = .ok (.getfield 20, 3) := by decide +kernel
theorem dX9_bestAsked_16 : decode cX9_bestAsked 16 = .ok (.getfield 133, 3) := by decide +kernel
theorem dX9_bestAsked_19 : decode cX9_bestAsked 19 = .ok (.getfield 200, 3) := by decide +kernel
theorem dX9_bestAsked_22 : decode cX9_bestAsked 22 = .ok (.if_icmp .ge 30, 3) := by decide +kernel
theorem dX9_bestAsked_52 : decode cX9_bestAsked 52 = .ok (.iload_n 2, 1) := by decide +kernel
theorem dX9_bestAsked_53 : decode cX9_bestAsked 53 = .ok (.ireturn, 1) := by decide +kernel
theorem dX9_bestAsked_25 : decode cX9_bestAsked 25 = .ok (.aload_n 0, 1) := by decide +kernel
theorem dX9_bestAsked_26 : decode cX9_bestAsked 26 = .ok (.iload_n 1, 1) := by decide +kernel
theorem dX9_bestAsked_27 : decode cX9_bestAsked 27 = .ok (.iload 4, 2) := by decide +kernel
theorem dX9_bestAsked_29 : decode cX9_bestAsked 29 = .ok (.invokevirtual 273, 3) := by decide +kernel
theorem dX9_leftAtWorst_0 : decode cX9_leftAtWorst 0 = .ok (.aload_n 0, 1) := by decide +kernel
theorem dX9_leftAtWorst_1 : decode cX9_leftAtWorst 1 = .ok (.getfield 89, 3) := by decide +kernel
theorem dX9_leftAtWorst_4 : decode cX9_leftAtWorst 4 = .ok (.iconst 0, 1) := by decide +kernel
theorem dX9_leftAtWorst_5 : decode cX9_leftAtWorst 5 = .ok (.invokestatic 296, 3) := by decide +kernel
theorem dX9_leftAtWorst_8 : decode cX9_leftAtWorst 8 = .ok (.iconst 0, 1) := by decide +kernel
theorem dX9_leftAtWorst_9 : decode cX9_leftAtWorst 9 = .ok (.istore_n 3, 1) := by decide +kernel
theorem dX9_leftAtWorst_10 : decode cX9_leftAtWorst 10 = .ok (.iconst 0, 1) := by decide +kernel
theorem dX9_leftAtWorst_11 : decode cX9_leftAtWorst 11 = .ok (.istore 4, 2) := by decide +kernel
theorem dX9_leftAtWorst_13 : decode cX9_leftAtWorst 13 = .ok (.iload 4, 2) := by decide +kernel
theorem dX9_leftAtWorst_15 : decode cX9_leftAtWorst 15 = .ok (.aload_n 0, 1) := by decide +kernel
theorem dX9_leftAtWorst_16 : decode cX9_leftAtWorst 16 = .ok (.getfield 20, 3) := by decide +kernel
theorem dX9_leftAtWorst_19 : decode cX9_leftAtWorst 19 = .ok (.getfield 133, 3) := by decide +kernel
theorem dX9_leftAtWorst_22 : decode cX9_leftAtWorst 22 = .ok (.getfield 200, 3) := by decide +kernel
theorem dX9_leftAtWorst_25 : decode cX9_leftAtWorst 25 = .ok (.if_icmp .ge 67, 3) := by decide +kernel
theorem dX9_leftAtWorst_92 : decode cX9_leftAtWorst 92 = .ok (.iload_n 3, 1) := by decide +kernel
theorem dX9_leftAtWorst_93 : decode cX9_leftAtWorst 93 = .ok (.ireturn, 1) := by decide +kernel
theorem dX9_leftAtWorst_28 : decode cX9_leftAtWorst 28 = .ok (.iload_n 1, 1) := by decide +kernel
theorem dX9_leftAtWorst_29 : decode cX9_leftAtWorst 29 = .ok (.iload 4, 2) := by decide +kernel
theorem dX9_leftAtWorst_31 : decode cX9_leftAtWorst 31 = .ok (.invokestatic 175, 3) := by decide +kernel
theorem dX9_leftAtWorst_34 : decode cX9_leftAtWorst 34 = .ok (.ifCond .eq 52, 3) := by decide +kernel
theorem dX9_leftAtWorst_86 : decode cX9_leftAtWorst 86 = .ok (.iinc 4 1, 3) := by decide +kernel
theorem dX9_leftAtWorst_89 : decode cX9_leftAtWorst 89 = .ok (.goto (-76), 3) := by decide +kernel
theorem dX9_leftAtWorst_37 : decode cX9_leftAtWorst 37 = .ok (.aload_n 0, 1) := by decide +kernel
theorem dX9_leftAtWorst_38 : decode cX9_leftAtWorst 38 = .ok (.getfield 64, 3) := by decide +kernel
theorem dX9_leftAtWorst_41 : decode cX9_leftAtWorst 41 = .ok (.aload_n 0, 1) := by decide +kernel
theorem dX9_leftAtWorst_42 : decode cX9_leftAtWorst 42 = .ok (.getfield 54, 3) := by decide +kernel
theorem dX9_leftAtWorst_45 : decode cX9_leftAtWorst 45 = .ok (.iload 4, 2) := by decide +kernel
theorem dX9_leftAtWorst_47 : decode cX9_leftAtWorst 47 = .ok (.iconst 0, 1) := by decide +kernel
theorem dX9_leftAtWorst_48 : decode cX9_leftAtWorst 48 = .ok (.invokevirtual 220, 3) := by decide +kernel
theorem dX9_leftAtWorst_51 : decode cX9_leftAtWorst 51 = .ok (.aload_n 0, 1) := by decide +kernel
theorem dX9_leftAtWorst_52 : decode cX9_leftAtWorst 52 = .ok (.getfield 64, 3) := by decide +kernel
theorem dX9_leftAtWorst_55 : decode cX9_leftAtWorst 55 = .ok (.iload_n 2, 1) := by decide +kernel
theorem dX9_leftAtWorst_56 : decode cX9_leftAtWorst 56 = .ok (.invokevirtual 237, 3) := by decide +kernel
theorem dX9_leftAtWorst_59 : decode cX9_leftAtWorst 59 = .ok (.iconst 1, 1) := by decide +kernel
theorem dX9_leftAtWorst_60 : decode cX9_leftAtWorst 60 = .ok (.iadd, 1) := by decide +kernel
theorem dX9_leftAtWorst_61 : decode cX9_leftAtWorst 61 = .ok (.istore 5, 2) := by decide +kernel
theorem dX9_leftAtWorst_63 : decode cX9_leftAtWorst 63 = .ok (.aload_n 0, 1) := by decide +kernel
theorem dX9_leftAtWorst_64 : decode cX9_leftAtWorst 64 = .ok (.getfield 89, 3) := by decide +kernel
theorem dX9_leftAtWorst_67 : decode cX9_leftAtWorst 67 = .ok (.iload 5, 2) := by decide +kernel
theorem dX9_leftAtWorst_69 : decode cX9_leftAtWorst 69 = .ok (.dup2, 1) := by decide +kernel
theorem dX9_leftAtWorst_70 : decode cX9_leftAtWorst 70 = .ok (.iaload, 1) := by decide +kernel
theorem dX9_leftAtWorst_71 : decode cX9_leftAtWorst 71 = .ok (.iconst 1, 1) := by decide +kernel
theorem dX9_leftAtWorst_72 : decode cX9_leftAtWorst 72 = .ok (.iadd, 1) := by decide +kernel
theorem dX9_leftAtWorst_73 : decode cX9_leftAtWorst 73 = .ok (.iastore, 1) := by decide +kernel
theorem dX9_leftAtWorst_74 : decode cX9_leftAtWorst 74 = .ok (.iload_n 3, 1) := by decide +kernel
theorem dX9_leftAtWorst_75 : decode cX9_leftAtWorst 75 = .ok (.aload_n 0, 1) := by decide +kernel
theorem dX9_leftAtWorst_76 : decode cX9_leftAtWorst 76 = .ok (.getfield 89, 3) := by decide +kernel
theorem dX9_leftAtWorst_79 : decode cX9_leftAtWorst 79 = .ok (.iload 5, 2) := by decide +kernel
theorem dX9_leftAtWorst_81 : decode cX9_leftAtWorst 81 = .ok (.iaload, 1) := by decide +kernel
theorem dX9_leftAtWorst_82 : decode cX9_leftAtWorst 82 = .ok (.invokestatic 191, 3) := by decide +kernel
theorem dX9_leftAtWorst_85 : decode cX9_leftAtWorst 85 = .ok (.istore_n 3, 1) := by decide +kernel
theorem dX9_bestAsked_32 : decode cX9_bestAsked 32 = .ok (.istore 5, 2) := by decide +kernel
theorem dX9_bestAsked_34 : decode cX9_bestAsked 34 = .ok (.iload 5, 2) := by decide +kernel
theorem dX9_bestAsked_36 : decode cX9_bestAsked 36 = .ok (.iload_n 3, 1) := by decide +kernel
theorem dX9_bestAsked_37 : decode cX9_bestAsked 37 = .ok (.if_icmp .ge 9, 3) := by decide +kernel
theorem dX9_bestAsked_46 : decode cX9_bestAsked 46 = .ok (.iinc 4 1, 3) := by decide +kernel
theorem dX9_bestAsked_49 : decode cX9_bestAsked 49 = .ok (.goto (-39), 3) := by decide +kernel
theorem dX9_bestAsked_40 : decode cX9_bestAsked 40 = .ok (.iload 5, 2) := by decide +kernel
theorem dX9_bestAsked_42 : decode cX9_bestAsked 42 = .ok (.istore_n 3, 1) := by decide +kernel
theorem dX9_bestAsked_43 : decode cX9_bestAsked 43 = .ok (.iload 4, 2) := by decide +kernel
theorem dX9_bestAsked_45 : decode cX9_bestAsked 45 = .ok (.istore_n 2, 1) := by decide +kernel
theorem dX9_ask_28 : decode cX9_ask 28 = .ok (.ireturn, 1) := by decide +kernel
theorem dX9_ask_10 : decode cX9_ask 10 = .ok (.iload_n 2, 1) := by decide +kernel
theorem dX9_ask_11 : decode cX9_ask 11 = .ok (.goto 17, 3) := by decide +kernel
theorem dX9_leaves_0 : decode cX9_leaves 0 = .ok (.aload_n 0, 1) := by decide +kernel
theorem dX9_leaves_1 : decode cX9_leaves 1 = .ok (.iload_n 1, 1) := by decide +kernel
theorem dX9_leaves_2 : decode cX9_leaves 2 = .ok (.invokevirtual 263, 3) := by decide +kernel
theorem dX9_leaves_5 : decode cX9_leaves 5 = .ok (.istore_n 2, 1) := by decide +kernel
theorem dX9_leaves_6 : decode cX9_leaves 6 = .ok (.iload_n 2, 1) := by decide +kernel
theorem dX9_leaves_7 : decode cX9_leaves 7 = .ok (.ifCond .eq 5, 3) := by decide +kernel
theorem dX9_leaves_12 : decode cX9_leaves 12 = .ok (.aload_n 0, 1) := by decide +kernel
theorem dX9_leaves_13 : decode cX9_leaves 13 = .ok (.aload_n 0, 1) := by decide +kernel
theorem dX9_leaves_14 : decode cX9_leaves 14 = .ok (.getfield 46, 3) := by decide +kernel
theorem dX9_leaves_17 : decode cX9_leaves 17 = .ok (.iload_n 1, 1) := by decide +kernel
theorem dX9_leaves_18 : decode cX9_leaves 18 = .ok (.aaload, 1) := by decide +kernel
theorem dX9_leaves_19 : decode cX9_leaves 19 = .ok (.invokevirtual 266, 3) := by decide +kernel
theorem dX9_leaves_22 : decode cX9_leaves 22 = .ok (.istore_n 3, 1) := by decide +kernel
theorem dX9_leaves_23 : decode cX9_leaves 23 = .ok (.aload_n 0, 1) := by decide +kernel
theorem dX9_leaves_24 : decode cX9_leaves 24 = .ok (.iload_n 3, 1) := by decide +kernel
theorem dX9_leaves_25 : decode cX9_leaves 25 = .ok (.invokevirtual 270, 3) := by decide +kernel
theorem dX9_leaves_28 : decode cX9_leaves 28 = .ok (.istore 4, 2) := by decide +kernel
theorem dX9_leaves_30 : decode cX9_leaves 30 = .ok (.iload 4, 2) := by decide +kernel
theorem dX9_leaves_32 : decode cX9_leaves 32 = .ok (.iconst (-1), 1) := by decide +kernel
theorem dX9_leaves_33 : decode cX9_leaves 33 = .ok (.if_icmp .ne 10, 3) := by decide +kernel
theorem dX9_leaves_43 : decode cX9_leaves 43 = .ok (.aload_n 0, 1) := by decide +kernel
theorem dX9_leaves_44 : decode cX9_leaves 44 = .ok (.iload_n 3, 1) := by decide +kernel
theorem dX9_leaves_45 : decode cX9_leaves 45 = .ok (.iload 4, 2) := by decide +kernel
theorem dX9_leaves_47 : decode cX9_leaves 47 = .ok (.invokevirtual 273, 3) := by decide +kernel
theorem dX9_leaves_50 : decode cX9_leaves 50 = .ok (.ireturn, 1) := by decide +kernel
theorem dX9_leaves_36 : decode cX9_leaves 36 = .ok (.iload_n 3, 1) := by decide +kernel
theorem dX9_leaves_37 : decode cX9_leaves 37 = .ok (.invokestatic 203, 3) := by decide +kernel
theorem dX9_leaves_40 : decode cX9_leaves 40 = .ok (.goto 10, 3) := by decide +kernel
theorem dX9_leaves_10 : decode cX9_leaves 10 = .ok (.iload_n 2, 1) := by decide +kernel
theorem dX9_leaves_11 : decode cX9_leaves 11 = .ok (.ireturn, 1) := by decide +kernel
theorem dX9_seats_0 : decode cX9_seats 0 = .ok (.aload_n 0, 1) := by decide +kernel
theorem dX9_seats_1 : decode cX9_seats 1 = .ok (.getfield 20, 3) := by decide +kernel
theorem dX9_seats_4 : decode cX9_seats 4 = .ok (.iload_n 1, 1) := by decide +kernel
theorem dX9_seats_5 : decode cX9_seats 5 = .ok (.invokevirtual 139, 3) := by decide +kernel
theorem dX9_seats_8 : decode cX9_seats 8 = .ok (.ifCond .eq 14, 3) := by decide +kernel
theorem dX9_seats_22 : decode cX9_seats 22 = .ok (.bipush (-2), 2) := by decide +kernel
theorem dX9_seats_24 : decode cX9_seats 24 = .ok (.ireturn, 1) := by decide +kernel
theorem dX9_seats_11 : decode cX9_seats 11 = .ok (.aload_n 0, 1) := by decide +kernel
theorem dX9_seats_12 : decode cX9_seats 12 = .ok (.getfield 20, 3) := by decide +kernel
theorem dX9_seats_15 : decode cX9_seats 15 = .ok (.iload_n 1, 1) := by decide +kernel
theorem dX9_seats_16 : decode cX9_seats 16 = .ok (.invokevirtual 302, 3) := by decide +kernel
theorem dX9_seats_19 : decode cX9_seats 19 = .ok (.goto 5, 3) := by decide +kernel
theorem dX9_under_0 : decode cX9_under 0 = .ok (.aload_n 0, 1) := by decide +kernel
theorem dX9_under_1 : decode cX9_under 1 = .ok (.getfield 20, 3) := by decide +kernel
theorem dX9_under_4 : decode cX9_under 4 = .ok (.iload_n 1, 1) := by decide +kernel
theorem dX9_under_5 : decode cX9_under 5 = .ok (.invokevirtual 139, 3) := by decide +kernel
theorem dX9_under_8 : decode cX9_under 8 = .ok (.ifCond .eq 14, 3) := by decide +kernel
theorem dX9_under_22 : decode cX9_under 22 = .ok (.bipush (-2), 2) := by decide +kernel
theorem dX9_under_24 : decode cX9_under 24 = .ok (.ireturn, 1) := by decide +kernel
theorem dX9_under_11 : decode cX9_under 11 = .ok (.aload_n 0, 1) := by decide +kernel
theorem dX9_under_12 : decode cX9_under 12 = .ok (.getfield 20, 3) := by decide +kernel
theorem dX9_under_15 : decode cX9_under 15 = .ok (.iload_n 1, 1) := by decide +kernel
theorem dX9_under_16 : decode cX9_under 16 = .ok (.invokevirtual 305, 3) := by decide +kernel
theorem dX0_ministersUnder_0 : decode cX0_ministersUnder 0 = .ok (.iconst 0, 1) := by decide +kernel
theorem dX0_ministersUnder_1 : decode cX0_ministersUnder 1 = .ok (.istore_n 2, 1) := by decide +kernel
theorem dX0_ministersUnder_2 : decode cX0_ministersUnder 2 = .ok (.iconst 0, 1) := by decide +kernel
theorem dX0_ministersUnder_3 : decode cX0_ministersUnder 3 = .ok (.istore_n 3, 1) := by decide +kernel
theorem dX0_ministersUnder_4 : decode cX0_ministersUnder 4 = .ok (.iload_n 3, 1) := by decide +kernel
theorem dX0_ministersUnder_5 : decode cX0_ministersUnder 5 = .ok (.aload_n 0, 1) := by decide +kernel
theorem dX0_ministersUnder_6 : decode cX0_ministersUnder 6 = .ok (.getfield 23, 3) := by decide +kernel
theorem dX0_ministersUnder_9 : decode cX0_ministersUnder 9 = .ok (.getfield 67, 3) := by decide +kernel
theorem dX0_ministersUnder_12 : decode cX0_ministersUnder 12 = .ok (.if_icmp .ge 28, 3) := by decide +kernel
theorem dX0_ministersUnder_40 : decode cX0_ministersUnder 40 = .ok (.iload_n 2, 1) := by decide +kernel
theorem dX0_ministersUnder_41 : decode cX0_ministersUnder 41 = .ok (.ireturn, 1) := by decide +kernel
theorem dX0_ministersUnder_15 : decode cX0_ministersUnder 15 = .ok (.aload_n 0, 1) := by decide +kernel
theorem dX0_ministersUnder_16 : decode cX0_ministersUnder 16 = .ok (.getfield 23, 3) := by decide +kernel
theorem dX0_ministersUnder_19 : decode cX0_ministersUnder 19 = .ok (.iload_n 3, 1) := by decide +kernel
theorem dX0_ministersUnder_20 : decode cX0_ministersUnder 20 = .ok (.iconst 0, 1) := by decide +kernel
theorem dX0_ministersUnder_21 : decode cX0_ministersUnder 21 = .ok (.invokevirtual 70, 3) := by decide +kernel
theorem dX0_ministersUnder_24 : decode cX0_ministersUnder 24 = .ok (.iload_n 1, 1) := by decide +kernel
theorem dX0_ministersUnder_25 : decode cX0_ministersUnder 25 = .ok (.if_icmp .ne 9, 3) := by decide +kernel
theorem dX0_ministersUnder_34 : decode cX0_ministersUnder 34 = .ok (.iinc 3 1, 3) := by decide +kernel
theorem dX0_ministersUnder_37 : decode cX0_ministersUnder 37 = .ok (.goto (-33), 3) := by decide +kernel
theorem dX0_ministersUnder_28 : decode cX0_ministersUnder 28 = .ok (.iload_n 2, 1) := by decide +kernel
theorem dX0_ministersUnder_29 : decode cX0_ministersUnder 29 = .ok (.iconst 1, 1) := by decide +kernel
theorem dX0_ministersUnder_30 : decode cX0_ministersUnder 30 = .ok (.iload_n 3, 1) := by decide +kernel
theorem dX0_ministersUnder_31 : decode cX0_ministersUnder 31 = .ok (.ishl, 1) := by decide +kernel
theorem dX0_ministersUnder_32 : decode cX0_ministersUnder 32 = .ok (.ior, 1) := by decide +kernel
theorem dX0_ministersUnder_33 : decode cX0_ministersUnder 33 = .ok (.istore_n 2, 1) := by decide +kernel
theorem dX9_under_19 : decode cX9_under 19 = .ok (.goto 5, 3) := by decide +kernel
theorem dX9_holds_0 : decode cX9_holds 0 = .ok (.aload_n 0, 1) := by decide +kernel
theorem dX9_holds_1 : decode cX9_holds 1 = .ok (.getfield 20, 3) := by decide +kernel
theorem dX9_holds_4 : decode cX9_holds 4 = .ok (.iload_n 1, 1) := by decide +kernel
theorem dX9_holds_5 : decode cX9_holds 5 = .ok (.invokevirtual 308, 3) := by decide +kernel
theorem dX9_holds_8 : decode cX9_holds 8 = .ok (.ifCond .ne 6, 3) := by decide +kernel
theorem dX9_holds_14 : decode cX9_holds 14 = .ok (.aload_n 0, 1) := by decide +kernel
theorem dX9_holds_15 : decode cX9_holds 15 = .ok (.getfield 78, 3) := by decide +kernel
theorem dX9_holds_18 : decode cX9_holds 18 = .ok (.aload_n 0, 1) := by decide +kernel
theorem dX9_holds_19 : decode cX9_holds 19 = .ok (.getfield 20, 3) := by decide +kernel
theorem dX9_holds_22 : decode cX9_holds 22 = .ok (.invokevirtual 311, 3) := by decide +kernel
theorem dX9_holds_25 : decode cX9_holds 25 = .ok (.aload_n 0, 1) := by decide +kernel
theorem dX9_holds_26 : decode cX9_holds 26 = .ok (.getfield 78, 3) := by decide +kernel
theorem dX9_holds_29 : decode cX9_holds 29 = .ok (.iload_n 1, 1) := by decide +kernel
theorem dX9_holds_30 : decode cX9_holds 30 = .ok (.invokevirtual 314, 3) := by decide +kernel
theorem dX9_holds_33 : decode cX9_holds 33 = .ok (.ifCond .eq 7, 3) := by decide +kernel
theorem dX9_holds_40 : decode cX9_holds 40 = .ok (.iconst 0, 1) := by decide +kernel
theorem dX9_holds_41 : decode cX9_holds 41 = .ok (.ireturn, 1) := by decide +kernel
theorem dX9_holds_36 : decode cX9_holds 36 = .ok (.iconst 1, 1) := by decide +kernel
theorem dX9_holds_37 : decode cX9_holds 37 = .ok (.goto 4, 3) := by decide +kernel
theorem dX9_holds_11 : decode cX9_holds 11 = .ok (.bipush (-2), 2) := by decide +kernel
theorem dX9_holds_13 : decode cX9_holds 13 = .ok (.ireturn, 1) := by decide +kernel
theorem dX9_power_0 : decode cX9_power 0 = .ok (.aload_n 0, 1) := by decide +kernel
theorem dX9_power_1 : decode cX9_power 1 = .ok (.getfield 20, 3) := by decide +kernel
theorem dX9_power_4 : decode cX9_power 4 = .ok (.iload_n 1, 1) := by decide +kernel
theorem dX9_power_5 : decode cX9_power 5 = .ok (.invokevirtual 139, 3) := by decide +kernel
theorem dX9_power_8 : decode cX9_power 8 = .ok (.ifCond .ne 6, 3) := by decide +kernel
theorem dX9_power_14 : decode cX9_power 14 = .ok (.aload_n 0, 1) := by decide +kernel
theorem dX9_power_15 : decode cX9_power 15 = .ok (.getfield 78, 3) := by decide +kernel
theorem dX9_power_18 : decode cX9_power 18 = .ok (.aload_n 0, 1) := by decide +kernel
theorem dX9_power_19 : decode cX9_power 19 = .ok (.getfield 20, 3) := by decide +kernel
theorem dX9_power_22 : decode cX9_power 22 = .ok (.invokevirtual 311, 3) := by decide +kernel
theorem dX9_power_25 : decode cX9_power 25 = .ok (.aload_n 0, 1) := by decide +kernel
theorem dX9_power_26 : decode cX9_power 26 = .ok (.getfield 78, 3) := by decide +kernel
theorem dX9_power_29 : decode cX9_power 29 = .ok (.iload_n 1, 1) := by decide +kernel
theorem dX9_power_30 : decode cX9_power 30 = .ok (.invokevirtual 317, 3) := by decide +kernel
theorem dX9_power_33 : decode cX9_power 33 = .ok (.ireturn, 1) := by decide +kernel
theorem dX9_power_11 : decode cX9_power 11 = .ok (.bipush (-2), 2) := by decide +kernel
theorem dX9_power_13 : decode cX9_power 13 = .ok (.ireturn, 1) := by decide +kernel
theorem dX9_part_0 : decode cX9_part 0 = .ok (.aload_n 0, 1) := by decide +kernel
theorem dX9_part_1 : decode cX9_part 1 = .ok (.getfield 20, 3) := by decide +kernel
theorem dX9_part_4 : decode cX9_part 4 = .ok (.iload_n 1, 1) := by decide +kernel
theorem dX9_part_5 : decode cX9_part 5 = .ok (.invokevirtual 139, 3) := by decide +kernel
theorem dX9_part_8 : decode cX9_part 8 = .ok (.ifCond .eq 10, 3) := by decide +kernel
theorem dX9_part_18 : decode cX9_part 18 = .ok (.bipush (-2), 2) := by decide +kernel
theorem dX9_part_20 : decode cX9_part 20 = .ok (.ireturn, 1) := by decide +kernel
theorem dX9_part_11 : decode cX9_part 11 = .ok (.iload_n 2, 1) := by decide +kernel
theorem dX9_part_12 : decode cX9_part 12 = .ok (.invokestatic 320, 3) := by decide +kernel
theorem dX9_isPart_0 : decode cX9_isPart 0 = .ok (.iload_n 0, 1) := by decide +kernel
theorem dX9_isPart_1 : decode cX9_isPart 1 = .ok (.ifCond .eq 8, 3) := by decide +kernel
theorem dX9_isPart_9 : decode cX9_isPart 9 = .ok (.iconst 1, 1) := by decide +kernel
theorem dX9_isPart_10 : decode cX9_isPart 10 = .ok (.goto 4, 3) := by decide +kernel
theorem dX9_isPart_14 : decode cX9_isPart 14 = .ok (.ireturn, 1) := by decide +kernel
theorem dX9_isPart_4 : decode cX9_isPart 4 = .ok (.iload_n 0, 1) := by decide +kernel
theorem dX9_isPart_5 : decode cX9_isPart 5 = .ok (.iconst 1, 1) := by decide +kernel
theorem dX9_isPart_6 : decode cX9_isPart 6 = .ok (.if_icmp .ne 7, 3) := by decide +kernel
theorem dX9_isPart_13 : decode cX9_isPart 13 = .ok (.iconst 0, 1) := by decide +kernel
theorem dX9_part_15 : decode cX9_part 15 = .ok (.ifCond .ne 6, 3) := by decide +kernel
theorem dX9_part_21 : decode cX9_part 21 = .ok (.aload_n 0, 1) := by decide +kernel
theorem dX9_part_22 : decode cX9_part 22 = .ok (.getfield 20, 3) := by decide +kernel
theorem dX9_part_25 : decode cX9_part 25 = .ok (.getfield 136, 3) := by decide +kernel
theorem dX9_part_28 : decode cX9_part 28 = .ok (.getfield 200, 3) := by decide +kernel
theorem dX9_part_31 : decode cX9_part 31 = .ok (.ifCond .ne 5, 3) := by decide +kernel
theorem dX9_part_36 : decode cX9_part 36 = .ok (.aload_n 0, 1) := by decide +kernel
theorem dX9_part_37 : decode cX9_part 37 = .ok (.getfield 78, 3) := by decide +kernel
theorem dX9_part_40 : decode cX9_part 40 = .ok (.aload_n 0, 1) := by decide +kernel
theorem dX9_part_41 : decode cX9_part 41 = .ok (.getfield 20, 3) := by decide +kernel
theorem dX9_part_44 : decode cX9_part 44 = .ok (.invokevirtual 311, 3) := by decide +kernel
theorem dX9_part_47 : decode cX9_part 47 = .ok (.aload_n 0, 1) := by decide +kernel
theorem dX9_part_48 : decode cX9_part 48 = .ok (.getfield 78, 3) := by decide +kernel
theorem dX9_part_51 : decode cX9_part 51 = .ok (.iconst 1, 1) := by decide +kernel
theorem dX9_part_52 : decode cX9_part 52 = .ok (.iload_n 1, 1) := by decide +kernel
theorem dX9_part_53 : decode cX9_part 53 = .ok (.ishl, 1) := by decide +kernel
theorem dX9_part_54 : decode cX9_part 54 = .ok (.invokevirtual 323, 3) := by decide +kernel
theorem dX9_part_57 : decode cX9_part 57 = .ok (.i2l, 1) := by decide +kernel
theorem dX9_part_58 : decode cX9_part 58 = .ok (.aload_n 0, 1) := by decide +kernel
theorem dX9_part_59 : decode cX9_part 59 = .ok (.getfield 78, 3) := by decide +kernel
theorem dX9_part_62 : decode cX9_part 62 = .ok (.getfield 326, 3) := by decide +kernel
theorem dX9_part_65 : decode cX9_part 65 = .ok (.i2l, 1) := by decide +kernel
theorem dX9_part_66 : decode cX9_part 66 = .ok (.iload_n 2, 1) := by decide +kernel
theorem dX9_part_67 : decode cX9_part 67 = .ok (.invokestatic 329, 3) := by decide +kernel
theorem dX9_lowestTerms_0 : decode cX9_lowestTerms 0 = .ok (.lload_n 0, 1) := by decide +kernel
theorem dX9_lowestTerms_1 : decode cX9_lowestTerms 1 = .ok (.lstore 5, 2) := by decide +kernel
theorem dX9_lowestTerms_3 : decode cX9_lowestTerms 3 = .ok (.lload_n 2, 1) := by decide +kernel
theorem dX9_lowestTerms_4 : decode cX9_lowestTerms 4 = .ok (.lstore 7, 2) := by decide +kernel
theorem dX9_lowestTerms_6 : decode cX9_lowestTerms 6 = .ok (.iconst 0, 1) := by decide +kernel
theorem dX9_lowestTerms_7 : decode cX9_lowestTerms 7 = .ok (.istore 9, 2) := by decide +kernel
theorem dX9_lowestTerms_9 : decode cX9_lowestTerms 9 = .ok (.iload 9, 2) := by decide +kernel
theorem dX9_lowestTerms_11 : decode cX9_lowestTerms 11 = .ok (.sipush 200, 3) := by decide +kernel
theorem dX9_lowestTerms_14 : decode cX9_lowestTerms 14 = .ok (.if_icmp .ge 31, 3) := by decide +kernel
theorem dX9_lowestTerms_17 : decode cX9_lowestTerms 17 = .ok (.lload 7, 2) := by decide +kernel
theorem dX9_lowestTerms_19 : decode cX9_lowestTerms 19 = .ok (.lconst 0, 1) := by decide +kernel
theorem dX9_lowestTerms_20 : decode cX9_lowestTerms 20 = .ok (.lcmp, 1) := by decide +kernel
theorem dX9_lowestTerms_21 : decode cX9_lowestTerms 21 = .ok (.ifCond .eq 24, 3) := by decide +kernel
theorem dX9_lowestTerms_45 : decode cX9_lowestTerms 45 = .ok (.iload 4, 2) := by decide +kernel
theorem dX9_lowestTerms_47 : decode cX9_lowestTerms 47 = .ok (.ifCond .ne 7, 3) := by decide +kernel
theorem dX9_lowestTerms_54 : decode cX9_lowestTerms 54 = .ok (.lload_n 2, 1) := by decide +kernel
theorem dX9_lowestTerms_55 : decode cX9_lowestTerms 55 = .ok (.lstore 9, 2) := by decide +kernel
theorem dX9_lowestTerms_57 : decode cX9_lowestTerms 57 = .ok (.lload 5, 2) := by decide +kernel
theorem dX9_lowestTerms_59 : decode cX9_lowestTerms 59 = .ok (.lconst 0, 1) := by decide +kernel
theorem dX9_lowestTerms_60 : decode cX9_lowestTerms 60 = .ok (.lcmp, 1) := by decide +kernel
theorem dX9_lowestTerms_61 : decode cX9_lowestTerms 61 = .ok (.ifCond .ne 8, 3) := by decide +kernel
theorem dX9_lowestTerms_69 : decode cX9_lowestTerms 69 = .ok (.lload 9, 2) := by decide +kernel
theorem dX9_lowestTerms_71 : decode cX9_lowestTerms 71 = .ok (.lload 5, 2) := by decide +kernel
theorem dX9_lowestTerms_73 : decode cX9_lowestTerms 73 = .ok (.ldiv, 1) := by decide +kernel
theorem dX9_lowestTerms_74 : decode cX9_lowestTerms 74 = .ok (.lreturn, 1) := by decide +kernel
theorem dX9_lowestTerms_64 : decode cX9_lowestTerms 64 = .ok (.lload 9, 2) := by decide +kernel
theorem dX9_lowestTerms_66 : decode cX9_lowestTerms 66 = .ok (.goto 8, 3) := by decide +kernel
theorem dX9_lowestTerms_50 : decode cX9_lowestTerms 50 = .ok (.lload_n 0, 1) := by decide +kernel
theorem dX9_lowestTerms_51 : decode cX9_lowestTerms 51 = .ok (.goto 4, 3) := by decide +kernel
theorem dX9_lowestTerms_24 : decode cX9_lowestTerms 24 = .ok (.lload 5, 2) := by decide +kernel
theorem dX9_lowestTerms_26 : decode cX9_lowestTerms 26 = .ok (.lload 7, 2) := by decide +kernel
theorem dX9_lowestTerms_28 : decode cX9_lowestTerms 28 = .ok (.lrem, 1) := by decide +kernel
theorem dX9_lowestTerms_29 : decode cX9_lowestTerms 29 = .ok (.lstore 10, 2) := by decide +kernel
theorem dX9_lowestTerms_31 : decode cX9_lowestTerms 31 = .ok (.lload 7, 2) := by decide +kernel
theorem dX9_lowestTerms_33 : decode cX9_lowestTerms 33 = .ok (.lstore 5, 2) := by decide +kernel
theorem dX9_lowestTerms_35 : decode cX9_lowestTerms 35 = .ok (.lload 10, 2) := by decide +kernel
theorem dX9_lowestTerms_37 : decode cX9_lowestTerms 37 = .ok (.lstore 7, 2) := by decide +kernel
theorem dX9_lowestTerms_39 : decode cX9_lowestTerms 39 = .ok (.iinc 9 1, 3) := by decide +kernel
theorem dX9_lowestTerms_42 : decode cX9_lowestTerms 42 = .ok (.goto (-33), 3) := by decide +kernel
theorem dX9_part_70 : decode cX9_part 70 = .ok (.l2i, 1) := by decide +kernel
theorem dX9_part_71 : decode cX9_part 71 = .ok (.ireturn, 1) := by decide +kernel
theorem dX9_part_34 : decode cX9_part 34 = .ok (.iconst (-1), 1) := by decide +kernel
theorem dX9_part_35 : decode cX9_part 35 = .ok (.ireturn, 1) := by decide +kernel
theorem dX9_cabinet_0 : decode cX9_cabinet 0 = .ok (.aload_n 0, 1) := by decide +kernel
theorem dX9_cabinet_1 : decode cX9_cabinet 1 = .ok (.getfield 20, 3) := by decide +kernel
theorem dX9_cabinet_4 : decode cX9_cabinet 4 = .ok (.invokevirtual 184, 3) := by decide +kernel
theorem dX9_cabinet_7 : decode cX9_cabinet 7 = .ok (.ifCond .ne 6, 3) := by decide +kernel
theorem dX9_cabinet_13 : decode cX9_cabinet 13 = .ok (.aload_n 0, 1) := by decide +kernel
theorem dX9_cabinet_14 : decode cX9_cabinet 14 = .ok (.getfield 78, 3) := by decide +kernel
theorem dX9_cabinet_17 : decode cX9_cabinet 17 = .ok (.aload_n 0, 1) := by decide +kernel
theorem dX9_cabinet_18 : decode cX9_cabinet 18 = .ok (.getfield 20, 3) := by decide +kernel
theorem dX9_cabinet_21 : decode cX9_cabinet 21 = .ok (.invokevirtual 311, 3) := by decide +kernel
theorem dX9_cabinet_24 : decode cX9_cabinet 24 = .ok (.iconst (-1), 1) := by decide +kernel
theorem dX9_cabinet_25 : decode cX9_cabinet 25 = .ok (.istore_n 1, 1) := by decide +kernel
theorem dX9_cabinet_26 : decode cX9_cabinet 26 = .ok (.bipush 7, 2) := by decide +kernel
theorem dX9_cabinet_28 : decode cX9_cabinet 28 = .ok (.istore_n 2, 1) := by decide +kernel
theorem dX9_cabinet_29 : decode cX9_cabinet 29 = .ok (.iconst 0, 1) := by decide +kernel
theorem dX9_cabinet_30 : decode cX9_cabinet 30 = .ok (.istore_n 3, 1) := by decide +kernel
theorem dX9_cabinet_31 : decode cX9_cabinet 31 = .ok (.iload_n 3, 1) := by decide +kernel
theorem dX9_cabinet_32 : decode cX9_cabinet 32 = .ok (.aload_n 0, 1) := by decide +kernel
theorem dX9_cabinet_33 : decode cX9_cabinet 33 = .ok (.getfield 20, 3) := by decide +kernel
theorem dX9_cabinet_36 : decode cX9_cabinet 36 = .ok (.invokevirtual 240, 3) := by decide +kernel
theorem dX9_cabinet_39 : decode cX9_cabinet 39 = .ok (.if_icmp .gt 35, 3) := by decide +kernel
theorem dX9_cabinet_42 : decode cX9_cabinet 42 = .ok (.aload_n 0, 1) := by decide +kernel
theorem dX9_cabinet_43 : decode cX9_cabinet 43 = .ok (.getfield 78, 3) := by decide +kernel
theorem dX9_cabinet_46 : decode cX9_cabinet 46 = .ok (.iload_n 3, 1) := by decide +kernel
theorem dX9_cabinet_47 : decode cX9_cabinet 47 = .ok (.invokevirtual 314, 3) := by decide +kernel
theorem dX9_cabinet_50 : decode cX9_cabinet 50 = .ok (.ifCond .eq 18, 3) := by decide +kernel
theorem dX9_cabinet_68 : decode cX9_cabinet 68 = .ok (.iinc 3 1, 3) := by decide +kernel
theorem dX9_cabinet_71 : decode cX9_cabinet 71 = .ok (.goto (-40), 3) := by decide +kernel
theorem dX9_cabinet_53 : decode cX9_cabinet 53 = .ok (.iload_n 3, 1) := by decide +kernel
theorem dX9_cabinet_54 : decode cX9_cabinet 54 = .ok (.invokestatic 203, 3) := by decide +kernel
theorem dX9_cabinet_57 : decode cX9_cabinet 57 = .ok (.iload_n 2, 1) := by decide +kernel
theorem dX9_cabinet_58 : decode cX9_cabinet 58 = .ok (.if_icmp .ge 10, 3) := by decide +kernel
theorem dX9_cabinet_61 : decode cX9_cabinet 61 = .ok (.iload_n 3, 1) := by decide +kernel
theorem dX9_cabinet_62 : decode cX9_cabinet 62 = .ok (.invokestatic 203, 3) := by decide +kernel
theorem dX9_cabinet_65 : decode cX9_cabinet 65 = .ok (.istore_n 2, 1) := by decide +kernel
theorem dX9_cabinet_66 : decode cX9_cabinet 66 = .ok (.iload_n 3, 1) := by decide +kernel
theorem dX9_cabinet_67 : decode cX9_cabinet 67 = .ok (.istore_n 1, 1) := by decide +kernel
theorem dX9_cabinet_74 : decode cX9_cabinet 74 = .ok (.iload_n 1, 1) := by decide +kernel
theorem dX9_cabinet_75 : decode cX9_cabinet 75 = .ok (.ireturn, 1) := by decide +kernel
theorem dX9_cabinet_10 : decode cX9_cabinet 10 = .ok (.bipush (-2), 2) := by decide +kernel
theorem dX9_cabinet_12 : decode cX9_cabinet 12 = .ok (.ireturn, 1) := by decide +kernel
theorem dX9_cabinets_0 : decode cX9_cabinets 0 = .ok (.aload_n 0, 1) := by decide +kernel
theorem dX9_cabinets_1 : decode cX9_cabinets 1 = .ok (.getfield 20, 3) := by decide +kernel
theorem dX9_cabinets_4 : decode cX9_cabinets 4 = .ok (.invokevirtual 184, 3) := by decide +kernel
theorem dX9_cabinets_7 : decode cX9_cabinets 7 = .ok (.ifCond .ne 6, 3) := by decide +kernel
theorem dX9_cabinets_13 : decode cX9_cabinets 13 = .ok (.aload_n 0, 1) := by decide +kernel
theorem dX9_cabinets_14 : decode cX9_cabinets 14 = .ok (.getfield 78, 3) := by decide +kernel
theorem dX9_cabinets_17 : decode cX9_cabinets 17 = .ok (.aload_n 0, 1) := by decide +kernel
theorem dX9_cabinets_18 : decode cX9_cabinets 18 = .ok (.getfield 20, 3) := by decide +kernel
theorem dX9_cabinets_21 : decode cX9_cabinets 21 = .ok (.invokevirtual 311, 3) := by decide +kernel
theorem dX9_cabinets_24 : decode cX9_cabinets 24 = .ok (.iconst 0, 1) := by decide +kernel
theorem dX9_cabinets_25 : decode cX9_cabinets 25 = .ok (.istore_n 1, 1) := by decide +kernel
theorem dX9_cabinets_26 : decode cX9_cabinets 26 = .ok (.iconst 0, 1) := by decide +kernel
theorem dX9_cabinets_27 : decode cX9_cabinets 27 = .ok (.istore_n 2, 1) := by decide +kernel
theorem dX9_cabinets_28 : decode cX9_cabinets 28 = .ok (.iload_n 2, 1) := by decide +kernel
theorem dX9_cabinets_29 : decode cX9_cabinets 29 = .ok (.aload_n 0, 1) := by decide +kernel
theorem dX9_cabinets_30 : decode cX9_cabinets 30 = .ok (.getfield 20, 3) := by decide +kernel
theorem dX9_cabinets_33 : decode cX9_cabinets 33 = .ok (.invokevirtual 240, 3) := by decide +kernel
theorem dX9_cabinets_36 : decode cX9_cabinets 36 = .ok (.if_icmp .gt 23, 3) := by decide +kernel
theorem dX9_cabinets_39 : decode cX9_cabinets 39 = .ok (.aload_n 0, 1) := by decide +kernel
theorem dX9_cabinets_40 : decode cX9_cabinets 40 = .ok (.getfield 78, 3) := by decide +kernel
theorem dX9_cabinets_43 : decode cX9_cabinets 43 = .ok (.iload_n 2, 1) := by decide +kernel
theorem dX9_cabinets_44 : decode cX9_cabinets 44 = .ok (.invokevirtual 333, 3) := by decide +kernel
theorem dX3_isLeastMajority_0 : decode cX3_isLeastMajority 0 = .ok (.aload_n 0, 1) := by decide +kernel
theorem dX3_isLeastMajority_1 : decode cX3_isLeastMajority 1 = .ok (.iload_n 1, 1) := by decide +kernel
theorem dX3_isLeastMajority_2 : decode cX3_isLeastMajority 2 = .ok (.invokevirtual 46, 3) := by decide +kernel
theorem dX3_isLeastMajority_5 : decode cX3_isLeastMajority 5 = .ok (.ifCond .ne 5, 3) := by decide +kernel
theorem dX3_isLeastMajority_10 : decode cX3_isLeastMajority 10 = .ok (.iconst 0, 1) := by decide +kernel
theorem dX3_isLeastMajority_11 : decode cX3_isLeastMajority 11 = .ok (.istore_n 2, 1) := by decide +kernel
theorem dX3_isLeastMajority_12 : decode cX3_isLeastMajority 12 = .ok (.iload_n 2, 1) := by decide +kernel
theorem dX3_isLeastMajority_13 : decode cX3_isLeastMajority 13 = .ok (.aload_n 0, 1) := by decide +kernel
theorem dX3_isLeastMajority_14 : decode cX3_isLeastMajority 14 = .ok (.getfield 27, 3) := by decide +kernel
theorem dX3_isLeastMajority_17 : decode cX3_isLeastMajority 17 = .ok (.if_icmp .ge 33, 3) := by decide +kernel
theorem dX3_isLeastMajority_50 : decode cX3_isLeastMajority 50 = .ok (.iconst 1, 1) := by decide +kernel
theorem dX3_isLeastMajority_51 : decode cX3_isLeastMajority 51 = .ok (.ireturn, 1) := by decide +kernel
theorem dX3_isLeastMajority_20 : decode cX3_isLeastMajority 20 = .ok (.iload_n 1, 1) := by decide +kernel
theorem dX3_isLeastMajority_21 : decode cX3_isLeastMajority 21 = .ok (.iload_n 2, 1) := by decide +kernel
theorem dX3_isLeastMajority_22 : decode cX3_isLeastMajority 22 = .ok (.invokestatic 35, 3) := by decide +kernel
theorem dX3_isLeastMajority_25 : decode cX3_isLeastMajority 25 = .ok (.ifCond .eq 19, 3) := by decide +kernel
theorem dX3_isLeastMajority_44 : decode cX3_isLeastMajority 44 = .ok (.iinc 2 1, 3) := by decide +kernel
theorem dX3_isLeastMajority_47 : decode cX3_isLeastMajority 47 = .ok (.goto (-35), 3) := by decide +kernel
theorem dX3_isLeastMajority_28 : decode cX3_isLeastMajority 28 = .ok (.aload_n 0, 1) := by decide +kernel
theorem dX3_isLeastMajority_29 : decode cX3_isLeastMajority 29 = .ok (.iload_n 1, 1) := by decide +kernel
theorem dX3_isLeastMajority_30 : decode cX3_isLeastMajority 30 = .ok (.iconst 1, 1) := by decide +kernel
theorem dX3_isLeastMajority_31 : decode cX3_isLeastMajority 31 = .ok (.iload_n 2, 1) := by decide +kernel
theorem dX3_isLeastMajority_32 : decode cX3_isLeastMajority 32 = .ok (.ishl, 1) := by decide +kernel
theorem dX3_isLeastMajority_33 : decode cX3_isLeastMajority 33 = .ok (.iconst (-1), 1) := by decide +kernel
theorem dX3_isLeastMajority_34 : decode cX3_isLeastMajority 34 = .ok (.ixor, 1) := by decide +kernel
theorem dX3_isLeastMajority_35 : decode cX3_isLeastMajority 35 = .ok (.iand, 1) := by decide +kernel
theorem dX3_isLeastMajority_36 : decode cX3_isLeastMajority 36 = .ok (.invokevirtual 46, 3) := by decide +kernel
theorem dX3_isLeastMajority_39 : decode cX3_isLeastMajority 39 = .ok (.ifCond .eq 5, 3) := by decide +kernel
theorem dX3_isLeastMajority_42 : decode cX3_isLeastMajority 42 = .ok (.iconst 0, 1) := by decide +kernel
theorem dX3_isLeastMajority_43 : decode cX3_isLeastMajority 43 = .ok (.ireturn, 1) := by decide +kernel
theorem dX3_isLeastMajority_8 : decode cX3_isLeastMajority 8 = .ok (.iconst 0, 1) := by decide +kernel
theorem dX3_isLeastMajority_9 : decode cX3_isLeastMajority 9 = .ok (.ireturn, 1) := by decide +kernel
theorem dX9_cabinets_47 : decode cX9_cabinets 47 = .ok (.ifCond .eq 6, 3) := by decide +kernel
theorem dX9_cabinets_53 : decode cX9_cabinets 53 = .ok (.iinc 2 1, 3) := by decide +kernel
theorem dX9_cabinets_56 : decode cX9_cabinets 56 = .ok (.goto (-28), 3) := by decide +kernel
theorem dX9_cabinets_50 : decode cX9_cabinets 50 = .ok (.iinc 1 1, 3) := by decide +kernel
theorem dX9_cabinets_59 : decode cX9_cabinets 59 = .ok (.iload_n 1, 1) := by decide +kernel
theorem dX9_cabinets_60 : decode cX9_cabinets 60 = .ok (.ireturn, 1) := by decide +kernel
theorem dX9_cabinets_10 : decode cX9_cabinets 10 = .ok (.bipush (-2), 2) := by decide +kernel
theorem dX9_cabinets_12 : decode cX9_cabinets 12 = .ok (.ireturn, 1) := by decide +kernel
theorem dX9_kingmaker_0 : decode cX9_kingmaker 0 = .ok (.aload_n 0, 1) := by decide +kernel
theorem dX9_kingmaker_1 : decode cX9_kingmaker 1 = .ok (.getfield 20, 3) := by decide +kernel
theorem dX9_kingmaker_4 : decode cX9_kingmaker 4 = .ok (.invokevirtual 184, 3) := by decide +kernel
theorem dX9_kingmaker_7 : decode cX9_kingmaker 7 = .ok (.ifCond .ne 6, 3) := by decide +kernel
theorem dX9_kingmaker_13 : decode cX9_kingmaker 13 = .ok (.aload_n 0, 1) := by decide +kernel
theorem dX9_kingmaker_14 : decode cX9_kingmaker 14 = .ok (.getfield 78, 3) := by decide +kernel
theorem dX9_kingmaker_17 : decode cX9_kingmaker 17 = .ok (.aload_n 0, 1) := by decide +kernel
theorem dX9_kingmaker_18 : decode cX9_kingmaker 18 = .ok (.getfield 20, 3) := by decide +kernel
theorem dX9_kingmaker_21 : decode cX9_kingmaker 21 = .ok (.invokevirtual 311, 3) := by decide +kernel
theorem dX9_kingmaker_24 : decode cX9_kingmaker 24 = .ok (.iconst 0, 1) := by decide +kernel
theorem dX9_kingmaker_25 : decode cX9_kingmaker 25 = .ok (.istore_n 1, 1) := by decide +kernel
theorem dX9_kingmaker_26 : decode cX9_kingmaker 26 = .ok (.iload_n 1, 1) := by decide +kernel
theorem dX9_kingmaker_27 : decode cX9_kingmaker 27 = .ok (.aload_n 0, 1) := by decide +kernel
theorem dX9_kingmaker_28 : decode cX9_kingmaker 28 = .ok (.getfield 20, 3) := by decide +kernel
theorem dX9_kingmaker_31 : decode cX9_kingmaker 31 = .ok (.getfield 136, 3) := by decide +kernel
theorem dX9_kingmaker_34 : decode cX9_kingmaker 34 = .ok (.getfield 200, 3) := by decide +kernel
theorem dX9_kingmaker_37 : decode cX9_kingmaker 37 = .ok (.if_icmp .ge 19, 3) := by decide +kernel
theorem dX9_kingmaker_56 : decode cX9_kingmaker 56 = .ok (.iconst (-1), 1) := by decide +kernel
theorem dX9_kingmaker_57 : decode cX9_kingmaker 57 = .ok (.ireturn, 1) := by decide +kernel
theorem dX9_kingmaker_40 : decode cX9_kingmaker 40 = .ok (.aload_n 0, 1) := by decide +kernel
theorem dX9_kingmaker_41 : decode cX9_kingmaker 41 = .ok (.iload_n 1, 1) := by decide +kernel
theorem dX9_kingmaker_42 : decode cX9_kingmaker 42 = .ok (.invokevirtual 336, 3) := by decide +kernel
theorem dX9_makesOneHold_0 : decode cX9_makesOneHold 0 = .ok (.aload_n 0, 1) := by decide +kernel
theorem dX9_makesOneHold_1 : decode cX9_makesOneHold 1 = .ok (.getfield 20, 3) := by decide +kernel
theorem dX9_makesOneHold_4 : decode cX9_makesOneHold 4 = .ok (.getfield 136, 3) := by decide +kernel
theorem dX9_makesOneHold_7 : decode cX9_makesOneHold 7 = .ok (.iload_n 1, 1) := by decide +kernel
theorem dX9_makesOneHold_8 : decode cX9_makesOneHold 8 = .ok (.iconst 1, 1) := by decide +kernel
theorem dX9_makesOneHold_9 : decode cX9_makesOneHold 9 = .ok (.invokevirtual 129, 3) := by decide +kernel
theorem dX9_makesOneHold_12 : decode cX9_makesOneHold 12 = .ok (.istore_n 2, 1) := by decide +kernel
theorem dX9_makesOneHold_13 : decode cX9_makesOneHold 13 = .ok (.iconst 0, 1) := by decide +kernel
theorem dX9_makesOneHold_14 : decode cX9_makesOneHold 14 = .ok (.istore_n 3, 1) := by decide +kernel
theorem dX9_makesOneHold_15 : decode cX9_makesOneHold 15 = .ok (.iload_n 3, 1) := by decide +kernel
theorem dX9_makesOneHold_16 : decode cX9_makesOneHold 16 = .ok (.aload_n 0, 1) := by decide +kernel
theorem dX9_makesOneHold_17 : decode cX9_makesOneHold 17 = .ok (.getfield 20, 3) := by decide +kernel
theorem dX9_makesOneHold_20 : decode cX9_makesOneHold 20 = .ok (.getfield 133, 3) := by decide +kernel
theorem dX9_makesOneHold_23 : decode cX9_makesOneHold 23 = .ok (.getfield 200, 3) := by decide +kernel
theorem dX9_makesOneHold_26 : decode cX9_makesOneHold 26 = .ok (.if_icmp .ge 49, 3) := by decide +kernel
theorem dX9_makesOneHold_75 : decode cX9_makesOneHold 75 = .ok (.iconst 0, 1) := by decide +kernel
theorem dX9_makesOneHold_76 : decode cX9_makesOneHold 76 = .ok (.ireturn, 1) := by decide +kernel
theorem dX9_makesOneHold_29 : decode cX9_makesOneHold 29 = .ok (.iload_n 3, 1) := by decide +kernel
theorem dX9_makesOneHold_30 : decode cX9_makesOneHold 30 = .ok (.aload_n 0, 1) := by decide +kernel
theorem dX9_makesOneHold_31 : decode cX9_makesOneHold 31 = .ok (.getfield 20, 3) := by decide +kernel
theorem dX9_makesOneHold_34 : decode cX9_makesOneHold 34 = .ok (.getfield 136, 3) := by decide +kernel
theorem dX9_makesOneHold_37 : decode cX9_makesOneHold 37 = .ok (.iload_n 1, 1) := by decide +kernel
theorem dX9_makesOneHold_38 : decode cX9_makesOneHold 38 = .ok (.iconst 0, 1) := by decide +kernel
theorem dX9_makesOneHold_39 : decode cX9_makesOneHold 39 = .ok (.invokevirtual 129, 3) := by decide +kernel
theorem dX9_makesOneHold_42 : decode cX9_makesOneHold 42 = .ok (.if_icmp .eq 27, 3) := by decide +kernel
theorem dX9_makesOneHold_69 : decode cX9_makesOneHold 69 = .ok (.iinc 3 1, 3) := by decide +kernel
theorem dX9_makesOneHold_72 : decode cX9_makesOneHold 72 = .ok (.goto (-57), 3) := by decide +kernel
theorem dX9_makesOneHold_45 : decode cX9_makesOneHold 45 = .ok (.aload_n 0, 1) := by decide +kernel
theorem dX9_makesOneHold_46 : decode cX9_makesOneHold 46 = .ok (.getfield 78, 3) := by decide +kernel
theorem dX9_makesOneHold_49 : decode cX9_makesOneHold 49 = .ok (.aload_n 0, 1) := by decide +kernel
theorem dX9_makesOneHold_50 : decode cX9_makesOneHold 50 = .ok (.getfield 78, 3) := by decide +kernel
theorem dX9_makesOneHold_53 : decode cX9_makesOneHold 53 = .ok (.iconst 1, 1) := by decide +kernel
theorem dX9_makesOneHold_54 : decode cX9_makesOneHold 54 = .ok (.iload_n 3, 1) := by decide +kernel
theorem dX9_makesOneHold_55 : decode cX9_makesOneHold 55 = .ok (.ishl, 1) := by decide +kernel
theorem dX9_makesOneHold_56 : decode cX9_makesOneHold 56 = .ok (.invokevirtual 323, 3) := by decide +kernel
theorem dX9_makesOneHold_59 : decode cX9_makesOneHold 59 = .ok (.iload_n 2, 1) := by decide +kernel
theorem dX9_makesOneHold_60 : decode cX9_makesOneHold 60 = .ok (.iadd, 1) := by decide +kernel
theorem dX9_makesOneHold_61 : decode cX9_makesOneHold 61 = .ok (.invokevirtual 339, 3) := by decide +kernel
theorem dX9_makesOneHold_64 : decode cX9_makesOneHold 64 = .ok (.ifCond .eq 5, 3) := by decide +kernel
theorem dX9_makesOneHold_67 : decode cX9_makesOneHold 67 = .ok (.iconst 1, 1) := by decide +kernel
theorem dX9_makesOneHold_68 : decode cX9_makesOneHold 68 = .ok (.ireturn, 1) := by decide +kernel
theorem dX9_kingmaker_45 : decode cX9_kingmaker 45 = .ok (.ifCond .eq 5, 3) := by decide +kernel
theorem dX9_kingmaker_50 : decode cX9_kingmaker 50 = .ok (.iinc 1 1, 3) := by decide +kernel
theorem dX9_kingmaker_53 : decode cX9_kingmaker 53 = .ok (.goto (-27), 3) := by decide +kernel
theorem dX9_kingmaker_48 : decode cX9_kingmaker 48 = .ok (.iload_n 1, 1) := by decide +kernel
theorem dX9_kingmaker_49 : decode cX9_kingmaker 49 = .ok (.ireturn, 1) := by decide +kernel
theorem dX9_kingmaker_10 : decode cX9_kingmaker 10 = .ok (.bipush (-2), 2) := by decide +kernel
theorem dX9_kingmaker_12 : decode cX9_kingmaker 12 = .ok (.ireturn, 1) := by decide +kernel
theorem dX9_rests_0 : decode cX9_rests 0 = .ok (.aload_n 0, 1) := by decide +kernel
theorem dX9_rests_1 : decode cX9_rests 1 = .ok (.getfield 20, 3) := by decide +kernel
theorem dX9_rests_4 : decode cX9_rests 4 = .ok (.iload_n 1, 1) := by decide +kernel
theorem dX9_rests_5 : decode cX9_rests 5 = .ok (.invokevirtual 139, 3) := by decide +kernel
theorem dX9_rests_8 : decode cX9_rests 8 = .ok (.ifCond .eq 19, 3) := by decide +kernel
theorem dX9_rests_27 : decode cX9_rests 27 = .ok (.bipush (-2), 2) := by decide +kernel
theorem dX9_rests_29 : decode cX9_rests 29 = .ok (.ireturn, 1) := by decide +kernel
theorem dX9_rests_11 : decode cX9_rests 11 = .ok (.aload_n 0, 1) := by decide +kernel
theorem dX9_rests_12 : decode cX9_rests 12 = .ok (.getfield 20, 3) := by decide +kernel
theorem dX9_rests_15 : decode cX9_rests 15 = .ok (.iload_n 2, 1) := by decide +kernel
theorem dX9_rests_16 : decode cX9_rests 16 = .ok (.invokevirtual 139, 3) := by decide +kernel
theorem dX9_rests_19 : decode cX9_rests 19 = .ok (.ifCond .eq 8, 3) := by decide +kernel
theorem dX9_rests_22 : decode cX9_rests 22 = .ok (.iload_n 1, 1) := by decide +kernel
theorem dX9_rests_23 : decode cX9_rests 23 = .ok (.iload_n 2, 1) := by decide +kernel
theorem dX9_rests_24 : decode cX9_rests 24 = .ok (.if_icmp .ne 6, 3) := by decide +kernel
theorem dX9_rests_30 : decode cX9_rests 30 = .ok (.iconst 0, 1) := by decide +kernel
theorem dX9_rests_31 : decode cX9_rests 31 = .ok (.istore_n 3, 1) := by decide +kernel
theorem dX9_rests_32 : decode cX9_rests 32 = .ok (.iconst 0, 1) := by decide +kernel
theorem dX9_rests_33 : decode cX9_rests 33 = .ok (.istore 4, 2) := by decide +kernel
theorem dX9_rests_35 : decode cX9_rests 35 = .ok (.iload 4, 2) := by decide +kernel
theorem dX9_rests_37 : decode cX9_rests 37 = .ok (.iconst 4, 1) := by decide +kernel
theorem dX9_rests_38 : decode cX9_rests 38 = .ok (.if_icmp .ge 54, 3) := by decide +kernel
theorem dX9_rests_41 : decode cX9_rests 41 = .ok (.iload 4, 2) := by decide +kernel
theorem dX9_rests_43 : decode cX9_rests 43 = .ok (.iconst 1, 1) := by decide +kernel
theorem dX9_rests_44 : decode cX9_rests 44 = .ok (.iand, 1) := by decide +kernel
theorem dX9_rests_45 : decode cX9_rests 45 = .ok (.istore 5, 2) := by decide +kernel
theorem dX9_rests_47 : decode cX9_rests 47 = .ok (.iload 4, 2) := by decide +kernel
theorem dX9_rests_49 : decode cX9_rests 49 = .ok (.iconst 1, 1) := by decide +kernel
theorem dX9_rests_50 : decode cX9_rests 50 = .ok (.ishr, 1) := by decide +kernel
theorem dX9_rests_51 : decode cX9_rests 51 = .ok (.istore 6, 2) := by decide +kernel
theorem dX9_rests_53 : decode cX9_rests 53 = .ok (.aload_n 0, 1) := by decide +kernel
theorem dX9_rests_54 : decode cX9_rests 54 = .ok (.iload_n 1, 1) := by decide +kernel
theorem dX9_rests_55 : decode cX9_rests 55 = .ok (.iload_n 2, 1) := by decide +kernel
theorem dX9_rests_56 : decode cX9_rests 56 = .ok (.iload 5, 2) := by decide +kernel
theorem dX9_rests_58 : decode cX9_rests 58 = .ok (.iload 6, 2) := by decide +kernel
theorem dX9_rests_60 : decode cX9_rests 60 = .ok (.invokevirtual 342, 3) := by decide +kernel
theorem dX9_isContent_0 : decode cX9_isContent 0 = .ok (.aload_n 0, 1) := by decide +kernel
theorem dX9_isContent_1 : decode cX9_isContent 1 = .ok (.iload_n 1, 1) := by decide +kernel
theorem dX9_isContent_2 : decode cX9_isContent 2 = .ok (.iload_n 2, 1) := by decide +kernel
theorem dX9_isContent_3 : decode cX9_isContent 3 = .ok (.iload_n 3, 1) := by decide +kernel
theorem dX9_isContent_4 : decode cX9_isContent 4 = .ok (.iload 4, 2) := by decide +kernel
theorem dX9_isContent_6 : decode cX9_isContent 6 = .ok (.invokevirtual 346, 3) := by decide +kernel
theorem dX9_gainOf_0 : decode cX9_gainOf 0 = .ok (.aload_n 0, 1) := by decide +kernel
theorem dX9_gainOf_1 : decode cX9_gainOf 1 = .ok (.getfield 58, 3) := by decide +kernel
theorem dX9_gainOf_4 : decode cX9_gainOf 4 = .ok (.aload_n 0, 1) := by decide +kernel
theorem dX9_gainOf_5 : decode cX9_gainOf 5 = .ok (.getfield 54, 3) := by decide +kernel
theorem dX9_gainOf_8 : decode cX9_gainOf 8 = .ok (.invokevirtual 350, 3) := by decide +kernel
theorem dX2_copyFrom_0 : decode cX2_copyFrom 0 = .ok (.aload_n 1, 1) := by decide +kernel
theorem dX2_copyFrom_1 : decode cX2_copyFrom 1 = .ok (.getfield 9, 3) := by decide +kernel
theorem dX2_copyFrom_4 : decode cX2_copyFrom 4 = .ok (.iconst 0, 1) := by decide +kernel
theorem dX2_copyFrom_5 : decode cX2_copyFrom 5 = .ok (.aload_n 0, 1) := by decide +kernel
theorem dX2_copyFrom_6 : decode cX2_copyFrom 6 = .ok (.getfield 9, 3) := by decide +kernel
theorem dX2_copyFrom_9 : decode cX2_copyFrom 9 = .ok (.iconst 0, 1) := by decide +kernel
theorem dX2_copyFrom_10 : decode cX2_copyFrom 10 = .ok (.aload_n 0, 1) := by decide +kernel
theorem dX2_copyFrom_11 : decode cX2_copyFrom 11 = .ok (.getfield 9, 3) := by decide +kernel
theorem dX2_copyFrom_14 : decode cX2_copyFrom 14 = .ok (.arraylength, 1) := by decide +kernel
theorem dX2_copyFrom_15 : decode cX2_copyFrom 15 = .ok (.invokestatic 117, 3) := by decide +kernel
theorem dX2_copyFrom_18 : decode cX2_copyFrom 18 = .ok (.aload_n 1, 1) := by decide +kernel
theorem dX2_copyFrom_19 : decode cX2_copyFrom 19 = .ok (.getfield 21, 3) := by decide +kernel
theorem dX2_copyFrom_22 : decode cX2_copyFrom 22 = .ok (.iconst 0, 1) := by decide +kernel
theorem dX2_copyFrom_23 : decode cX2_copyFrom 23 = .ok (.aload_n 0, 1) := by decide +kernel
theorem dX2_copyFrom_24 : decode cX2_copyFrom 24 = .ok (.getfield 21, 3) := by decide +kernel
theorem dX2_copyFrom_27 : decode cX2_copyFrom 27 = .ok (.iconst 0, 1) := by decide +kernel
theorem dX2_copyFrom_28 : decode cX2_copyFrom 28 = .ok (.aload_n 0, 1) := by decide +kernel
theorem dX2_copyFrom_29 : decode cX2_copyFrom 29 = .ok (.getfield 21, 3) := by decide +kernel
theorem dX2_copyFrom_32 : decode cX2_copyFrom 32 = .ok (.arraylength, 1) := by decide +kernel
theorem dX2_copyFrom_33 : decode cX2_copyFrom 33 = .ok (.invokestatic 117, 3) := by decide +kernel
theorem dX2_copyFrom_36 : decode cX2_copyFrom 36 = .ok (.aload_n 1, 1) := by decide +kernel
theorem dX2_copyFrom_37 : decode cX2_copyFrom 37 = .ok (.getfield 24, 3) := by decide +kernel
theorem dX2_copyFrom_40 : decode cX2_copyFrom 40 = .ok (.iconst 0, 1) := by decide +kernel
theorem dX2_copyFrom_41 : decode cX2_copyFrom 41 = .ok (.aload_n 0, 1) := by decide +kernel
theorem dX2_copyFrom_42 : decode cX2_copyFrom 42 = .ok (.getfield 24, 3) := by decide +kernel
theorem dX2_copyFrom_45 : decode cX2_copyFrom 45 = .ok (.iconst 0, 1) := by decide +kernel
theorem dX2_copyFrom_46 : decode cX2_copyFrom 46 = .ok (.aload_n 0, 1) := by decide +kernel
theorem dX2_copyFrom_47 : decode cX2_copyFrom 47 = .ok (.getfield 24, 3) := by decide +kernel
theorem dX2_copyFrom_50 : decode cX2_copyFrom 50 = .ok (.arraylength, 1) := by decide +kernel
theorem dX2_copyFrom_51 : decode cX2_copyFrom 51 = .ok (.invokestatic 117, 3) := by decide +kernel
theorem dX2_copyFrom_54 : decode cX2_copyFrom 54 = .ok (.aload_n 0, 1) := by decide +kernel
theorem dX2_copyFrom_55 : decode cX2_copyFrom 55 = .ok (.aload_n 1, 1) := by decide +kernel
theorem dX2_copyFrom_56 : decode cX2_copyFrom 56 = .ok (.getfield 35, 3) := by decide +kernel
theorem dX2_copyFrom_59 : decode cX2_copyFrom 59 = .ok (.putfield 35, 3) := by decide +kernel
theorem dX2_copyFrom_62 : decode cX2_copyFrom 62 = .ok (.aload_n 0, 1) := by decide +kernel
theorem dX2_copyFrom_63 : decode cX2_copyFrom 63 = .ok (.aload_n 1, 1) := by decide +kernel
theorem dX2_copyFrom_64 : decode cX2_copyFrom 64 = .ok (.getfield 63, 3) := by decide +kernel
theorem dX2_copyFrom_67 : decode cX2_copyFrom 67 = .ok (.putfield 63, 3) := by decide +kernel
theorem dX2_copyFrom_70 : decode cX2_copyFrom 70 = .ok (.aload_n 0, 1) := by decide +kernel
theorem dX2_copyFrom_71 : decode cX2_copyFrom 71 = .ok (.aload_n 1, 1) := by decide +kernel
theorem dX2_copyFrom_72 : decode cX2_copyFrom 72 = .ok (.getfield 67, 3) := by decide +kernel
theorem dX2_copyFrom_75 : decode cX2_copyFrom 75 = .ok (.putfield 67, 3) := by decide +kernel
theorem dX2_copyFrom_78 : decode cX2_copyFrom 78 = .ok (.return_, 1) := by decide +kernel
theorem dX9_gainOf_11 : decode cX9_gainOf 11 = .ok (.iload_n 3, 1) := by decide +kernel
theorem dX9_gainOf_12 : decode cX9_gainOf 12 = .ok (.iconst 1, 1) := by decide +kernel
theorem dX9_gainOf_13 : decode cX9_gainOf 13 = .ok (.if_icmp .ne 11, 3) := by decide +kernel
theorem dX9_gainOf_24 : decode cX9_gainOf 24 = .ok (.iload 4, 2) := by decide +kernel
theorem dX9_gainOf_26 : decode cX9_gainOf 26 = .ok (.iconst 1, 1) := by decide +kernel
theorem dX9_gainOf_27 : decode cX9_gainOf 27 = .ok (.if_icmp .ne 11, 3) := by decide +kernel
theorem dX9_gainOf_38 : decode cX9_gainOf 38 = .ok (.aload_n 0, 1) := by decide +kernel
theorem dX9_gainOf_39 : decode cX9_gainOf 39 = .ok (.getfield 58, 3) := by decide +kernel
theorem dX9_gainOf_42 : decode cX9_gainOf 42 = .ok (.invokevirtual 356, 3) := by decide +kernel
theorem dX9_gainOf_45 : decode cX9_gainOf 45 = .ok (.iconst 2, 1) := by decide +kernel
theorem dX9_gainOf_46 : decode cX9_gainOf 46 = .ok (.aload_n 0, 1) := by decide +kernel
theorem dX9_gainOf_47 : decode cX9_gainOf 47 = .ok (.getfield 58, 3) := by decide +kernel
theorem dX9_gainOf_50 : decode cX9_gainOf 50 = .ok (.iload_n 1, 1) := by decide +kernel
theorem dX9_gainOf_51 : decode cX9_gainOf 51 = .ok (.invokevirtual 181, 3) := by decide +kernel
theorem dX9_gainOf_54 : decode cX9_gainOf 54 = .ok (.invokestatic 203, 3) := by decide +kernel
theorem dX9_gainOf_57 : decode cX9_gainOf 57 = .ok (.imul, 1) := by decide +kernel
theorem dX9_gainOf_58 : decode cX9_gainOf 58 = .ok (.aload_n 0, 1) := by decide +kernel
theorem dX9_gainOf_59 : decode cX9_gainOf 59 = .ok (.getfield 58, 3) := by decide +kernel
theorem dX9_gainOf_62 : decode cX9_gainOf 62 = .ok (.iload_n 1, 1) := by decide +kernel
theorem dX9_gainOf_63 : decode cX9_gainOf 63 = .ok (.invokevirtual 165, 3) := by decide +kernel
theorem dX9_gainOf_66 : decode cX9_gainOf 66 = .ok (.isub, 1) := by decide +kernel
theorem dX9_gainOf_67 : decode cX9_gainOf 67 = .ok (.ireturn, 1) := by decide +kernel
theorem dX9_gainOf_30 : decode cX9_gainOf 30 = .ok (.aload_n 0, 1) := by decide +kernel
theorem dX9_gainOf_31 : decode cX9_gainOf 31 = .ok (.getfield 58, 3) := by decide +kernel
theorem dX9_gainOf_34 : decode cX9_gainOf 34 = .ok (.iload_n 2, 1) := by decide +kernel
theorem dX9_gainOf_35 : decode cX9_gainOf 35 = .ok (.invokevirtual 353, 3) := by decide +kernel
theorem dX2_keepStill_0 : decode cX2_keepStill 0 = .ok (.aload_n 0, 1) := by decide +kernel
theorem dX2_keepStill_1 : decode cX2_keepStill 1 = .ok (.iload_n 1, 1) := by decide +kernel
theorem dX2_keepStill_2 : decode cX2_keepStill 2 = .ok (.iconst 0, 1) := by decide +kernel
theorem dX2_keepStill_3 : decode cX2_keepStill 3 = .ok (.invokevirtual 111, 3) := by decide +kernel
theorem dX2_keepStill_6 : decode cX2_keepStill 6 = .ok (.istore_n 2, 1) := by decide +kernel
theorem dX2_keepStill_7 : decode cX2_keepStill 7 = .ok (.iconst 1, 1) := by decide +kernel
theorem dX2_keepStill_8 : decode cX2_keepStill 8 = .ok (.istore_n 3, 1) := by decide +kernel
theorem dX2_keepStill_9 : decode cX2_keepStill 9 = .ok (.iload_n 3, 1) := by decide +kernel
theorem dX2_keepStill_10 : decode cX2_keepStill 10 = .ok (.aload_n 0, 1) := by decide +kernel
theorem dX2_keepStill_11 : decode cX2_keepStill 11 = .ok (.getfield 67, 3) := by decide +kernel
theorem dX2_keepStill_14 : decode cX2_keepStill 14 = .ok (.if_icmp .gt 21, 3) := by decide +kernel
theorem dX2_keepStill_35 : decode cX2_keepStill 35 = .ok (.return_, 1) := by decide +kernel
theorem dX2_keepStill_17 : decode cX2_keepStill 17 = .ok (.aload_n 0, 1) := by decide +kernel
theorem dX2_keepStill_18 : decode cX2_keepStill 18 = .ok (.getfield 21, 3) := by decide +kernel
theorem dX2_keepStill_21 : decode cX2_keepStill 21 = .ok (.iload_n 1, 1) := by decide +kernel
theorem dX2_keepStill_22 : decode cX2_keepStill 22 = .ok (.bipush 15, 2) := by decide +kernel
theorem dX2_keepStill_24 : decode cX2_keepStill 24 = .ok (.imul, 1) := by decide +kernel
theorem dX2_keepStill_25 : decode cX2_keepStill 25 = .ok (.iload_n 3, 1) := by decide +kernel
theorem dX2_keepStill_26 : decode cX2_keepStill 26 = .ok (.iadd, 1) := by decide +kernel
theorem dX2_keepStill_27 : decode cX2_keepStill 27 = .ok (.iload_n 2, 1) := by decide +kernel
theorem dX2_keepStill_28 : decode cX2_keepStill 28 = .ok (.iastore, 1) := by decide +kernel
theorem dX2_keepStill_29 : decode cX2_keepStill 29 = .ok (.iinc 3 1, 3) := by decide +kernel
theorem dX2_keepStill_32 : decode cX2_keepStill 32 = .ok (.goto (-23), 3) := by decide +kernel
theorem dX9_gainOf_16 : decode cX9_gainOf 16 = .ok (.aload_n 0, 1) := by decide +kernel
theorem dX9_gainOf_17 : decode cX9_gainOf 17 = .ok (.getfield 58, 3) := by decide +kernel
theorem dX9_gainOf_20 : decode cX9_gainOf 20 = .ok (.iload_n 1, 1) := by decide +kernel
theorem dX9_gainOf_21 : decode cX9_gainOf 21 = .ok (.invokevirtual 353, 3) := by decide +kernel
theorem dX9_isContent_9 : decode cX9_isContent 9 = .ok (.aload_n 0, 1) := by decide +kernel
theorem dX9_isContent_10 : decode cX9_isContent 10 = .ok (.iload_n 1, 1) := by decide +kernel
theorem dX9_isContent_11 : decode cX9_isContent 11 = .ok (.iload_n 2, 1) := by decide +kernel
theorem dX9_isContent_12 : decode cX9_isContent 12 = .ok (.iconst 1, 1) := by decide +kernel
theorem dX9_isContent_13 : decode cX9_isContent 13 = .ok (.iload_n 3, 1) := by decide +kernel
theorem dX9_isContent_14 : decode cX9_isContent 14 = .ok (.isub, 1) := by decide +kernel
theorem dX9_isContent_15 : decode cX9_isContent 15 = .ok (.iload 4, 2) := by decide +kernel
theorem dX9_isContent_17 : decode cX9_isContent 17 = .ok (.invokevirtual 346, 3) := by decide +kernel
theorem dX9_isContent_20 : decode cX9_isContent 20 = .ok (.if_icmp .lt 7, 3) := by decide +kernel
theorem dX9_isContent_27 : decode cX9_isContent 27 = .ok (.iconst 0, 1) := by decide +kernel
theorem dX9_isContent_28 : decode cX9_isContent 28 = .ok (.ireturn, 1) := by decide +kernel
theorem dX9_isContent_23 : decode cX9_isContent 23 = .ok (.iconst 1, 1) := by decide +kernel
theorem dX9_isContent_24 : decode cX9_isContent 24 = .ok (.goto 4, 3) := by decide +kernel
theorem dX9_rests_63 : decode cX9_rests 63 = .ok (.ifCond .eq 23, 3) := by decide +kernel
theorem dX9_rests_86 : decode cX9_rests 86 = .ok (.iinc 4 1, 3) := by decide +kernel
theorem dX9_rests_89 : decode cX9_rests 89 = .ok (.goto (-54), 3) := by decide +kernel
theorem dX9_rests_66 : decode cX9_rests 66 = .ok (.aload_n 0, 1) := by decide +kernel
theorem dX9_rests_67 : decode cX9_rests 67 = .ok (.iload_n 2, 1) := by decide +kernel
theorem dX9_rests_68 : decode cX9_rests 68 = .ok (.iload_n 1, 1) := by decide +kernel
theorem dX9_rests_69 : decode cX9_rests 69 = .ok (.iload 6, 2) := by decide +kernel
theorem dX9_rests_71 : decode cX9_rests 71 = .ok (.iload 5, 2) := by decide +kernel
theorem dX9_rests_73 : decode cX9_rests 73 = .ok (.invokevirtual 342, 3) := by decide +kernel
theorem dX9_rests_76 : decode cX9_rests 76 = .ok (.ifCond .eq 10, 3) := by decide +kernel
theorem dX9_rests_79 : decode cX9_rests 79 = .ok (.iload_n 3, 1) := by decide +kernel
theorem dX9_rests_80 : decode cX9_rests 80 = .ok (.iconst 1, 1) := by decide +kernel
theorem dX9_rests_81 : decode cX9_rests 81 = .ok (.iload 4, 2) := by decide +kernel
theorem dX9_rests_83 : decode cX9_rests 83 = .ok (.ishl, 1) := by decide +kernel
theorem dX9_rests_84 : decode cX9_rests 84 = .ok (.ior, 1) := by decide +kernel
theorem dX9_rests_85 : decode cX9_rests 85 = .ok (.istore_n 3, 1) := by decide +kernel
theorem dX9_rests_92 : decode cX9_rests 92 = .ok (.iload_n 3, 1) := by decide +kernel
theorem dX9_rests_93 : decode cX9_rests 93 = .ok (.ireturn, 1) := by decide +kernel
theorem dX9_gains_0 : decode cX9_gains 0 = .ok (.aload_n 0, 1) := by decide +kernel
theorem dX9_gains_1 : decode cX9_gains 1 = .ok (.getfield 20, 3) := by decide +kernel
theorem dX9_gains_4 : decode cX9_gains 4 = .ok (.iload_n 1, 1) := by decide +kernel
theorem dX9_gains_5 : decode cX9_gains 5 = .ok (.invokevirtual 139, 3) := by decide +kernel
theorem dX9_gains_8 : decode cX9_gains 8 = .ok (.ifCond .eq 34, 3) := by decide +kernel
theorem dX9_gains_42 : decode cX9_gains 42 = .ok (.sipush (-1000), 3) := by decide +kernel
theorem dX9_gains_45 : decode cX9_gains 45 = .ok (.ireturn, 1) := by decide +kernel
theorem dX9_gains_11 : decode cX9_gains 11 = .ok (.aload_n 0, 1) := by decide +kernel
theorem dX9_gains_12 : decode cX9_gains 12 = .ok (.getfield 20, 3) := by decide +kernel
theorem dX9_gains_15 : decode cX9_gains 15 = .ok (.iload_n 2, 1) := by decide +kernel
theorem dX9_gains_16 : decode cX9_gains 16 = .ok (.invokevirtual 139, 3) := by decide +kernel
theorem dX9_gains_19 : decode cX9_gains 19 = .ok (.ifCond .eq 23, 3) := by decide +kernel
theorem dX9_gains_22 : decode cX9_gains 22 = .ok (.iload_n 1, 1) := by decide +kernel
theorem dX9_gains_23 : decode cX9_gains 23 = .ok (.iload_n 2, 1) := by decide +kernel
theorem dX9_gains_24 : decode cX9_gains 24 = .ok (.if_icmp .eq 18, 3) := by decide +kernel
theorem dX9_gains_27 : decode cX9_gains 27 = .ok (.iload_n 3, 1) := by decide +kernel
theorem dX9_gains_28 : decode cX9_gains 28 = .ok (.invokestatic 320, 3) := by decide +kernel
theorem dX9_gains_31 : decode cX9_gains 31 = .ok (.ifCond .eq 11, 3) := by decide +kernel
theorem dX9_gains_34 : decode cX9_gains 34 = .ok (.iload 4, 2) := by decide +kernel
theorem dX9_gains_36 : decode cX9_gains 36 = .ok (.invokestatic 320, 3) := by decide +kernel
theorem dX9_gains_39 : decode cX9_gains 39 = .ok (.ifCond .ne 7, 3) := by decide +kernel
theorem dX9_gains_46 : decode cX9_gains 46 = .ok (.aload_n 0, 1) := by decide +kernel
theorem dX9_gains_47 : decode cX9_gains 47 = .ok (.iload_n 1, 1) := by decide +kernel
theorem dX9_gains_48 : decode cX9_gains 48 = .ok (.iload_n 2, 1) := by decide +kernel
theorem dX9_gains_49 : decode cX9_gains 49 = .ok (.iload_n 3, 1) := by decide +kernel
theorem dX9_gains_50 : decode cX9_gains 50 = .ok (.iload 4, 2) := by decide +kernel
theorem dX9_gains_52 : decode cX9_gains 52 = .ok (.invokevirtual 346, 3) := by decide +kernel
theorem dX9_gains_55 : decode cX9_gains 55 = .ok (.ireturn, 1) := by decide +kernel
theorem dX9_chance_0 : decode cX9_chance 0 = .ok (.aload_n 0, 1) := by decide +kernel
theorem dX9_chance_1 : decode cX9_chance 1 = .ok (.getfield 20, 3) := by decide +kernel
theorem dX9_chance_4 : decode cX9_chance 4 = .ok (.iload_n 1, 1) := by decide +kernel
theorem dX9_chance_5 : decode cX9_chance 5 = .ok (.invokevirtual 139, 3) := by decide +kernel
theorem dX9_chance_8 : decode cX9_chance 8 = .ok (.ifCond .eq 30, 3) := by decide +kernel
theorem dX9_chance_38 : decode cX9_chance 38 = .ok (.ldc2_w 362, 3) := by decide +kernel
theorem dX9_chance_41 : decode cX9_chance 41 = .ok (.lreturn, 1) := by decide +kernel
theorem dX9_chance_11 : decode cX9_chance 11 = .ok (.aload_n 0, 1) := by decide +kernel
theorem dX9_chance_12 : decode cX9_chance 12 = .ok (.getfield 20, 3) := by decide +kernel
theorem dX9_chance_15 : decode cX9_chance 15 = .ok (.iload_n 2, 1) := by decide +kernel
theorem dX9_chance_16 : decode cX9_chance 16 = .ok (.invokevirtual 139, 3) := by decide +kernel
theorem dX9_chance_19 : decode cX9_chance 19 = .ok (.ifCond .eq 19, 3) := by decide +kernel
theorem dX9_chance_22 : decode cX9_chance 22 = .ok (.aload_n 0, 1) := by decide +kernel
theorem dX9_chance_23 : decode cX9_chance 23 = .ok (.iload_n 3, 1) := by decide +kernel
theorem dX9_chance_24 : decode cX9_chance 24 = .ok (.invokevirtual 359, 3) := by decide +kernel
theorem dX9_isChanceDance_0 : decode cX9_isChanceDance 0 = .ok (.aload_n 0, 1) := by decide +kernel
theorem dX9_isChanceDance_1 : decode cX9_isChanceDance 1 = .ok (.getfield 20, 3) := by decide +kernel
theorem dX9_isChanceDance_4 : decode cX9_isChanceDance 4 = .ok (.iload_n 1, 1) := by decide +kernel
theorem dX9_isChanceDance_5 : decode cX9_isChanceDance 5 = .ok (.invokevirtual 153, 3) := by decide +kernel
theorem dX9_isChanceDance_8 : decode cX9_isChanceDance 8 = .ok (.ifCond .eq 13, 3) := by decide +kernel
theorem dX9_isChanceDance_21 : decode cX9_isChanceDance 21 = .ok (.iconst 0, 1) := by decide +kernel
theorem dX9_isChanceDance_22 : decode cX9_isChanceDance 22 = .ok (.ireturn, 1) := by decide +kernel
theorem dX9_isChanceDance_11 : decode cX9_isChanceDance 11 = .ok (.iload_n 1, 1) := by decide +kernel
theorem dX9_isChanceDance_12 : decode cX9_isChanceDance 12 = .ok (.bipush 8, 2) := by decide +kernel
theorem dX9_isChanceDance_14 : decode cX9_isChanceDance 14 = .ok (.if_icmp .gt 7, 3) := by decide +kernel
theorem dX9_isChanceDance_17 : decode cX9_isChanceDance 17 = .ok (.iconst 1, 1) := by decide +kernel
theorem dX9_isChanceDance_18 : decode cX9_isChanceDance 18 = .ok (.goto 4, 3) := by decide +kernel
theorem dX9_chance_27 : decode cX9_chance 27 = .ok (.ifCond .eq 11, 3) := by decide +kernel
theorem dX9_chance_30 : decode cX9_chance 30 = .ok (.iload 4, 2) := by decide +kernel
theorem dX9_chance_32 : decode cX9_chance 32 = .ok (.invokestatic 320, 3) := by decide +kernel
theorem dX9_chance_35 : decode cX9_chance 35 = .ok (.ifCond .ne 7, 3) := by decide +kernel
theorem dX9_chance_42 : decode cX9_chance 42 = .ok (.aload_n 0, 1) := by decide +kernel
theorem dX9_chance_43 : decode cX9_chance 43 = .ok (.invokevirtual 227, 3) := by decide +kernel
theorem dX9_chance_46 : decode cX9_chance 46 = .ok (.aload_n 0, 1) := by decide +kernel
theorem dX9_chance_47 : decode cX9_chance 47 = .ok (.getfield 85, 3) := by decide +kernel
theorem dX9_chance_50 : decode cX9_chance 50 = .ok (.aload_n 0, 1) := by decide +kernel
theorem dX9_chance_51 : decode cX9_chance 51 = .ok (.getfield 54, 3) := by decide +kernel
theorem dX9_chance_54 : decode cX9_chance 54 = .ok (.aload_n 0, 1) := by decide +kernel
theorem dX9_chance_55 : decode cX9_chance 55 = .ok (.getfield 64, 3) := by decide +kernel
theorem dX9_chance_58 : decode cX9_chance 58 = .ok (.iload_n 1, 1) := by decide +kernel
theorem dX9_chance_59 : decode cX9_chance 59 = .ok (.iload_n 3, 1) := by decide +kernel
theorem dX9_chance_60 : decode cX9_chance 60 = .ok (.aload_n 0, 1) := by decide +kernel
theorem dX9_chance_61 : decode cX9_chance 61 = .ok (.getfield 20, 3) := by decide +kernel
theorem dX9_chance_64 : decode cX9_chance 64 = .ok (.getfield 364, 3) := by decide +kernel
theorem dX9_chance_67 : decode cX9_chance 67 = .ok (.invokevirtual 367, 3) := by decide +kernel
theorem dX4_play_0 : decode cX4_play 0 = .ok (.aload_n 0, 1) := by decide +kernel
theorem dX4_play_1 : decode cX4_play 1 = .ok (.getfield 9, 3) := by decide +kernel
theorem dX4_play_4 : decode cX4_play 4 = .ok (.lconst 0, 1) := by decide +kernel
theorem dX4_play_5 : decode cX4_play 5 = .ok (.invokestatic 18, 3) := by decide +kernel
theorem dJ7_fill_d0a16_0 : decode cJ7_fill_d0a16 0 = .ok (.iconst 0, 1) := by decide +kernel
theorem dJ7_fill_d0a16_1 : decode cJ7_fill_d0a16 1 = .ok (.istore_n 3, 1) := by decide +kernel
theorem dJ7_fill_d0a16_2 : decode cJ7_fill_d0a16 2 = .ok (.aload_n 0, 1) := by decide +kernel
theorem dJ7_fill_d0a16_3 : decode cJ7_fill_d0a16 3 = .ok (.arraylength, 1) := by decide +kernel
theorem dJ7_fill_d0a16_4 : decode cJ7_fill_d0a16 4 = .ok (.istore 4, 2) := by decide +kernel
theorem dJ7_fill_d0a16_6 : decode cJ7_fill_d0a16 6 = .ok (.iload_n 3, 1) := by decide +kernel
theorem dJ7_fill_d0a16_7 : decode cJ7_fill_d0a16 7 = .ok (.iload 4, 2) := by decide +kernel
theorem dJ7_fill_d0a16_9 : decode cJ7_fill_d0a16 9 = .ok (.if_icmp .ge 13, 3) := by decide +kernel
theorem dJ7_fill_d0a16_12 : decode cJ7_fill_d0a16 12 = .ok (.aload_n 0, 1) := by decide +kernel
theorem dJ7_fill_d0a16_13 : decode cJ7_fill_d0a16 13 = .ok (.iload_n 3, 1) := by decide +kernel
theorem dJ7_fill_d0a16_14 : decode cJ7_fill_d0a16 14 = .ok (.lload_n 1, 1) := by decide +kernel
theorem dJ7_fill_d0a16_15 : decode cJ7_fill_d0a16 15 = .ok (.lastore, 1) := by decide +kernel
theorem dJ7_fill_d0a16_16 : decode cJ7_fill_d0a16 16 = .ok (.iinc 3 1, 3) := by decide +kernel
theorem dJ7_fill_d0a16_19 : decode cJ7_fill_d0a16 19 = .ok (.goto (-13), 3) := by decide +kernel
theorem dJ7_fill_d0a16_22 : decode cJ7_fill_d0a16 22 = .ok (.return_, 1) := by decide +kernel
theorem dX4_play_8 : decode cX4_play 8 = .ok (.aload_n 0, 1) := by decide +kernel
theorem dX4_play_9 : decode cX4_play 9 = .ok (.getfield 9, 3) := by decide +kernel
theorem dX4_play_12 : decode cX4_play 12 = .ok (.iconst 1, 1) := by decide +kernel
theorem dX4_play_13 : decode cX4_play 13 = .ok (.iload_n 3, 1) := by decide +kernel
theorem dX4_play_14 : decode cX4_play 14 = .ok (.ishl, 1) := by decide +kernel
theorem dX4_play_15 : decode cX4_play 15 = .ok (.bipush 63, 2) := by decide +kernel
theorem dX4_play_17 : decode cX4_play 17 = .ok (.iand, 1) := by decide +kernel
theorem dX4_play_18 : decode cX4_play 18 = .ok (.lconst 1, 1) := by decide +kernel
theorem dX4_play_19 : decode cX4_play 19 = .ok (.lastore, 1) := by decide +kernel
theorem dX4_play_20 : decode cX4_play 20 = .ok (.aload_n 0, 1) := by decide +kernel
theorem dX4_play_21 : decode cX4_play 21 = .ok (.lconst 1, 1) := by decide +kernel
theorem dX4_play_22 : decode cX4_play 22 = .ok (.putfield 24, 3) := by decide +kernel
theorem dX4_play_25 : decode cX4_play 25 = .ok (.iconst 0, 1) := by decide +kernel
theorem dX4_play_26 : decode cX4_play 26 = .ok (.istore 6, 2) := by decide +kernel
theorem dX4_play_28 : decode cX4_play 28 = .ok (.iload 6, 2) := by decide +kernel
theorem dX4_play_30 : decode cX4_play 30 = .ok (.iload 4, 2) := by decide +kernel
theorem dX4_play_32 : decode cX4_play 32 = .ok (.if_icmp .gt 38, 3) := by decide +kernel
theorem dX4_play_70 : decode cX4_play 70 = .ok (.return_, 1) := by decide +kernel
theorem dX4_play_35 : decode cX4_play 35 = .ok (.iload 6, 2) := by decide +kernel
theorem dX4_play_37 : decode cX4_play 37 = .ok (.bipush 8, 2) := by decide +kernel
theorem dX4_play_39 : decode cX4_play 39 = .ok (.if_icmp .gt 31, 3) := by decide +kernel
theorem dX4_play_42 : decode cX4_play 42 = .ok (.aload_n 0, 1) := by decide +kernel
theorem dX4_play_43 : decode cX4_play 43 = .ok (.aload_n 1, 1) := by decide +kernel
theorem dX4_play_44 : decode cX4_play 44 = .ok (.aload_n 2, 1) := by decide +kernel
theorem dX4_play_45 : decode cX4_play 45 = .ok (.iload 6, 2) := by decide +kernel
theorem dX4_play_47 : decode cX4_play 47 = .ok (.iload 5, 2) := by decide +kernel
theorem dX4_play_49 : decode cX4_play 49 = .ok (.invokevirtual 28, 3) := by decide +kernel
theorem dX4_playOne_0 : decode cX4_playOne 0 = .ok (.aload_n 0, 1) := by decide +kernel
theorem dX4_playOne_1 : decode cX4_playOne 1 = .ok (.getfield 15, 3) := by decide +kernel
theorem dX4_playOne_4 : decode cX4_playOne 4 = .ok (.lconst 0, 1) := by decide +kernel
theorem dX4_playOne_5 : decode cX4_playOne 5 = .ok (.invokestatic 18, 3) := by decide +kernel
theorem dX4_playOne_8 : decode cX4_playOne 8 = .ok (.iconst 0, 1) := by decide +kernel
theorem dX4_playOne_9 : decode cX4_playOne 9 = .ok (.istore 5, 2) := by decide +kernel
theorem dX4_playOne_11 : decode cX4_playOne 11 = .ok (.iload 5, 2) := by decide +kernel
theorem dX4_playOne_13 : decode cX4_playOne 13 = .ok (.bipush 64, 2) := by decide +kernel
theorem dX4_playOne_15 : decode cX4_playOne 15 = .ok (.if_icmp .ge 75, 3) := by decide +kernel
theorem dX4_playOne_18 : decode cX4_playOne 18 = .ok (.aload_n 0, 1) := by decide +kernel
theorem dX4_playOne_19 : decode cX4_playOne 19 = .ok (.getfield 9, 3) := by decide +kernel
theorem dX4_playOne_22 : decode cX4_playOne 22 = .ok (.iload 5, 2) := by decide +kernel
theorem dX4_playOne_24 : decode cX4_playOne 24 = .ok (.laload, 1) := by decide +kernel
theorem dX4_playOne_25 : decode cX4_playOne 25 = .ok (.lconst 0, 1) := by decide +kernel
theorem dX4_playOne_26 : decode cX4_playOne 26 = .ok (.lcmp, 1) := by decide +kernel
theorem dX4_playOne_27 : decode cX4_playOne 27 = .ok (.ifCond .eq 57, 3) := by decide +kernel
theorem dX4_playOne_84 : decode cX4_playOne 84 = .ok (.iinc 5 1, 3) := by decide +kernel
theorem dX4_playOne_87 : decode cX4_playOne 87 = .ok (.goto (-76), 3) := by decide +kernel
theorem dX4_playOne_30 : decode cX4_playOne 30 = .ok (.aload_n 0, 1) := by decide +kernel
theorem dX4_playOne_31 : decode cX4_playOne 31 = .ok (.getfield 15, 3) := by decide +kernel
theorem dX4_playOne_34 : decode cX4_playOne 34 = .ok (.iload 5, 2) := by decide +kernel
theorem dX4_playOne_36 : decode cX4_playOne 36 = .ok (.dup2, 1) := by decide +kernel
theorem dX4_playOne_37 : decode cX4_playOne 37 = .ok (.laload, 1) := by decide +kernel
theorem dX4_playOne_38 : decode cX4_playOne 38 = .ok (.aload_n 0, 1) := by decide +kernel
theorem dX4_playOne_39 : decode cX4_playOne 39 = .ok (.getfield 9, 3) := by decide +kernel
theorem dX4_playOne_42 : decode cX4_playOne 42 = .ok (.iload 5, 2) := by decide +kernel
theorem dX4_playOne_44 : decode cX4_playOne 44 = .ok (.laload, 1) := by decide +kernel
theorem dX4_playOne_45 : decode cX4_playOne 45 = .ok (.iload 4, 2) := by decide +kernel
theorem dX4_playOne_47 : decode cX4_playOne 47 = .ok (.i2l, 1) := by decide +kernel
theorem dX4_playOne_48 : decode cX4_playOne 48 = .ok (.lmul, 1) := by decide +kernel
theorem dX4_playOne_49 : decode cX4_playOne 49 = .ok (.ladd, 1) := by decide +kernel
theorem dX4_playOne_50 : decode cX4_playOne 50 = .ok (.lastore, 1) := by decide +kernel
theorem dX4_playOne_51 : decode cX4_playOne 51 = .ok (.aload_n 0, 1) := by decide +kernel
theorem dX4_playOne_52 : decode cX4_playOne 52 = .ok (.getfield 15, 3) := by decide +kernel
theorem dX4_playOne_55 : decode cX4_playOne 55 = .ok (.aload_n 2, 1) := by decide +kernel
theorem dX4_playOne_56 : decode cX4_playOne 56 = .ok (.aload_n 1, 1) := by decide +kernel
theorem dX4_playOne_57 : decode cX4_playOne 57 = .ok (.iload_n 3, 1) := by decide +kernel
theorem dX4_playOne_58 : decode cX4_playOne 58 = .ok (.iload 5, 2) := by decide +kernel
theorem dX4_playOne_60 : decode cX4_playOne 60 = .ok (.invokevirtual 34, 3) := by decide +kernel
theorem dX4_playOne_63 : decode cX4_playOne 63 = .ok (.bipush 63, 2) := by decide +kernel
theorem dX4_playOne_65 : decode cX4_playOne 65 = .ok (.iand, 1) := by decide +kernel
theorem dX4_playOne_66 : decode cX4_playOne 66 = .ok (.dup2, 1) := by decide +kernel
theorem dX4_playOne_67 : decode cX4_playOne 67 = .ok (.laload, 1) := by decide +kernel
theorem dX4_playOne_68 : decode cX4_playOne 68 = .ok (.aload_n 0, 1) := by decide +kernel
theorem dX4_playOne_69 : decode cX4_playOne 69 = .ok (.getfield 9, 3) := by decide +kernel
theorem dX4_playOne_72 : decode cX4_playOne 72 = .ok (.iload 5, 2) := by decide +kernel
theorem dX4_playOne_74 : decode cX4_playOne 74 = .ok (.laload, 1) := by decide +kernel
theorem dX4_playOne_75 : decode cX4_playOne 75 = .ok (.bipush 10, 2) := by decide +kernel
theorem dX4_playOne_77 : decode cX4_playOne 77 = .ok (.iload 4, 2) := by decide +kernel
theorem dX4_playOne_79 : decode cX4_playOne 79 = .ok (.isub, 1) := by decide +kernel
theorem dX4_playOne_80 : decode cX4_playOne 80 = .ok (.i2l, 1) := by decide +kernel
theorem dX4_playOne_81 : decode cX4_playOne 81 = .ok (.lmul, 1) := by decide +kernel
theorem dX4_playOne_82 : decode cX4_playOne 82 = .ok (.ladd, 1) := by decide +kernel
theorem dX4_playOne_83 : decode cX4_playOne 83 = .ok (.lastore, 1) := by decide +kernel
theorem dX4_playOne_90 : decode cX4_playOne 90 = .ok (.aload_n 0, 1) := by decide +kernel
theorem dX4_playOne_91 : decode cX4_playOne 91 = .ok (.getfield 9, 3) := by decide +kernel
theorem dX4_playOne_94 : decode cX4_playOne 94 = .ok (.astore 5, 2) := by decide +kernel
theorem dX4_playOne_96 : decode cX4_playOne 96 = .ok (.aload_n 0, 1) := by decide +kernel
theorem dX4_playOne_97 : decode cX4_playOne 97 = .ok (.aload_n 0, 1) := by decide +kernel
theorem dX4_playOne_98 : decode cX4_playOne 98 = .ok (.getfield 15, 3) := by decide +kernel
theorem dX4_playOne_101 : decode cX4_playOne 101 = .ok (.putfield 9, 3) := by decide +kernel
theorem dX4_playOne_104 : decode cX4_playOne 104 = .ok (.aload_n 0, 1) := by decide +kernel
theorem dX4_playOne_105 : decode cX4_playOne 105 = .ok (.aload 5, 2) := by decide +kernel
theorem dX4_playOne_107 : decode cX4_playOne 107 = .ok (.putfield 15, 3) := by decide +kernel
theorem dX4_playOne_110 : decode cX4_playOne 110 = .ok (.return_, 1) := by decide +kernel
theorem dX4_play_52 : decode cX4_play 52 = .ok (.aload_n 0, 1) := by decide +kernel
theorem dX4_play_53 : decode cX4_play 53 = .ok (.dup, 1) := by decide +kernel
theorem dX4_play_54 : decode cX4_play 54 = .ok (.getfield 24, 3) := by decide +kernel
theorem dX4_play_57 : decode cX4_play 57 = .ok (.ldc2_w 32, 3) := by decide +kernel
theorem dX4_play_60 : decode cX4_play 60 = .ok (.lmul, 1) := by decide +kernel
theorem dX4_play_61 : decode cX4_play 61 = .ok (.putfield 24, 3) := by decide +kernel
theorem dX4_play_64 : decode cX4_play 64 = .ok (.iinc 6 1, 3) := by decide +kernel
theorem dX4_play_67 : decode cX4_play 67 = .ok (.goto (-39), 3) := by decide +kernel
theorem dX9_chance_70 : decode cX9_chance 70 = .ok (.aload_n 0, 1) := by decide +kernel
theorem dX9_chance_71 : decode cX9_chance 71 = .ok (.getfield 85, 3) := by decide +kernel
theorem dX9_chance_74 : decode cX9_chance 74 = .ok (.iload_n 2, 1) := by decide +kernel
theorem dX9_chance_75 : decode cX9_chance 75 = .ok (.invokevirtual 371, 3) := by decide +kernel
theorem dX4_weightWith_0 : decode cX4_weightWith 0 = .ok (.lconst 0, 1) := by decide +kernel
theorem dX4_weightWith_1 : decode cX4_weightWith 1 = .ok (.lstore_n 2, 1) := by decide +kernel
theorem dX4_weightWith_2 : decode cX4_weightWith 2 = .ok (.iconst 0, 1) := by decide +kernel
theorem dX4_weightWith_3 : decode cX4_weightWith 3 = .ok (.istore 4, 2) := by decide +kernel
theorem dX4_weightWith_5 : decode cX4_weightWith 5 = .ok (.iload 4, 2) := by decide +kernel
theorem dX4_weightWith_7 : decode cX4_weightWith 7 = .ok (.bipush 64, 2) := by decide +kernel
theorem dX4_weightWith_9 : decode cX4_weightWith 9 = .ok (.if_icmp .ge 28, 3) := by decide +kernel
theorem dX4_weightWith_12 : decode cX4_weightWith 12 = .ok (.iload 4, 2) := by decide +kernel
theorem dX4_weightWith_14 : decode cX4_weightWith 14 = .ok (.iload_n 1, 1) := by decide +kernel
theorem dX4_weightWith_15 : decode cX4_weightWith 15 = .ok (.invokestatic 40, 3) := by decide +kernel
theorem dX4_weightWith_18 : decode cX4_weightWith 18 = .ok (.ifCond .eq 13, 3) := by decide +kernel
theorem dX4_weightWith_31 : decode cX4_weightWith 31 = .ok (.iinc 4 1, 3) := by decide +kernel
theorem dX4_weightWith_34 : decode cX4_weightWith 34 = .ok (.goto (-29), 3) := by decide +kernel
theorem dX4_weightWith_21 : decode cX4_weightWith 21 = .ok (.lload_n 2, 1) := by decide +kernel
theorem dX4_weightWith_22 : decode cX4_weightWith 22 = .ok (.aload_n 0, 1) := by decide +kernel
theorem dX4_weightWith_23 : decode cX4_weightWith 23 = .ok (.getfield 9, 3) := by decide +kernel
theorem dX4_weightWith_26 : decode cX4_weightWith 26 = .ok (.iload 4, 2) := by decide +kernel
theorem dX4_weightWith_28 : decode cX4_weightWith 28 = .ok (.laload, 1) := by decide +kernel
theorem dX4_weightWith_29 : decode cX4_weightWith 29 = .ok (.ladd, 1) := by decide +kernel
theorem dX4_weightWith_30 : decode cX4_weightWith 30 = .ok (.lstore_n 2, 1) := by decide +kernel
theorem dX4_weightWith_37 : decode cX4_weightWith 37 = .ok (.lload_n 2, 1) := by decide +kernel
theorem dX4_weightWith_38 : decode cX4_weightWith 38 = .ok (.lreturn, 1) := by decide +kernel
theorem dX9_chance_78 : decode cX9_chance 78 = .ok (.aload_n 0, 1) := by decide +kernel
theorem dX9_chance_79 : decode cX9_chance 79 = .ok (.getfield 85, 3) := by decide +kernel
theorem dX9_chance_82 : decode cX9_chance 82 = .ok (.getfield 374, 3) := by decide +kernel
theorem dX9_chance_85 : decode cX9_chance 85 = .ok (.iload 4, 2) := by decide +kernel
theorem dX9_chance_87 : decode cX9_chance 87 = .ok (.invokestatic 329, 3) := by decide +kernel
theorem dX9_chance_90 : decode cX9_chance 90 = .ok (.lreturn, 1) := by decide +kernel
theorem dX9_mean_0 : decode cX9_mean 0 = .ok (.aload_n 0, 1) := by decide +kernel
theorem dX9_mean_1 : decode cX9_mean 1 = .ok (.getfield 20, 3) := by decide +kernel
theorem dX9_mean_4 : decode cX9_mean 4 = .ok (.iload_n 1, 1) := by decide +kernel
theorem dX9_mean_5 : decode cX9_mean 5 = .ok (.invokevirtual 139, 3) := by decide +kernel
theorem dX9_mean_8 : decode cX9_mean 8 = .ok (.ifCond .eq 18, 3) := by decide +kernel
theorem dX9_mean_26 : decode cX9_mean 26 = .ok (.ldc2_w 362, 3) := by decide +kernel
theorem dX9_mean_29 : decode cX9_mean 29 = .ok (.lreturn, 1) := by decide +kernel
theorem dX9_mean_11 : decode cX9_mean 11 = .ok (.aload_n 0, 1) := by decide +kernel
theorem dX9_mean_12 : decode cX9_mean 12 = .ok (.iload_n 2, 1) := by decide +kernel
theorem dX9_mean_13 : decode cX9_mean 13 = .ok (.invokevirtual 359, 3) := by decide +kernel
theorem dX9_mean_16 : decode cX9_mean 16 = .ok (.ifCond .eq 10, 3) := by decide +kernel
theorem dX9_mean_19 : decode cX9_mean 19 = .ok (.iload_n 3, 1) := by decide +kernel
theorem dX9_mean_20 : decode cX9_mean 20 = .ok (.invokestatic 320, 3) := by decide +kernel
theorem dX9_mean_23 : decode cX9_mean 23 = .ok (.ifCond .ne 7, 3) := by decide +kernel
theorem dX9_mean_30 : decode cX9_mean 30 = .ok (.aload_n 0, 1) := by decide +kernel
theorem dX9_mean_31 : decode cX9_mean 31 = .ok (.invokevirtual 227, 3) := by decide +kernel
theorem dX9_mean_34 : decode cX9_mean 34 = .ok (.aload_n 0, 1) := by decide +kernel
theorem dX9_mean_35 : decode cX9_mean 35 = .ok (.getfield 85, 3) := by decide +kernel
theorem dX9_mean_38 : decode cX9_mean 38 = .ok (.aload_n 0, 1) := by decide +kernel
theorem dX9_mean_39 : decode cX9_mean 39 = .ok (.getfield 54, 3) := by decide +kernel
theorem dX9_mean_42 : decode cX9_mean 42 = .ok (.aload_n 0, 1) := by decide +kernel
theorem dX9_mean_43 : decode cX9_mean 43 = .ok (.getfield 64, 3) := by decide +kernel
theorem dX9_mean_46 : decode cX9_mean 46 = .ok (.iload_n 1, 1) := by decide +kernel
theorem dX9_mean_47 : decode cX9_mean 47 = .ok (.iload_n 2, 1) := by decide +kernel
theorem dX9_mean_48 : decode cX9_mean 48 = .ok (.aload_n 0, 1) := by decide +kernel
theorem dX9_mean_49 : decode cX9_mean 49 = .ok (.getfield 20, 3) := by decide +kernel
theorem dX9_mean_52 : decode cX9_mean 52 = .ok (.getfield 364, 3) := by decide +kernel
theorem dX9_mean_55 : decode cX9_mean 55 = .ok (.invokevirtual 367, 3) := by decide +kernel
theorem dX9_mean_58 : decode cX9_mean 58 = .ok (.aload_n 0, 1) := by decide +kernel
theorem dX9_mean_59 : decode cX9_mean 59 = .ok (.getfield 85, 3) := by decide +kernel
theorem dX9_mean_62 : decode cX9_mean 62 = .ok (.invokevirtual 377, 3) := by decide +kernel
theorem dX4_weightOfHolders_0 : decode cX4_weightOfHolders 0 = .ok (.lconst 0, 1) := by decide +kernel
theorem dX4_weightOfHolders_1 : decode cX4_weightOfHolders 1 = .ok (.lstore_n 1, 1) := by decide +kernel
theorem dX4_weightOfHolders_2 : decode cX4_weightOfHolders 2 = .ok (.iconst 0, 1) := by decide +kernel
theorem dX4_weightOfHolders_3 : decode cX4_weightOfHolders 3 = .ok (.istore_n 3, 1) := by decide +kernel
theorem dX4_weightOfHolders_4 : decode cX4_weightOfHolders 4 = .ok (.iload_n 3, 1) := by decide +kernel
theorem dX4_weightOfHolders_5 : decode cX4_weightOfHolders 5 = .ok (.bipush 64, 2) := by decide +kernel
theorem dX4_weightOfHolders_7 : decode cX4_weightOfHolders 7 = .ok (.if_icmp .ge 24, 3) := by decide +kernel
theorem dX4_weightOfHolders_10 : decode cX4_weightOfHolders 10 = .ok (.lload_n 1, 1) := by decide +kernel
theorem dX4_weightOfHolders_11 : decode cX4_weightOfHolders 11 = .ok (.aload_n 0, 1) := by decide +kernel
theorem dX4_weightOfHolders_12 : decode cX4_weightOfHolders 12 = .ok (.getfield 9, 3) := by decide +kernel
theorem dX4_weightOfHolders_15 : decode cX4_weightOfHolders 15 = .ok (.iload_n 3, 1) := by decide +kernel
theorem dX4_weightOfHolders_16 : decode cX4_weightOfHolders 16 = .ok (.laload, 1) := by decide +kernel
theorem dX4_weightOfHolders_17 : decode cX4_weightOfHolders 17 = .ok (.iload_n 3, 1) := by decide +kernel
theorem dX4_weightOfHolders_18 : decode cX4_weightOfHolders 18 = .ok (.invokestatic 44, 3) := by decide +kernel
theorem dX4_weightOfHolders_21 : decode cX4_weightOfHolders 21 = .ok (.i2l, 1) := by decide +kernel
theorem dX4_weightOfHolders_22 : decode cX4_weightOfHolders 22 = .ok (.lmul, 1) := by decide +kernel
theorem dX4_weightOfHolders_23 : decode cX4_weightOfHolders 23 = .ok (.ladd, 1) := by decide +kernel
theorem dX4_weightOfHolders_24 : decode cX4_weightOfHolders 24 = .ok (.lstore_n 1, 1) := by decide +kernel
theorem dX4_weightOfHolders_25 : decode cX4_weightOfHolders 25 = .ok (.iinc 3 1, 3) := by decide +kernel
theorem dX4_weightOfHolders_28 : decode cX4_weightOfHolders 28 = .ok (.goto (-24), 3) := by decide +kernel
theorem dX4_weightOfHolders_31 : decode cX4_weightOfHolders 31 = .ok (.lload_n 1, 1) := by decide +kernel
theorem dX4_weightOfHolders_32 : decode cX4_weightOfHolders 32 = .ok (.lreturn, 1) := by decide +kernel
theorem dX9_mean_65 : decode cX9_mean 65 = .ok (.aload_n 0, 1) := by decide +kernel
theorem dX9_mean_66 : decode cX9_mean 66 = .ok (.getfield 85, 3) := by decide +kernel
theorem dX9_mean_69 : decode cX9_mean 69 = .ok (.getfield 374, 3) := by decide +kernel
theorem dX9_mean_72 : decode cX9_mean 72 = .ok (.iload_n 3, 1) := by decide +kernel
theorem dX9_mean_73 : decode cX9_mean 73 = .ok (.invokestatic 329, 3) := by decide +kernel
theorem dX9_mean_76 : decode cX9_mean 76 = .ok (.lreturn, 1) := by decide +kernel
theorem dX9_bid_0 : decode cX9_bid 0 = .ok (.aload_n 0, 1) := by decide +kernel
theorem dX9_bid_1 : decode cX9_bid 1 = .ok (.getfield 20, 3) := by decide +kernel
theorem dX9_bid_4 : decode cX9_bid 4 = .ok (.iload_n 1, 1) := by decide +kernel
theorem dX9_bid_5 : decode cX9_bid 5 = .ok (.invokevirtual 139, 3) := by decide +kernel
theorem dX9_bid_8 : decode cX9_bid 8 = .ok (.ifCond .eq 24, 3) := by decide +kernel
theorem dX9_bid_32 : decode cX9_bid 32 = .ok (.bipush (-2), 2) := by decide +kernel
theorem dX9_bid_34 : decode cX9_bid 34 = .ok (.ireturn, 1) := by decide +kernel
theorem dX9_bid_11 : decode cX9_bid 11 = .ok (.aload_n 0, 1) := by decide +kernel
theorem dX9_bid_12 : decode cX9_bid 12 = .ok (.getfield 20, 3) := by decide +kernel
theorem dX9_bid_15 : decode cX9_bid 15 = .ok (.iload_n 2, 1) := by decide +kernel
theorem dX9_bid_16 : decode cX9_bid 16 = .ok (.invokevirtual 143, 3) := by decide +kernel
theorem dX9_bid_19 : decode cX9_bid 19 = .ok (.ifCond .eq 13, 3) := by decide +kernel
theorem dX9_bid_22 : decode cX9_bid 22 = .ok (.iload_n 3, 1) := by decide +kernel
theorem dX9_bid_23 : decode cX9_bid 23 = .ok (.ifCond .lt 9, 3) := by decide +kernel
theorem dX9_bid_26 : decode cX9_bid 26 = .ok (.iload_n 3, 1) := by decide +kernel
theorem dX9_bid_27 : decode cX9_bid 27 = .ok (.bipush 13, 2) := by decide +kernel
theorem dX9_bid_29 : decode cX9_bid 29 = .ok (.if_icmp .le 6, 3) := by decide +kernel
theorem dX9_bid_35 : decode cX9_bid 35 = .ok (.aload_n 0, 1) := by decide +kernel
theorem dX9_bid_36 : decode cX9_bid 36 = .ok (.getfield 20, 3) := by decide +kernel
theorem dX9_bid_39 : decode cX9_bid 39 = .ok (.getfield 400, 3) := by decide +kernel
theorem dX9_bid_42 : decode cX9_bid 42 = .ok (.invokevirtual 403, 3) := by decide +kernel
theorem dX8_isFull_0 : decode cX8_isFull 0 = .ok (.aload_n 0, 1) := by decide +kernel
theorem dX8_isFull_1 : decode cX8_isFull 1 = .ok (.getfield 28, 3) := by decide +kernel
theorem dX8_isFull_4 : decode cX8_isFull 4 = .ok (.aload_n 0, 1) := by decide +kernel
theorem dX8_isFull_5 : decode cX8_isFull 5 = .ok (.getfield 15, 3) := by decide +kernel
theorem dX8_isFull_8 : decode cX8_isFull 8 = .ok (.if_icmp .lt 7, 3) := by decide +kernel
theorem dX8_isFull_15 : decode cX8_isFull 15 = .ok (.iconst 0, 1) := by decide +kernel
theorem dX8_isFull_16 : decode cX8_isFull 16 = .ok (.ireturn, 1) := by decide +kernel
theorem dX8_isFull_11 : decode cX8_isFull 11 = .ok (.iconst 1, 1) := by decide +kernel
theorem dX8_isFull_12 : decode cX8_isFull 12 = .ok (.goto 4, 3) := by decide +kernel
theorem dX9_bid_45 : decode cX9_bid 45 = .ok (.ifCond .eq 6, 3) := by decide +kernel
theorem dX9_bid_51 : decode cX9_bid 51 = .ok (.aload_n 0, 1) := by decide +kernel
theorem dX9_bid_52 : decode cX9_bid 52 = .ok (.getfield 20, 3) := by decide +kernel
theorem dX9_bid_55 : decode cX9_bid 55 = .ok (.iload_n 1, 1) := by decide +kernel
theorem dX9_bid_56 : decode cX9_bid 56 = .ok (.iload_n 2, 1) := by decide +kernel
theorem dX9_bid_57 : decode cX9_bid 57 = .ok (.iload_n 3, 1) := by decide +kernel
theorem dX9_bid_58 : decode cX9_bid 58 = .ok (.invokevirtual 406, 3) := by decide +kernel
theorem dX0_actBid_0 : decode cX0_actBid 0 = .ok (.aload_n 0, 1) := by decide +kernel
theorem dX0_actBid_1 : decode cX0_actBid 1 = .ok (.getfield 29, 3) := by decide +kernel
theorem dX0_actBid_4 : decode cX0_actBid 4 = .ok (.iconst 0, 1) := by decide +kernel
theorem dX0_actBid_5 : decode cX0_actBid 5 = .ok (.iload_n 1, 1) := by decide +kernel
theorem dX0_actBid_6 : decode cX0_actBid 6 = .ok (.iload_n 2, 1) := by decide +kernel
theorem dX0_actBid_7 : decode cX0_actBid 7 = .ok (.iload_n 3, 1) := by decide +kernel
theorem dX0_actBid_8 : decode cX0_actBid 8 = .ok (.invokevirtual 74, 3) := by decide +kernel
theorem dX8_add_0 : decode cX8_add 0 = .ok (.aload_n 0, 1) := by decide +kernel
theorem dX8_add_1 : decode cX8_add 1 = .ok (.invokevirtual 35, 3) := by decide +kernel
theorem dX8_add_4 : decode cX8_add 4 = .ok (.ifCond .eq 4, 3) := by decide +kernel
theorem dX8_add_8 : decode cX8_add 8 = .ok (.aload_n 0, 1) := by decide +kernel
theorem dX8_add_9 : decode cX8_add 9 = .ok (.dup, 1) := by decide +kernel
theorem dX8_add_10 : decode cX8_add 10 = .ok (.getfield 28, 3) := by decide +kernel
theorem dX8_add_13 : decode cX8_add 13 = .ok (.iconst 1, 1) := by decide +kernel
theorem dX8_add_14 : decode cX8_add 14 = .ok (.iadd, 1) := by decide +kernel
theorem dX8_add_15 : decode cX8_add 15 = .ok (.putfield 28, 3) := by decide +kernel
theorem dX8_add_18 : decode cX8_add 18 = .ok (.aload_n 0, 1) := by decide +kernel
theorem dX8_add_19 : decode cX8_add 19 = .ok (.aload_n 0, 1) := by decide +kernel
theorem dX8_add_20 : decode cX8_add 20 = .ok (.getfield 28, 3) := by decide +kernel
theorem dX8_add_23 : decode cX8_add 23 = .ok (.iconst 1, 1) := by decide +kernel
theorem dX8_add_24 : decode cX8_add 24 = .ok (.isub, 1) := by decide +kernel
theorem dX8_add_25 : decode cX8_add 25 = .ok (.iconst 0, 1) := by decide +kernel
theorem dX8_add_26 : decode cX8_add 26 = .ok (.iload_n 1, 1) := by decide +kernel
theorem dX8_add_27 : decode cX8_add 27 = .ok (.invokevirtual 39, 3) := by decide +kernel
theorem dX8_put_0 : decode cX8_put 0 = .ok (.aload_n 0, 1) := by decide +kernel
theorem dX8_put_1 : decode cX8_put 1 = .ok (.iload_n 1, 1) := by decide +kernel
theorem dX8_put_2 : decode cX8_put 2 = .ok (.iload_n 2, 1) := by decide +kernel
theorem dX8_put_3 : decode cX8_put 3 = .ok (.invokevirtual 31, 3) := by decide +kernel
theorem dX8_put_6 : decode cX8_put 6 = .ok (.ifCond .eq 17, 3) := by decide +kernel
theorem dX8_put_23 : decode cX8_put 23 = .ok (.return_, 1) := by decide +kernel
theorem dX8_put_9 : decode cX8_put 9 = .ok (.aload_n 0, 1) := by decide +kernel
theorem dX8_put_10 : decode cX8_put 10 = .ok (.getfield 24, 3) := by decide +kernel
theorem dX8_put_13 : decode cX8_put 13 = .ok (.iload_n 1, 1) := by decide +kernel
theorem dX8_put_14 : decode cX8_put 14 = .ok (.aload_n 0, 1) := by decide +kernel
theorem dX8_put_15 : decode cX8_put 15 = .ok (.getfield 21, 3) := by decide +kernel
theorem dX8_put_18 : decode cX8_put 18 = .ok (.imul, 1) := by decide +kernel
theorem dX8_put_19 : decode cX8_put 19 = .ok (.iload_n 2, 1) := by decide +kernel
theorem dX8_put_20 : decode cX8_put 20 = .ok (.iadd, 1) := by decide +kernel
theorem dX8_put_21 : decode cX8_put 21 = .ok (.iload_n 3, 1) := by decide +kernel
theorem dX8_put_22 : decode cX8_put 22 = .ok (.iastore, 1) := by decide +kernel
theorem dX8_add_30 : decode cX8_add 30 = .ok (.aload_n 0, 1) := by decide +kernel
theorem dX8_add_31 : decode cX8_add 31 = .ok (.aload_n 0, 1) := by decide +kernel
theorem dX8_add_32 : decode cX8_add 32 = .ok (.getfield 28, 3) := by decide +kernel
theorem dX8_add_35 : decode cX8_add 35 = .ok (.iconst 1, 1) := by decide +kernel
theorem dX8_add_36 : decode cX8_add 36 = .ok (.isub, 1) := by decide +kernel
theorem dX8_add_37 : decode cX8_add 37 = .ok (.iconst 1, 1) := by decide +kernel
theorem dX8_add_38 : decode cX8_add 38 = .ok (.iload_n 2, 1) := by decide +kernel
theorem dX8_add_39 : decode cX8_add 39 = .ok (.invokevirtual 39, 3) := by decide +kernel
theorem dX8_add_42 : decode cX8_add 42 = .ok (.aload_n 0, 1) := by decide +kernel
theorem dX8_add_43 : decode cX8_add 43 = .ok (.aload_n 0, 1) := by decide +kernel
theorem dX8_add_44 : decode cX8_add 44 = .ok (.getfield 28, 3) := by decide +kernel
theorem dX8_add_47 : decode cX8_add 47 = .ok (.iconst 1, 1) := by decide +kernel
theorem dX8_add_48 : decode cX8_add 48 = .ok (.isub, 1) := by decide +kernel
theorem dX8_add_49 : decode cX8_add 49 = .ok (.iconst 2, 1) := by decide +kernel
theorem dX8_add_50 : decode cX8_add 50 = .ok (.iload_n 3, 1) := by decide +kernel
theorem dX8_add_51 : decode cX8_add 51 = .ok (.invokevirtual 39, 3) := by decide +kernel
theorem dX8_add_54 : decode cX8_add 54 = .ok (.aload_n 0, 1) := by decide +kernel
theorem dX8_add_55 : decode cX8_add 55 = .ok (.aload_n 0, 1) := by decide +kernel
theorem dX8_add_56 : decode cX8_add 56 = .ok (.getfield 28, 3) := by decide +kernel
theorem dX8_add_59 : decode cX8_add 59 = .ok (.iconst 1, 1) := by decide +kernel
theorem dX8_add_60 : decode cX8_add 60 = .ok (.isub, 1) := by decide +kernel
theorem dX8_add_61 : decode cX8_add 61 = .ok (.iconst 3, 1) := by decide +kernel
theorem dX8_add_62 : decode cX8_add 62 = .ok (.iload 4, 2) := by decide +kernel
theorem dX8_add_64 : decode cX8_add 64 = .ok (.invokevirtual 39, 3) := by decide +kernel
theorem dX8_add_67 : decode cX8_add 67 = .ok (.return_, 1) := by decide +kernel
theorem dX8_add_7 : decode cX8_add 7 = .ok (.return_, 1) := by decide +kernel
theorem dX0_actBid_11 : decode cX0_actBid 11 = .ok (.return_, 1) := by decide +kernel
theorem dX9_bid_61 : decode cX9_bid 61 = .ok (.aload_n 0, 1) := by decide +kernel
theorem dX9_bid_62 : decode cX9_bid 62 = .ok (.invokevirtual 107, 3) := by decide +kernel
theorem dX9_settle_0 : decode cX9_settle 0 = .ok (.aload_n 0, 1) := by decide +kernel
theorem dX9_settle_1 : decode cX9_settle 1 = .ok (.getfield 54, 3) := by decide +kernel
theorem dX9_settle_4 : decode cX9_settle 4 = .ok (.aload_n 0, 1) := by decide +kernel
theorem dX9_settle_5 : decode cX9_settle 5 = .ok (.getfield 20, 3) := by decide +kernel
theorem dX9_settle_8 : decode cX9_settle 8 = .ok (.iconst (-1), 1) := by decide +kernel
theorem dX9_settle_9 : decode cX9_settle 9 = .ok (.iconst 0, 1) := by decide +kernel
theorem dX9_settle_10 : decode cX9_settle 10 = .ok (.invokevirtual 116, 3) := by decide +kernel
theorem dX9_settle_13 : decode cX9_settle 13 = .ok (.return_, 1) := by decide +kernel
theorem dX9_bid_65 : decode cX9_bid 65 = .ok (.aload_n 0, 1) := by decide +kernel
theorem dX9_bid_66 : decode cX9_bid 66 = .ok (.getfield 54, 3) := by decide +kernel
theorem dX9_bid_69 : decode cX9_bid 69 = .ok (.iload_n 1, 1) := by decide +kernel
theorem dX9_bid_70 : decode cX9_bid 70 = .ok (.aload_n 0, 1) := by decide +kernel
theorem dX9_bid_71 : decode cX9_bid 71 = .ok (.getfield 20, 3) := by decide +kernel
theorem dX9_bid_74 : decode cX9_bid 74 = .ok (.getfield 169, 3) := by decide +kernel
theorem dX9_bid_77 : decode cX9_bid 77 = .ok (.invokevirtual 159, 3) := by decide +kernel
theorem dX9_bid_80 : decode cX9_bid 80 = .ok (.ireturn, 1) := by decide +kernel
theorem dX9_bid_48 : decode cX9_bid 48 = .ok (.bipush (-5), 2) := by decide +kernel
theorem dX9_bid_50 : decode cX9_bid 50 = .ok (.ireturn, 1) := by decide +kernel
theorem dX9_move_0 : decode cX9_move 0 = .ok (.aload_n 0, 1) := by decide +kernel
theorem dX9_move_1 : decode cX9_move 1 = .ok (.getfield 20, 3) := by decide +kernel
theorem dX9_move_4 : decode cX9_move 4 = .ok (.getfield 136, 3) := by decide +kernel
theorem dX9_move_7 : decode cX9_move 7 = .ok (.iload_n 1, 1) := by decide +kernel
theorem dX9_move_8 : decode cX9_move 8 = .ok (.invokevirtual 257, 3) := by decide +kernel
theorem dX9_move_11 : decode cX9_move 11 = .ok (.ifCond .eq 14, 3) := by decide +kernel
theorem dX9_move_25 : decode cX9_move 25 = .ok (.bipush (-2), 2) := by decide +kernel
theorem dX9_move_27 : decode cX9_move 27 = .ok (.ireturn, 1) := by decide +kernel
theorem dX9_move_14 : decode cX9_move 14 = .ok (.aload_n 0, 1) := by decide +kernel
theorem dX9_move_15 : decode cX9_move 15 = .ok (.getfield 20, 3) := by decide +kernel
theorem dX9_move_18 : decode cX9_move 18 = .ok (.iload_n 2, 1) := by decide +kernel
theorem dX9_move_19 : decode cX9_move 19 = .ok (.invokevirtual 139, 3) := by decide +kernel
theorem dX9_move_22 : decode cX9_move 22 = .ok (.ifCond .ne 6, 3) := by decide +kernel
theorem dX9_move_28 : decode cX9_move 28 = .ok (.aload_n 0, 1) := by decide +kernel
theorem dX9_move_29 : decode cX9_move 29 = .ok (.getfield 20, 3) := by decide +kernel
theorem dX9_move_32 : decode cX9_move 32 = .ok (.getfield 400, 3) := by decide +kernel
theorem dX9_move_35 : decode cX9_move 35 = .ok (.invokevirtual 403, 3) := by decide +kernel
theorem dX9_move_38 : decode cX9_move 38 = .ok (.ifCond .eq 6, 3) := by decide +kernel
theorem dX9_move_44 : decode cX9_move 44 = .ok (.aload_n 0, 1) := by decide +kernel
theorem dX9_move_45 : decode cX9_move 45 = .ok (.getfield 20, 3) := by decide +kernel
theorem dX9_move_48 : decode cX9_move 48 = .ok (.getfield 136, 3) := by decide +kernel
theorem dX9_move_51 : decode cX9_move 51 = .ok (.iload_n 1, 1) := by decide +kernel
theorem dX9_move_52 : decode cX9_move 52 = .ok (.iconst 0, 1) := by decide +kernel
theorem dX9_move_53 : decode cX9_move 53 = .ok (.invokevirtual 129, 3) := by decide +kernel
theorem dX9_move_56 : decode cX9_move 56 = .ok (.istore_n 3, 1) := by decide +kernel
theorem dX9_move_57 : decode cX9_move 57 = .ok (.aload_n 0, 1) := by decide +kernel
theorem dX9_move_58 : decode cX9_move 58 = .ok (.getfield 20, 3) := by decide +kernel
theorem dX9_move_61 : decode cX9_move 61 = .ok (.iload_n 1, 1) := by decide +kernel
theorem dX9_move_62 : decode cX9_move 62 = .ok (.iload_n 2, 1) := by decide +kernel
theorem dX9_move_63 : decode cX9_move 63 = .ok (.invokevirtual 410, 3) := by decide +kernel
theorem dX0_actMove_0 : decode cX0_actMove 0 = .ok (.aload_n 0, 1) := by decide +kernel
theorem dX0_actMove_1 : decode cX0_actMove 1 = .ok (.getfield 29, 3) := by decide +kernel
theorem dX0_actMove_4 : decode cX0_actMove 4 = .ok (.iconst 1, 1) := by decide +kernel
theorem dX0_actMove_5 : decode cX0_actMove 5 = .ok (.iload_n 1, 1) := by decide +kernel
theorem dX0_actMove_6 : decode cX0_actMove 6 = .ok (.iload_n 2, 1) := by decide +kernel
theorem dX0_actMove_7 : decode cX0_actMove 7 = .ok (.aload_n 0, 1) := by decide +kernel
theorem dX0_actMove_8 : decode cX0_actMove 8 = .ok (.getfield 23, 3) := by decide +kernel
theorem dX0_actMove_11 : decode cX0_actMove 11 = .ok (.iload_n 1, 1) := by decide +kernel
theorem dX0_actMove_12 : decode cX0_actMove 12 = .ok (.iconst 0, 1) := by decide +kernel
theorem dX0_actMove_13 : decode cX0_actMove 13 = .ok (.invokevirtual 70, 3) := by decide +kernel
theorem dX0_actMove_16 : decode cX0_actMove 16 = .ok (.invokevirtual 74, 3) := by decide +kernel
theorem dX0_actMove_19 : decode cX0_actMove 19 = .ok (.aload_n 0, 1) := by decide +kernel
theorem dX0_actMove_20 : decode cX0_actMove 20 = .ok (.getfield 23, 3) := by decide +kernel
theorem dX0_actMove_23 : decode cX0_actMove 23 = .ok (.iload_n 1, 1) := by decide +kernel
theorem dX0_actMove_24 : decode cX0_actMove 24 = .ok (.iconst 0, 1) := by decide +kernel
theorem dX0_actMove_25 : decode cX0_actMove 25 = .ok (.iload_n 2, 1) := by decide +kernel
theorem dX0_actMove_26 : decode cX0_actMove 26 = .ok (.invokevirtual 78, 3) := by decide +kernel
theorem dX0_actMove_29 : decode cX0_actMove 29 = .ok (.return_, 1) := by decide +kernel
theorem dX9_move_66 : decode cX9_move 66 = .ok (.iload_n 3, 1) := by decide +kernel
theorem dX9_move_67 : decode cX9_move 67 = .ok (.ireturn, 1) := by decide +kernel
theorem dX9_move_41 : decode cX9_move 41 = .ok (.bipush (-5), 2) := by decide +kernel
theorem dX9_move_43 : decode cX9_move 43 = .ok (.ireturn, 1) := by decide +kernel
theorem dX9_undo_0 : decode cX9_undo 0 = .ok (.aload_n 0, 1) := by decide +kernel
theorem dX9_undo_1 : decode cX9_undo 1 = .ok (.getfield 20, 3) := by decide +kernel
theorem dX9_undo_4 : decode cX9_undo 4 = .ok (.invokevirtual 184, 3) := by decide +kernel
theorem dX9_undo_7 : decode cX9_undo 7 = .ok (.ifCond .ne 6, 3) := by decide +kernel
theorem dX9_undo_13 : decode cX9_undo 13 = .ok (.aload_n 0, 1) := by decide +kernel
theorem dX9_undo_14 : decode cX9_undo 14 = .ok (.getfield 20, 3) := by decide +kernel
theorem dX9_undo_17 : decode cX9_undo 17 = .ok (.getfield 400, 3) := by decide +kernel
theorem dX9_undo_20 : decode cX9_undo 20 = .ok (.getfield 200, 3) := by decide +kernel
theorem dX9_undo_23 : decode cX9_undo 23 = .ok (.ifCond .ne 6, 3) := by decide +kernel
theorem dX9_undo_29 : decode cX9_undo 29 = .ok (.aload_n 0, 1) := by decide +kernel
theorem dX9_undo_30 : decode cX9_undo 30 = .ok (.getfield 20, 3) := by decide +kernel
theorem dX9_undo_33 : decode cX9_undo 33 = .ok (.invokevirtual 414, 3) := by decide +kernel
theorem dX0_takeBack_0 : decode cX0_takeBack 0 = .ok (.aload_n 0, 1) := by decide +kernel
theorem dX0_takeBack_1 : decode cX0_takeBack 1 = .ok (.getfield 29, 3) := by decide +kernel
theorem dX0_takeBack_4 : decode cX0_takeBack 4 = .ok (.getfield 67, 3) := by decide +kernel
theorem dX0_takeBack_7 : decode cX0_takeBack 7 = .ok (.iconst 1, 1) := by decide +kernel
theorem dX0_takeBack_8 : decode cX0_takeBack 8 = .ok (.isub, 1) := by decide +kernel
theorem dX0_takeBack_9 : decode cX0_takeBack 9 = .ok (.istore_n 1, 1) := by decide +kernel
theorem dX0_takeBack_10 : decode cX0_takeBack 10 = .ok (.aload_n 0, 1) := by decide +kernel
theorem dX0_takeBack_11 : decode cX0_takeBack 11 = .ok (.getfield 29, 3) := by decide +kernel
theorem dX0_takeBack_14 : decode cX0_takeBack 14 = .ok (.iload_n 1, 1) := by decide +kernel
theorem dX0_takeBack_15 : decode cX0_takeBack 15 = .ok (.iconst 0, 1) := by decide +kernel
theorem dX0_takeBack_16 : decode cX0_takeBack 16 = .ok (.invokevirtual 70, 3) := by decide +kernel
theorem dX0_takeBack_19 : decode cX0_takeBack 19 = .ok (.iconst 1, 1) := by decide +kernel
theorem dX0_takeBack_20 : decode cX0_takeBack 20 = .ok (.if_icmp .ne 29, 3) := by decide +kernel
theorem dX0_takeBack_49 : decode cX0_takeBack 49 = .ok (.aload_n 0, 1) := by decide +kernel
theorem dX0_takeBack_50 : decode cX0_takeBack 50 = .ok (.getfield 29, 3) := by decide +kernel
theorem dX0_takeBack_53 : decode cX0_takeBack 53 = .ok (.invokevirtual 82, 3) := by decide +kernel
theorem dX8_dropLast_0 : decode cX8_dropLast 0 = .ok (.aload_n 0, 1) := by decide +kernel
theorem dX8_dropLast_1 : decode cX8_dropLast 1 = .ok (.iconst 0, 1) := by decide +kernel
theorem dX8_dropLast_2 : decode cX8_dropLast 2 = .ok (.aload_n 0, 1) := by decide +kernel
theorem dX8_dropLast_3 : decode cX8_dropLast 3 = .ok (.getfield 28, 3) := by decide +kernel
theorem dX8_dropLast_6 : decode cX8_dropLast 6 = .ok (.iconst 1, 1) := by decide +kernel
theorem dX8_dropLast_7 : decode cX8_dropLast 7 = .ok (.isub, 1) := by decide +kernel
theorem dX8_dropLast_8 : decode cX8_dropLast 8 = .ok (.invokestatic 9, 3) := by decide +kernel
theorem dX8_dropLast_11 : decode cX8_dropLast 11 = .ok (.putfield 28, 3) := by decide +kernel
theorem dX8_dropLast_14 : decode cX8_dropLast 14 = .ok (.return_, 1) := by decide +kernel
theorem dX0_takeBack_56 : decode cX0_takeBack 56 = .ok (.return_, 1) := by decide +kernel
theorem dX0_takeBack_23 : decode cX0_takeBack 23 = .ok (.aload_n 0, 1) := by decide +kernel
theorem dX0_takeBack_24 : decode cX0_takeBack 24 = .ok (.getfield 23, 3) := by decide +kernel
theorem dX0_takeBack_27 : decode cX0_takeBack 27 = .ok (.aload_n 0, 1) := by decide +kernel
theorem dX0_takeBack_28 : decode cX0_takeBack 28 = .ok (.getfield 29, 3) := by decide +kernel
theorem dX0_takeBack_31 : decode cX0_takeBack 31 = .ok (.iload_n 1, 1) := by decide +kernel
theorem dX0_takeBack_32 : decode cX0_takeBack 32 = .ok (.iconst 1, 1) := by decide +kernel
theorem dX0_takeBack_33 : decode cX0_takeBack 33 = .ok (.invokevirtual 70, 3) := by decide +kernel
theorem dX0_takeBack_36 : decode cX0_takeBack 36 = .ok (.iconst 0, 1) := by decide +kernel
theorem dX0_takeBack_37 : decode cX0_takeBack 37 = .ok (.aload_n 0, 1) := by decide +kernel
theorem dX0_takeBack_38 : decode cX0_takeBack 38 = .ok (.getfield 29, 3) := by decide +kernel
theorem dX0_takeBack_41 : decode cX0_takeBack 41 = .ok (.iload_n 1, 1) := by decide +kernel
theorem dX0_takeBack_42 : decode cX0_takeBack 42 = .ok (.iconst 3, 1) := by decide +kernel
theorem dX0_takeBack_43 : decode cX0_takeBack 43 = .ok (.invokevirtual 70, 3) := by decide +kernel
theorem dX0_takeBack_46 : decode cX0_takeBack 46 = .ok (.invokevirtual 78, 3) := by decide +kernel
theorem dX9_undo_36 : decode cX9_undo 36 = .ok (.aload_n 0, 1) := by decide +kernel
theorem dX9_undo_37 : decode cX9_undo 37 = .ok (.invokevirtual 107, 3) := by decide +kernel
theorem dX9_undo_40 : decode cX9_undo 40 = .ok (.aload_n 0, 1) := by decide +kernel
theorem dX9_undo_41 : decode cX9_undo 41 = .ok (.getfield 20, 3) := by decide +kernel
theorem dX9_undo_44 : decode cX9_undo 44 = .ok (.getfield 400, 3) := by decide +kernel
theorem dX9_undo_47 : decode cX9_undo 47 = .ok (.getfield 200, 3) := by decide +kernel
theorem dX9_undo_50 : decode cX9_undo 50 = .ok (.ireturn, 1) := by decide +kernel
theorem dX9_undo_26 : decode cX9_undo 26 = .ok (.bipush (-5), 2) := by decide +kernel
theorem dX9_undo_28 : decode cX9_undo 28 = .ok (.ireturn, 1) := by decide +kernel
theorem dX9_undo_10 : decode cX9_undo 10 = .ok (.bipush (-2), 2) := by decide +kernel
theorem dX9_undo_12 : decode cX9_undo 12 = .ok (.ireturn, 1) := by decide +kernel
theorem dX9_anew_0 : decode cX9_anew 0 = .ok (.aload_n 0, 1) := by decide +kernel
theorem dX9_anew_1 : decode cX9_anew 1 = .ok (.getfield 20, 3) := by decide +kernel
theorem dX9_anew_4 : decode cX9_anew 4 = .ok (.invokevirtual 184, 3) := by decide +kernel
theorem dX9_anew_7 : decode cX9_anew 7 = .ok (.ifCond .ne 6, 3) := by decide +kernel
theorem dX9_anew_13 : decode cX9_anew 13 = .ok (.aload_n 0, 1) := by decide +kernel
theorem dX9_anew_14 : decode cX9_anew 14 = .ok (.getfield 20, 3) := by decide +kernel
theorem dX9_anew_17 : decode cX9_anew 17 = .ok (.getfield 400, 3) := by decide +kernel
theorem dX9_anew_20 : decode cX9_anew 20 = .ok (.getfield 200, 3) := by decide +kernel
theorem dX9_anew_23 : decode cX9_anew 23 = .ok (.istore_n 1, 1) := by decide +kernel
theorem dX9_anew_24 : decode cX9_anew 24 = .ok (.iconst 0, 1) := by decide +kernel
theorem dX9_anew_25 : decode cX9_anew 25 = .ok (.istore_n 2, 1) := by decide +kernel
theorem dX9_anew_26 : decode cX9_anew 26 = .ok (.iload_n 2, 1) := by decide +kernel
theorem dX9_anew_27 : decode cX9_anew 27 = .ok (.iload_n 1, 1) := by decide +kernel
theorem dX9_anew_28 : decode cX9_anew 28 = .ok (.if_icmp .ge 16, 3) := by decide +kernel
theorem dX9_anew_44 : decode cX9_anew 44 = .ok (.aload_n 0, 1) := by decide +kernel
theorem dX9_anew_45 : decode cX9_anew 45 = .ok (.invokevirtual 107, 3) := by decide +kernel
theorem dX9_anew_48 : decode cX9_anew 48 = .ok (.iload_n 1, 1) := by decide +kernel
theorem dX9_anew_49 : decode cX9_anew 49 = .ok (.ireturn, 1) := by decide +kernel
theorem dX9_anew_31 : decode cX9_anew 31 = .ok (.aload_n 0, 1) := by decide +kernel
theorem dX9_anew_32 : decode cX9_anew 32 = .ok (.getfield 20, 3) := by decide +kernel
theorem dX9_anew_35 : decode cX9_anew 35 = .ok (.invokevirtual 414, 3) := by decide +kernel
theorem dX9_anew_38 : decode cX9_anew 38 = .ok (.iinc 2 1, 3) := by decide +kernel
theorem dX9_anew_41 : decode cX9_anew 41 = .ok (.goto (-15), 3) := by decide +kernel
theorem dX9_anew_10 : decode cX9_anew 10 = .ok (.bipush (-2), 2) := by decide +kernel
theorem dX9_anew_12 : decode cX9_anew 12 = .ok (.ireturn, 1) := by decide +kernel
theorem dX9_drawn_0 : decode cX9_drawn 0 = .ok (.iload_n 1, 1) := by decide +kernel
theorem dX9_drawn_1 : decode cX9_drawn 1 = .ok (.invokestatic 381, 3) := by decide +kernel
theorem dX9_isSeed_0 : decode cX9_isSeed 0 = .ok (.iload_n 0, 1) := by decide +kernel
theorem dX9_isSeed_1 : decode cX9_isSeed 1 = .ok (.ifCond .lt 14, 3) := by decide +kernel
theorem dX9_isSeed_15 : decode cX9_isSeed 15 = .ok (.iconst 0, 1) := by decide +kernel
theorem dX9_isSeed_16 : decode cX9_isSeed 16 = .ok (.ireturn, 1) := by decide +kernel
theorem dX9_isSeed_4 : decode cX9_isSeed 4 = .ok (.iload_n 0, 1) := by decide +kernel
theorem dX9_isSeed_5 : decode cX9_isSeed 5 = .ok (.ldc_w 448, 3) := by decide +kernel
theorem dX9_isSeed_8 : decode cX9_isSeed 8 = .ok (.if_icmp .gt 7, 3) := by decide +kernel
theorem dX9_isSeed_11 : decode cX9_isSeed 11 = .ok (.iconst 1, 1) := by decide +kernel
theorem dX9_isSeed_12 : decode cX9_isSeed 12 = .ok (.goto 4, 3) := by decide +kernel
theorem dX9_drawn_4 : decode cX9_drawn 4 = .ok (.ifCond .eq 21, 3) := by decide +kernel
theorem dX9_drawn_25 : decode cX9_drawn 25 = .ok (.bipush (-2), 2) := by decide +kernel
theorem dX9_drawn_27 : decode cX9_drawn 27 = .ok (.ireturn, 1) := by decide +kernel
theorem dX9_drawn_7 : decode cX9_drawn 7 = .ok (.aload_n 0, 1) := by decide +kernel
theorem dX9_drawn_8 : decode cX9_drawn 8 = .ok (.getfield 20, 3) := by decide +kernel
theorem dX9_drawn_11 : decode cX9_drawn 11 = .ok (.iload_n 2, 1) := by decide +kernel
theorem dX9_drawn_12 : decode cX9_drawn 12 = .ok (.invokevirtual 139, 3) := by decide +kernel
theorem dX9_drawn_15 : decode cX9_drawn 15 = .ok (.ifCond .eq 10, 3) := by decide +kernel
theorem dX9_drawn_18 : decode cX9_drawn 18 = .ok (.iload_n 3, 1) := by decide +kernel
theorem dX9_drawn_19 : decode cX9_drawn 19 = .ok (.invokestatic 320, 3) := by decide +kernel
theorem dX9_drawn_22 : decode cX9_drawn 22 = .ok (.ifCond .ne 6, 3) := by decide +kernel
theorem dX9_drawn_28 : decode cX9_drawn 28 = .ok (.aload_n 0, 1) := by decide +kernel
theorem dX9_drawn_29 : decode cX9_drawn 29 = .ok (.invokevirtual 227, 3) := by decide +kernel
theorem dX9_drawn_32 : decode cX9_drawn 32 = .ok (.aload_n 0, 1) := by decide +kernel
theorem dX9_drawn_33 : decode cX9_drawn 33 = .ok (.iload_n 1, 1) := by decide +kernel
theorem dX9_drawn_34 : decode cX9_drawn 34 = .ok (.invokevirtual 384, 3) := by decide +kernel
theorem dX9_loudDances_0 : decode cX9_loudDances 0 = .ok (.iload_n 1, 1) := by decide +kernel
theorem dX9_loudDances_1 : decode cX9_loudDances 1 = .ok (.i2l, 1) := by decide +kernel
theorem dX9_loudDances_2 : decode cX9_loudDances 2 = .ok (.lstore_n 2, 1) := by decide +kernel
theorem dX9_loudDances_3 : decode cX9_loudDances 3 = .ok (.iconst 0, 1) := by decide +kernel
theorem dX9_loudDances_4 : decode cX9_loudDances 4 = .ok (.istore 4, 2) := by decide +kernel
theorem dX9_loudDances_6 : decode cX9_loudDances 6 = .ok (.iconst 0, 1) := by decide +kernel
theorem dX9_loudDances_7 : decode cX9_loudDances 7 = .ok (.istore 5, 2) := by decide +kernel
theorem dX9_loudDances_9 : decode cX9_loudDances 9 = .ok (.iload 5, 2) := by decide +kernel
theorem dX9_loudDances_11 : decode cX9_loudDances 11 = .ok (.aload_n 0, 1) := by decide +kernel
theorem dX9_loudDances_12 : decode cX9_loudDances 12 = .ok (.getfield 20, 3) := by decide +kernel
theorem dX9_loudDances_15 : decode cX9_loudDances 15 = .ok (.getfield 169, 3) := by decide +kernel
theorem dX9_loudDances_18 : decode cX9_loudDances 18 = .ok (.if_icmp .gt 53, 3) := by decide +kernel
theorem dX9_loudDances_21 : decode cX9_loudDances 21 = .ok (.ldc2_w 390, 3) := by decide +kernel
theorem dX9_loudDances_24 : decode cX9_loudDances 24 = .ok (.lload_n 2, 1) := by decide +kernel
theorem dX9_loudDances_25 : decode cX9_loudDances 25 = .ok (.lmul, 1) := by decide +kernel
theorem dX9_loudDances_26 : decode cX9_loudDances 26 = .ok (.ldc2_w 392, 3) := by decide +kernel
theorem dX9_loudDances_29 : decode cX9_loudDances 29 = .ok (.ladd, 1) := by decide +kernel
theorem dX9_loudDances_30 : decode cX9_loudDances 30 = .ok (.ldc2_w 394, 3) := by decide +kernel
theorem dX9_loudDances_33 : decode cX9_loudDances 33 = .ok (.lrem, 1) := by decide +kernel
theorem dX9_loudDances_34 : decode cX9_loudDances 34 = .ok (.lstore_n 2, 1) := by decide +kernel
theorem dX9_loudDances_35 : decode cX9_loudDances 35 = .ok (.lload_n 2, 1) := by decide +kernel
theorem dX9_loudDances_36 : decode cX9_loudDances 36 = .ok (.ldc2_w 396, 3) := by decide +kernel
theorem dX9_loudDances_39 : decode cX9_loudDances 39 = .ok (.ldiv, 1) := by decide +kernel
theorem dX9_loudDances_40 : decode cX9_loudDances 40 = .ok (.ldc2_w 398, 3) := by decide +kernel
theorem dX9_loudDances_43 : decode cX9_loudDances 43 = .ok (.lrem, 1) := by decide +kernel
theorem dX9_loudDances_44 : decode cX9_loudDances 44 = .ok (.aload_n 0, 1) := by decide +kernel
theorem dX9_loudDances_45 : decode cX9_loudDances 45 = .ok (.getfield 20, 3) := by decide +kernel
theorem dX9_loudDances_48 : decode cX9_loudDances 48 = .ok (.getfield 364, 3) := by decide +kernel
theorem dX9_loudDances_51 : decode cX9_loudDances 51 = .ok (.i2l, 1) := by decide +kernel
theorem dX9_loudDances_52 : decode cX9_loudDances 52 = .ok (.lcmp, 1) := by decide +kernel
theorem dX9_loudDances_53 : decode cX9_loudDances 53 = .ok (.ifCond .ge 12, 3) := by decide +kernel
theorem dX9_loudDances_65 : decode cX9_loudDances 65 = .ok (.iinc 5 1, 3) := by decide +kernel
theorem dX9_loudDances_68 : decode cX9_loudDances 68 = .ok (.goto (-59), 3) := by decide +kernel
theorem dX9_loudDances_56 : decode cX9_loudDances 56 = .ok (.iload 4, 2) := by decide +kernel
theorem dX9_loudDances_58 : decode cX9_loudDances 58 = .ok (.iconst 1, 1) := by decide +kernel
theorem dX9_loudDances_59 : decode cX9_loudDances 59 = .ok (.iload 5, 2) := by decide +kernel
theorem dX9_loudDances_61 : decode cX9_loudDances 61 = .ok (.ishl, 1) := by decide +kernel
theorem dX9_loudDances_62 : decode cX9_loudDances 62 = .ok (.ior, 1) := by decide +kernel
theorem dX9_loudDances_63 : decode cX9_loudDances 63 = .ok (.istore 4, 2) := by decide +kernel
theorem dX9_loudDances_71 : decode cX9_loudDances 71 = .ok (.iload 4, 2) := by decide +kernel
theorem dX9_loudDances_73 : decode cX9_loudDances 73 = .ok (.ireturn, 1) := by decide +kernel
theorem dX9_drawn_37 : decode cX9_drawn 37 = .ok (.istore 4, 2) := by decide +kernel
theorem dX9_drawn_39 : decode cX9_drawn 39 = .ok (.iload_n 3, 1) := by decide +kernel
theorem dX9_drawn_40 : decode cX9_drawn 40 = .ok (.ifCond .ne 8, 3) := by decide +kernel
theorem dX9_drawn_48 : decode cX9_drawn 48 = .ok (.aload_n 0, 1) := by decide +kernel
theorem dX9_drawn_49 : decode cX9_drawn 49 = .ok (.iload 4, 2) := by decide +kernel
theorem dX9_drawn_51 : decode cX9_drawn 51 = .ok (.iload_n 2, 1) := by decide +kernel
theorem dX9_drawn_52 : decode cX9_drawn 52 = .ok (.invokevirtual 387, 3) := by decide +kernel
theorem dX9_drawnHolders_0 : decode cX9_drawnHolders 0 = .ok (.aload_n 0, 1) := by decide +kernel
theorem dX9_drawnHolders_1 : decode cX9_drawnHolders 1 = .ok (.getfield 64, 3) := by decide +kernel
theorem dX9_drawnHolders_4 : decode cX9_drawnHolders 4 = .ok (.aload_n 0, 1) := by decide +kernel
theorem dX9_drawnHolders_5 : decode cX9_drawnHolders 5 = .ok (.getfield 54, 3) := by decide +kernel
theorem dX9_drawnHolders_8 : decode cX9_drawnHolders 8 = .ok (.iload_n 2, 1) := by decide +kernel
theorem dX9_drawnHolders_9 : decode cX9_drawnHolders 9 = .ok (.iload_n 1, 1) := by decide +kernel
theorem dX9_drawnHolders_10 : decode cX9_drawnHolders 10 = .ok (.invokevirtual 220, 3) := by decide +kernel
theorem dX9_drawnHolders_13 : decode cX9_drawnHolders 13 = .ok (.aload_n 0, 1) := by decide +kernel
theorem dX9_drawnHolders_14 : decode cX9_drawnHolders 14 = .ok (.getfield 64, 3) := by decide +kernel
theorem dX9_drawnHolders_17 : decode cX9_drawnHolders 17 = .ok (.aload_n 0, 1) := by decide +kernel
theorem dX9_drawnHolders_18 : decode cX9_drawnHolders 18 = .ok (.getfield 20, 3) := by decide +kernel
theorem dX9_drawnHolders_21 : decode cX9_drawnHolders 21 = .ok (.getfield 169, 3) := by decide +kernel
theorem dX9_drawnHolders_24 : decode cX9_drawnHolders 24 = .ok (.invokevirtual 224, 3) := by decide +kernel
theorem dX9_drawnHolders_27 : decode cX9_drawnHolders 27 = .ok (.ireturn, 1) := by decide +kernel
theorem dX9_drawn_55 : decode cX9_drawn 55 = .ok (.ireturn, 1) := by decide +kernel
theorem dX9_drawn_43 : decode cX9_drawn 43 = .ok (.iload 4, 2) := by decide +kernel
theorem dX9_drawn_45 : decode cX9_drawn 45 = .ok (.goto 10, 3) := by decide +kernel
theorem dX9_luck_0 : decode cX9_luck 0 = .ok (.iload_n 1, 1) := by decide +kernel
theorem dX9_luck_1 : decode cX9_luck 1 = .ok (.invokestatic 381, 3) := by decide +kernel
theorem dX9_luck_4 : decode cX9_luck 4 = .ok (.ifCond .eq 37, 3) := by decide +kernel
theorem dX9_luck_41 : decode cX9_luck 41 = .ok (.bipush (-2), 2) := by decide +kernel
theorem dX9_luck_43 : decode cX9_luck 43 = .ok (.ireturn, 1) := by decide +kernel
theorem dX9_luck_7 : decode cX9_luck 7 = .ok (.iload_n 2, 1) := by decide +kernel
theorem dX9_luck_8 : decode cX9_luck 8 = .ok (.iconst 1, 1) := by decide +kernel
theorem dX9_luck_9 : decode cX9_luck 9 = .ok (.if_icmp .lt 32, 3) := by decide +kernel
theorem dX9_luck_12 : decode cX9_luck 12 = .ok (.iload_n 2, 1) := by decide +kernel
theorem dX9_luck_13 : decode cX9_luck 13 = .ok (.bipush 20, 2) := by decide +kernel
theorem dX9_luck_15 : decode cX9_luck 15 = .ok (.if_icmp .gt 26, 3) := by decide +kernel
theorem dX9_luck_18 : decode cX9_luck 18 = .ok (.aload_n 0, 1) := by decide +kernel
theorem dX9_luck_19 : decode cX9_luck 19 = .ok (.getfield 20, 3) := by decide +kernel
theorem dX9_luck_22 : decode cX9_luck 22 = .ok (.iload_n 3, 1) := by decide +kernel
theorem dX9_luck_23 : decode cX9_luck 23 = .ok (.invokevirtual 139, 3) := by decide +kernel
theorem dX9_luck_26 : decode cX9_luck 26 = .ok (.ifCond .eq 15, 3) := by decide +kernel
theorem dX9_luck_29 : decode cX9_luck 29 = .ok (.aload_n 0, 1) := by decide +kernel
theorem dX9_luck_30 : decode cX9_luck 30 = .ok (.getfield 20, 3) := by decide +kernel
theorem dX9_luck_33 : decode cX9_luck 33 = .ok (.iload 4, 2) := by decide +kernel
theorem dX9_luck_35 : decode cX9_luck 35 = .ok (.invokevirtual 139, 3) := by decide +kernel
theorem dX9_luck_38 : decode cX9_luck 38 = .ok (.ifCond .ne 6, 3) := by decide +kernel
theorem dX9_luck_44 : decode cX9_luck 44 = .ok (.aload_n 0, 1) := by decide +kernel
theorem dX9_luck_45 : decode cX9_luck 45 = .ok (.invokevirtual 227, 3) := by decide +kernel
theorem dX9_luck_48 : decode cX9_luck 48 = .ok (.iconst 0, 1) := by decide +kernel
theorem dX9_luck_49 : decode cX9_luck 49 = .ok (.istore 5, 2) := by decide +kernel
theorem dX9_luck_51 : decode cX9_luck 51 = .ok (.iconst 0, 1) := by decide +kernel
theorem dX9_luck_52 : decode cX9_luck 52 = .ok (.istore 6, 2) := by decide +kernel
theorem dX9_luck_54 : decode cX9_luck 54 = .ok (.iload 6, 2) := by decide +kernel
theorem dX9_luck_56 : decode cX9_luck 56 = .ok (.iload_n 2, 1) := by decide +kernel
theorem dX9_luck_57 : decode cX9_luck 57 = .ok (.if_icmp .ge 33, 3) := by decide +kernel
theorem dX9_luck_60 : decode cX9_luck 60 = .ok (.aload_n 0, 1) := by decide +kernel
theorem dX9_luck_61 : decode cX9_luck 61 = .ok (.aload_n 0, 1) := by decide +kernel
theorem dX9_luck_62 : decode cX9_luck 62 = .ok (.iload_n 1, 1) := by decide +kernel
theorem dX9_luck_63 : decode cX9_luck 63 = .ok (.iload 6, 2) := by decide +kernel
theorem dX9_luck_65 : decode cX9_luck 65 = .ok (.iadd, 1) := by decide +kernel
theorem dX9_luck_66 : decode cX9_luck 66 = .ok (.invokevirtual 384, 3) := by decide +kernel
theorem dX9_luck_69 : decode cX9_luck 69 = .ok (.iload_n 3, 1) := by decide +kernel
theorem dX9_luck_70 : decode cX9_luck 70 = .ok (.invokevirtual 387, 3) := by decide +kernel
theorem dX9_luck_73 : decode cX9_luck 73 = .ok (.iload 4, 2) := by decide +kernel
theorem dX9_luck_75 : decode cX9_luck 75 = .ok (.invokestatic 175, 3) := by decide +kernel
theorem dX9_luck_78 : decode cX9_luck 78 = .ok (.ifCond .eq 6, 3) := by decide +kernel
theorem dX9_luck_84 : decode cX9_luck 84 = .ok (.iinc 6 1, 3) := by decide +kernel
theorem dX9_luck_87 : decode cX9_luck 87 = .ok (.goto (-33), 3) := by decide +kernel
theorem dX9_luck_81 : decode cX9_luck 81 = .ok (.iinc 5 1, 3) := by decide +kernel
theorem dX9_luck_90 : decode cX9_luck 90 = .ok (.iload 5, 2) := by decide +kernel
theorem dX9_luck_92 : decode cX9_luck 92 = .ok (.ireturn, 1) := by decide +kernel
theorem dX9_hang_0 : decode cX9_hang 0 = .ok (.aload_n 0, 1) := by decide +kernel
theorem dX9_hang_1 : decode cX9_hang 1 = .ok (.getfield 20, 3) := by decide +kernel
theorem dX9_hang_4 : decode cX9_hang 4 = .ok (.getfield 119, 3) := by decide +kernel
theorem dX9_hang_7 : decode cX9_hang 7 = .ok (.iload_n 1, 1) := by decide +kernel
theorem dX9_hang_8 : decode cX9_hang 8 = .ok (.invokevirtual 257, 3) := by decide +kernel
theorem dX9_hang_11 : decode cX9_hang 11 = .ok (.ifCond .eq 14, 3) := by decide +kernel
theorem dX9_hang_25 : decode cX9_hang 25 = .ok (.bipush (-2), 2) := by decide +kernel
theorem dX9_hang_27 : decode cX9_hang 27 = .ok (.ireturn, 1) := by decide +kernel
theorem dX9_hang_14 : decode cX9_hang 14 = .ok (.iload_n 2, 1) := by decide +kernel
theorem dX9_hang_15 : decode cX9_hang 15 = .ok (.iconst 1, 1) := by decide +kernel
theorem dX9_hang_16 : decode cX9_hang 16 = .ok (.if_icmp .lt 9, 3) := by decide +kernel
theorem dX9_hang_19 : decode cX9_hang 19 = .ok (.iload_n 2, 1) := by decide +kernel
theorem dX9_hang_20 : decode cX9_hang 20 = .ok (.bipush 9, 2) := by decide +kernel
theorem dX9_hang_22 : decode cX9_hang 22 = .ok (.if_icmp .le 6, 3) := by decide +kernel
theorem dX9_hang_28 : decode cX9_hang 28 = .ok (.aload_n 0, 1) := by decide +kernel
theorem dX9_hang_29 : decode cX9_hang 29 = .ok (.getfield 20, 3) := by decide +kernel
theorem dX9_hang_32 : decode cX9_hang 32 = .ok (.getfield 400, 3) := by decide +kernel
theorem dX9_hang_35 : decode cX9_hang 35 = .ok (.getfield 200, 3) := by decide +kernel
theorem dX9_hang_38 : decode cX9_hang 38 = .ok (.ifCond .le 6, 3) := by decide +kernel
theorem dX9_hang_44 : decode cX9_hang 44 = .ok (.aload_n 0, 1) := by decide +kernel
theorem dX9_hang_45 : decode cX9_hang 45 = .ok (.getfield 20, 3) := by decide +kernel
theorem dX9_hang_48 : decode cX9_hang 48 = .ok (.getfield 119, 3) := by decide +kernel
theorem dX9_hang_51 : decode cX9_hang 51 = .ok (.iload_n 1, 1) := by decide +kernel
theorem dX9_hang_52 : decode cX9_hang 52 = .ok (.iconst 2, 1) := by decide +kernel
theorem dX9_hang_53 : decode cX9_hang 53 = .ok (.invokevirtual 129, 3) := by decide +kernel
theorem dX9_hang_56 : decode cX9_hang 56 = .ok (.istore_n 3, 1) := by decide +kernel
theorem dX9_hang_57 : decode cX9_hang 57 = .ok (.aload_n 0, 1) := by decide +kernel
theorem dX9_hang_58 : decode cX9_hang 58 = .ok (.getfield 20, 3) := by decide +kernel
theorem dX9_hang_61 : decode cX9_hang 61 = .ok (.getfield 119, 3) := by decide +kernel
theorem dX9_hang_64 : decode cX9_hang 64 = .ok (.iload_n 1, 1) := by decide +kernel
theorem dX9_hang_65 : decode cX9_hang 65 = .ok (.iconst 2, 1) := by decide +kernel
theorem dX9_hang_66 : decode cX9_hang 66 = .ok (.iload_n 2, 1) := by decide +kernel
theorem dX9_hang_67 : decode cX9_hang 67 = .ok (.invokevirtual 417, 3) := by decide +kernel
theorem dX9_hang_70 : decode cX9_hang 70 = .ok (.aload_n 0, 1) := by decide +kernel
theorem dX9_hang_71 : decode cX9_hang 71 = .ok (.invokevirtual 107, 3) := by decide +kernel
theorem dX9_hang_74 : decode cX9_hang 74 = .ok (.iload_n 3, 1) := by decide +kernel
theorem dX9_hang_75 : decode cX9_hang 75 = .ok (.ireturn, 1) := by decide +kernel
theorem dX9_hang_41 : decode cX9_hang 41 = .ok (.bipush (-5), 2) := by decide +kernel
theorem dX9_hang_43 : decode cX9_hang 43 = .ok (.ireturn, 1) := by decide +kernel
theorem dX9_count_0 : decode cX9_count 0 = .ok (.iload_n 1, 1) := by decide +kernel
theorem dX9_count_1 : decode cX9_count 1 = .ok (.tableswitch 168 0 11 #[63, 71, 79, 87, 95, 106, 117, 128, 139, 150, 158, 163], 63) := by decide +kernel
theorem dX9_count_169 : decode cX9_count 169 = .ok (.iconst (-1), 1) := by decide +kernel
theorem dX9_count_170 : decode cX9_count 170 = .ok (.ireturn, 1) := by decide +kernel
theorem dX9_count_64 : decode cX9_count 64 = .ok (.aload_n 0, 1) := by decide +kernel
theorem dX9_count_65 : decode cX9_count 65 = .ok (.getfield 20, 3) := by decide +kernel
theorem dX9_count_68 : decode cX9_count 68 = .ok (.getfield 208, 3) := by decide +kernel
theorem dX9_count_71 : decode cX9_count 71 = .ok (.ireturn, 1) := by decide +kernel
theorem dX9_count_72 : decode cX9_count 72 = .ok (.aload_n 0, 1) := by decide +kernel
theorem dX9_count_73 : decode cX9_count 73 = .ok (.getfield 20, 3) := by decide +kernel
theorem dX9_count_76 : decode cX9_count 76 = .ok (.getfield 169, 3) := by decide +kernel
theorem dX9_count_79 : decode cX9_count 79 = .ok (.ireturn, 1) := by decide +kernel
theorem dX9_count_80 : decode cX9_count 80 = .ok (.aload_n 0, 1) := by decide +kernel
theorem dX9_count_81 : decode cX9_count 81 = .ok (.getfield 20, 3) := by decide +kernel
theorem dX9_count_84 : decode cX9_count 84 = .ok (.getfield 214, 3) := by decide +kernel
theorem dX9_count_87 : decode cX9_count 87 = .ok (.ireturn, 1) := by decide +kernel
theorem dX9_count_88 : decode cX9_count 88 = .ok (.aload_n 0, 1) := by decide +kernel
theorem dX9_count_89 : decode cX9_count 89 = .ok (.getfield 20, 3) := by decide +kernel
theorem dX9_count_92 : decode cX9_count 92 = .ok (.getfield 364, 3) := by decide +kernel
theorem dX9_count_95 : decode cX9_count 95 = .ok (.ireturn, 1) := by decide +kernel
theorem dX9_count_96 : decode cX9_count 96 = .ok (.aload_n 0, 1) := by decide +kernel
theorem dX9_count_97 : decode cX9_count 97 = .ok (.getfield 20, 3) := by decide +kernel
theorem dX9_count_100 : decode cX9_count 100 = .ok (.getfield 119, 3) := by decide +kernel
theorem dX9_count_103 : decode cX9_count 103 = .ok (.getfield 200, 3) := by decide +kernel
theorem dX9_count_106 : decode cX9_count 106 = .ok (.ireturn, 1) := by decide +kernel
theorem dX9_count_107 : decode cX9_count 107 = .ok (.aload_n 0, 1) := by decide +kernel
theorem dX9_count_108 : decode cX9_count 108 = .ok (.getfield 20, 3) := by decide +kernel
theorem dX9_count_111 : decode cX9_count 111 = .ok (.getfield 133, 3) := by decide +kernel
theorem dX9_count_114 : decode cX9_count 114 = .ok (.getfield 200, 3) := by decide +kernel
theorem dX9_count_117 : decode cX9_count 117 = .ok (.ireturn, 1) := by decide +kernel
theorem dX9_count_118 : decode cX9_count 118 = .ok (.aload_n 0, 1) := by decide +kernel
theorem dX9_count_119 : decode cX9_count 119 = .ok (.getfield 20, 3) := by decide +kernel
theorem dX9_count_122 : decode cX9_count 122 = .ok (.getfield 136, 3) := by decide +kernel
theorem dX9_count_125 : decode cX9_count 125 = .ok (.getfield 200, 3) := by decide +kernel
theorem dX9_count_128 : decode cX9_count 128 = .ok (.ireturn, 1) := by decide +kernel
theorem dX9_count_129 : decode cX9_count 129 = .ok (.aload_n 0, 1) := by decide +kernel
theorem dX9_count_130 : decode cX9_count 130 = .ok (.getfield 20, 3) := by decide +kernel
theorem dX9_count_133 : decode cX9_count 133 = .ok (.getfield 420, 3) := by decide +kernel
theorem dX9_count_136 : decode cX9_count 136 = .ok (.getfield 200, 3) := by decide +kernel
theorem dX9_count_139 : decode cX9_count 139 = .ok (.ireturn, 1) := by decide +kernel
theorem dX9_count_140 : decode cX9_count 140 = .ok (.aload_n 0, 1) := by decide +kernel
theorem dX9_count_141 : decode cX9_count 141 = .ok (.getfield 20, 3) := by decide +kernel
theorem dX9_count_144 : decode cX9_count 144 = .ok (.getfield 400, 3) := by decide +kernel
theorem dX9_count_147 : decode cX9_count 147 = .ok (.getfield 200, 3) := by decide +kernel
theorem dX9_count_150 : decode cX9_count 150 = .ok (.ireturn, 1) := by decide +kernel
theorem dX9_count_151 : decode cX9_count 151 = .ok (.aload_n 0, 1) := by decide +kernel
theorem dX9_count_152 : decode cX9_count 152 = .ok (.getfield 20, 3) := by decide +kernel
theorem dX9_count_155 : decode cX9_count 155 = .ok (.getfield 110, 3) := by decide +kernel
theorem dX9_count_158 : decode cX9_count 158 = .ok (.ireturn, 1) := by decide +kernel
theorem dX9_count_159 : decode cX9_count 159 = .ok (.aload_n 0, 1) := by decide +kernel
theorem dX9_count_160 : decode cX9_count 160 = .ok (.getfield 13, 3) := by decide +kernel
theorem dX9_count_163 : decode cX9_count 163 = .ok (.ireturn, 1) := by decide +kernel
theorem dX9_count_164 : decode cX9_count 164 = .ok (.aload_n 0, 1) := by decide +kernel
theorem dX9_count_165 : decode cX9_count 165 = .ok (.invokevirtual 423, 3) := by decide +kernel
theorem dX9_slotsWithRow_0 : decode cX9_slotsWithRow 0 = .ok (.iconst 0, 1) := by decide +kernel
theorem dX9_slotsWithRow_1 : decode cX9_slotsWithRow 1 = .ok (.istore_n 1, 1) := by decide +kernel
theorem dX9_slotsWithRow_2 : decode cX9_slotsWithRow 2 = .ok (.iconst 0, 1) := by decide +kernel
theorem dX9_slotsWithRow_3 : decode cX9_slotsWithRow 3 = .ok (.istore_n 2, 1) := by decide +kernel
theorem dX9_slotsWithRow_4 : decode cX9_slotsWithRow 4 = .ok (.iload_n 2, 1) := by decide +kernel
theorem dX9_slotsWithRow_5 : decode cX9_slotsWithRow 5 = .ok (.iconst 4, 1) := by decide +kernel
theorem dX9_slotsWithRow_6 : decode cX9_slotsWithRow 6 = .ok (.if_icmp .ge 24, 3) := by decide +kernel
theorem dX9_slotsWithRow_9 : decode cX9_slotsWithRow 9 = .ok (.aload_n 0, 1) := by decide +kernel
theorem dX9_slotsWithRow_10 : decode cX9_slotsWithRow 10 = .ok (.getfield 46, 3) := by decide +kernel
theorem dX9_slotsWithRow_13 : decode cX9_slotsWithRow 13 = .ok (.iload_n 2, 1) := by decide +kernel
theorem dX9_slotsWithRow_14 : decode cX9_slotsWithRow 14 = .ok (.aaload, 1) := by decide +kernel
theorem dX9_slotsWithRow_15 : decode cX9_slotsWithRow 15 = .ok (.invokevirtual 279, 3) := by decide +kernel
theorem dX9_slotsWithRow_18 : decode cX9_slotsWithRow 18 = .ok (.ifCond .ne 6, 3) := by decide +kernel
theorem dX9_slotsWithRow_24 : decode cX9_slotsWithRow 24 = .ok (.iinc 2 1, 3) := by decide +kernel
theorem dX9_slotsWithRow_27 : decode cX9_slotsWithRow 27 = .ok (.goto (-23), 3) := by decide +kernel
theorem dX9_slotsWithRow_21 : decode cX9_slotsWithRow 21 = .ok (.iinc 1 1, 3) := by decide +kernel
theorem dX9_slotsWithRow_30 : decode cX9_slotsWithRow 30 = .ok (.iload_n 1, 1) := by decide +kernel
theorem dX9_slotsWithRow_31 : decode cX9_slotsWithRow 31 = .ok (.ireturn, 1) := by decide +kernel
theorem dX9_count_168 : decode cX9_count 168 = .ok (.ireturn, 1) := by decide +kernel
theorem dX9_back_0 : decode cX9_back 0 = .ok (.iload_n 1, 1) := by decide +kernel
theorem dX9_back_1 : decode cX9_back 1 = .ok (.ifCond .lt 8, 3) := by decide +kernel
theorem dX9_back_9 : decode cX9_back 9 = .ok (.bipush (-2), 2) := by decide +kernel
theorem dX9_back_11 : decode cX9_back 11 = .ok (.ireturn, 1) := by decide +kernel
theorem dX9_back_4 : decode cX9_back 4 = .ok (.iload_n 1, 1) := by decide +kernel
theorem dX9_back_5 : decode cX9_back 5 = .ok (.iconst 3, 1) := by decide +kernel
theorem dX9_back_6 : decode cX9_back 6 = .ok (.if_icmp .lt 6, 3) := by decide +kernel
theorem dX9_back_12 : decode cX9_back 12 = .ok (.aload_n 0, 1) := by decide +kernel
theorem dX9_back_13 : decode cX9_back 13 = .ok (.getfield 40, 3) := by decide +kernel
theorem dX9_back_16 : decode cX9_back 16 = .ok (.iload_n 1, 1) := by decide +kernel
theorem dX9_back_17 : decode cX9_back 17 = .ok (.baload, 1) := by decide +kernel
theorem dX9_back_18 : decode cX9_back 18 = .ok (.ifCond .ne 6, 3) := by decide +kernel
theorem dX9_back_24 : decode cX9_back 24 = .ok (.aload_n 0, 1) := by decide +kernel
theorem dX9_back_25 : decode cX9_back 25 = .ok (.getfield 20, 3) := by decide +kernel
theorem dX9_back_28 : decode cX9_back 28 = .ok (.aload_n 0, 1) := by decide +kernel
theorem dX9_back_29 : decode cX9_back 29 = .ok (.getfield 36, 3) := by decide +kernel
theorem dX9_back_32 : decode cX9_back 32 = .ok (.iload_n 1, 1) := by decide +kernel
theorem dX9_back_33 : decode cX9_back 33 = .ok (.aaload, 1) := by decide +kernel
theorem dX9_back_34 : decode cX9_back 34 = .ok (.invokevirtual 103, 3) := by decide +kernel
theorem dX0_copyFrom_0 : decode cX0_copyFrom 0 = .ok (.aload_n 0, 1) := by decide +kernel
theorem dX0_copyFrom_1 : decode cX0_copyFrom 1 = .ok (.aload_n 1, 1) := by decide +kernel
theorem dX0_copyFrom_2 : decode cX0_copyFrom 2 = .ok (.getfield 32, 3) := by decide +kernel
theorem dX0_copyFrom_5 : decode cX0_copyFrom 5 = .ok (.putfield 32, 3) := by decide +kernel
theorem dX0_copyFrom_8 : decode cX0_copyFrom 8 = .ok (.aload_n 0, 1) := by decide +kernel
theorem dX0_copyFrom_9 : decode cX0_copyFrom 9 = .ok (.aload_n 1, 1) := by decide +kernel
theorem dX0_copyFrom_10 : decode cX0_copyFrom 10 = .ok (.getfield 36, 3) := by decide +kernel
theorem dX0_copyFrom_13 : decode cX0_copyFrom 13 = .ok (.putfield 36, 3) := by decide +kernel
theorem dX0_copyFrom_16 : decode cX0_copyFrom 16 = .ok (.aload_n 0, 1) := by decide +kernel
theorem dX0_copyFrom_17 : decode cX0_copyFrom 17 = .ok (.aload_n 1, 1) := by decide +kernel
theorem dX0_copyFrom_18 : decode cX0_copyFrom 18 = .ok (.getfield 39, 3) := by decide +kernel
theorem dX0_copyFrom_21 : decode cX0_copyFrom 21 = .ok (.putfield 39, 3) := by decide +kernel
theorem dX0_copyFrom_24 : decode cX0_copyFrom 24 = .ok (.aload_n 0, 1) := by decide +kernel
theorem dX0_copyFrom_25 : decode cX0_copyFrom 25 = .ok (.aload_n 1, 1) := by decide +kernel
theorem dX0_copyFrom_26 : decode cX0_copyFrom 26 = .ok (.getfield 42, 3) := by decide +kernel
theorem dX0_copyFrom_29 : decode cX0_copyFrom 29 = .ok (.putfield 42, 3) := by decide +kernel
theorem dX0_copyFrom_32 : decode cX0_copyFrom 32 = .ok (.aload_n 0, 1) := by decide +kernel
theorem dX0_copyFrom_33 : decode cX0_copyFrom 33 = .ok (.aload_n 1, 1) := by decide +kernel
theorem dX0_copyFrom_34 : decode cX0_copyFrom 34 = .ok (.getfield 45, 3) := by decide +kernel
theorem dX0_copyFrom_37 : decode cX0_copyFrom 37 = .ok (.putfield 45, 3) := by decide +kernel
theorem dX0_copyFrom_40 : decode cX0_copyFrom 40 = .ok (.aload_n 0, 1) := by decide +kernel
theorem dX0_copyFrom_41 : decode cX0_copyFrom 41 = .ok (.getfield 14, 3) := by decide +kernel
theorem dX0_copyFrom_44 : decode cX0_copyFrom 44 = .ok (.aload_n 1, 1) := by decide +kernel
theorem dX0_copyFrom_45 : decode cX0_copyFrom 45 = .ok (.getfield 14, 3) := by decide +kernel
theorem dX0_copyFrom_48 : decode cX0_copyFrom 48 = .ok (.invokevirtual 51, 3) := by decide +kernel
theorem dX8_copyFrom_0 : decode cX8_copyFrom 0 = .ok (.aload_n 1, 1) := by decide +kernel
theorem dX8_copyFrom_1 : decode cX8_copyFrom 1 = .ok (.getfield 24, 3) := by decide +kernel
theorem dX8_copyFrom_4 : decode cX8_copyFrom 4 = .ok (.iconst 0, 1) := by decide +kernel
theorem dX8_copyFrom_5 : decode cX8_copyFrom 5 = .ok (.aload_n 0, 1) := by decide +kernel
theorem dX8_copyFrom_6 : decode cX8_copyFrom 6 = .ok (.getfield 24, 3) := by decide +kernel
theorem dX8_copyFrom_9 : decode cX8_copyFrom 9 = .ok (.iconst 0, 1) := by decide +kernel
theorem dX8_copyFrom_10 : decode cX8_copyFrom 10 = .ok (.aload_n 0, 1) := by decide +kernel
theorem dX8_copyFrom_11 : decode cX8_copyFrom 11 = .ok (.getfield 24, 3) := by decide +kernel
theorem dX8_copyFrom_14 : decode cX8_copyFrom 14 = .ok (.arraylength, 1) := by decide +kernel
theorem dX8_copyFrom_15 : decode cX8_copyFrom 15 = .ok (.aload_n 1, 1) := by decide +kernel
theorem dX8_copyFrom_16 : decode cX8_copyFrom 16 = .ok (.getfield 24, 3) := by decide +kernel
theorem dX8_copyFrom_19 : decode cX8_copyFrom 19 = .ok (.arraylength, 1) := by decide +kernel
theorem dX8_copyFrom_20 : decode cX8_copyFrom 20 = .ok (.invokestatic 43, 3) := by decide +kernel
theorem dX8_copyFrom_23 : decode cX8_copyFrom 23 = .ok (.invokestatic 46, 3) := by decide +kernel
theorem dX8_copyFrom_26 : decode cX8_copyFrom 26 = .ok (.aload_n 0, 1) := by decide +kernel
theorem dX8_copyFrom_27 : decode cX8_copyFrom 27 = .ok (.aload_n 1, 1) := by decide +kernel
theorem dX8_copyFrom_28 : decode cX8_copyFrom 28 = .ok (.getfield 28, 3) := by decide +kernel
theorem dX8_copyFrom_31 : decode cX8_copyFrom 31 = .ok (.putfield 28, 3) := by decide +kernel
theorem dX8_copyFrom_34 : decode cX8_copyFrom 34 = .ok (.return_, 1) := by decide +kernel
theorem dX0_copyFrom_51 : decode cX0_copyFrom 51 = .ok (.aload_n 0, 1) := by decide +kernel
theorem dX0_copyFrom_52 : decode cX0_copyFrom 52 = .ok (.getfield 20, 3) := by decide +kernel
theorem dX0_copyFrom_55 : decode cX0_copyFrom 55 = .ok (.aload_n 1, 1) := by decide +kernel
theorem dX0_copyFrom_56 : decode cX0_copyFrom 56 = .ok (.getfield 20, 3) := by decide +kernel
theorem dX0_copyFrom_59 : decode cX0_copyFrom 59 = .ok (.invokevirtual 51, 3) := by decide +kernel
theorem dX0_copyFrom_62 : decode cX0_copyFrom 62 = .ok (.aload_n 0, 1) := by decide +kernel
theorem dX0_copyFrom_63 : decode cX0_copyFrom 63 = .ok (.getfield 23, 3) := by decide +kernel
theorem dX0_copyFrom_66 : decode cX0_copyFrom 66 = .ok (.aload_n 1, 1) := by decide +kernel
theorem dX0_copyFrom_67 : decode cX0_copyFrom 67 = .ok (.getfield 23, 3) := by decide +kernel
theorem dX0_copyFrom_70 : decode cX0_copyFrom 70 = .ok (.invokevirtual 51, 3) := by decide +kernel
theorem dX0_copyFrom_73 : decode cX0_copyFrom 73 = .ok (.aload_n 0, 1) := by decide +kernel
theorem dX0_copyFrom_74 : decode cX0_copyFrom 74 = .ok (.getfield 26, 3) := by decide +kernel
theorem dX0_copyFrom_77 : decode cX0_copyFrom 77 = .ok (.aload_n 1, 1) := by decide +kernel
theorem dX0_copyFrom_78 : decode cX0_copyFrom 78 = .ok (.getfield 26, 3) := by decide +kernel
theorem dX0_copyFrom_81 : decode cX0_copyFrom 81 = .ok (.invokevirtual 51, 3) := by decide +kernel
theorem dX0_copyFrom_84 : decode cX0_copyFrom 84 = .ok (.aload_n 0, 1) := by decide +kernel
theorem dX0_copyFrom_85 : decode cX0_copyFrom 85 = .ok (.getfield 29, 3) := by decide +kernel
theorem dX0_copyFrom_88 : decode cX0_copyFrom 88 = .ok (.aload_n 1, 1) := by decide +kernel
theorem dX0_copyFrom_89 : decode cX0_copyFrom 89 = .ok (.getfield 29, 3) := by decide +kernel
theorem dX0_copyFrom_92 : decode cX0_copyFrom 92 = .ok (.invokevirtual 51, 3) := by decide +kernel
theorem dX0_copyFrom_95 : decode cX0_copyFrom 95 = .ok (.return_, 1) := by decide +kernel
theorem dX9_back_37 : decode cX9_back 37 = .ok (.aload_n 0, 1) := by decide +kernel
theorem dX9_back_38 : decode cX9_back 38 = .ok (.invokevirtual 107, 3) := by decide +kernel
theorem dX9_back_41 : decode cX9_back 41 = .ok (.iconst 0, 1) := by decide +kernel
theorem dX9_back_42 : decode cX9_back 42 = .ok (.ireturn, 1) := by decide +kernel
theorem dX9_back_21 : decode cX9_back 21 = .ok (.bipush (-6), 2) := by decide +kernel
theorem dX9_back_23 : decode cX9_back 23 = .ok (.ireturn, 1) := by decide +kernel
theorem dX9_write_0 : decode cX9_write 0 = .ok (.iload_n 1, 1) := by decide +kernel
theorem dX9_write_1 : decode cX9_write 1 = .ok (.invokestatic 276, 3) := by decide +kernel
theorem dX9_write_4 : decode cX9_write 4 = .ok (.ifCond .ne 6, 3) := by decide +kernel
theorem dX9_write_10 : decode cX9_write 10 = .ok (.aload_n 0, 1) := by decide +kernel
theorem dX9_write_11 : decode cX9_write 11 = .ok (.getfield 46, 3) := by decide +kernel
theorem dX9_write_14 : decode cX9_write 14 = .ok (.iload_n 1, 1) := by decide +kernel
theorem dX9_write_15 : decode cX9_write 15 = .ok (.aaload, 1) := by decide +kernel
theorem dX9_write_16 : decode cX9_write 16 = .ok (.invokevirtual 279, 3) := by decide +kernel
theorem dX9_write_19 : decode cX9_write 19 = .ok (.ifCond .eq 6, 3) := by decide +kernel
theorem dX9_write_25 : decode cX9_write 25 = .ok (.iload_n 2, 1) := by decide +kernel
theorem dX9_write_26 : decode cX9_write 26 = .ok (.ifCond .lt 16, 3) := by decide +kernel
theorem dX9_write_42 : decode cX9_write 42 = .ok (.bipush (-7), 2) := by decide +kernel
theorem dX9_write_44 : decode cX9_write 44 = .ok (.ireturn, 1) := by decide +kernel
theorem dX9_write_29 : decode cX9_write 29 = .ok (.iload_n 2, 1) := by decide +kernel
theorem dX9_write_30 : decode cX9_write 30 = .ok (.aload_n 0, 1) := by decide +kernel
theorem dX9_write_31 : decode cX9_write 31 = .ok (.getfield 46, 3) := by decide +kernel
theorem dX9_write_34 : decode cX9_write 34 = .ok (.iload_n 1, 1) := by decide +kernel
theorem dX9_write_35 : decode cX9_write 35 = .ok (.aaload, 1) := by decide +kernel
theorem dX9_write_36 : decode cX9_write 36 = .ok (.getfield 282, 3) := by decide +kernel
theorem dX9_write_39 : decode cX9_write 39 = .ok (.if_icmp .lt 6, 3) := by decide +kernel
theorem dX9_write_45 : decode cX9_write 45 = .ok (.aload_n 0, 1) := by decide +kernel
theorem dX9_write_46 : decode cX9_write 46 = .ok (.getfield 46, 3) := by decide +kernel
theorem dX9_write_49 : decode cX9_write 49 = .ok (.iload_n 1, 1) := by decide +kernel
theorem dX9_write_50 : decode cX9_write 50 = .ok (.aaload, 1) := by decide +kernel
theorem dX9_write_51 : decode cX9_write 51 = .ok (.iload_n 2, 1) := by decide +kernel
theorem dX9_write_52 : decode cX9_write 52 = .ok (.lload_n 3, 1) := by decide +kernel
theorem dX9_write_53 : decode cX9_write 53 = .ok (.invokevirtual 429, 3) := by decide +kernel
theorem dX7_put_0 : decode cX7_put 0 = .ok (.iload_n 1, 1) := by decide +kernel
theorem dX7_put_1 : decode cX7_put 1 = .ok (.ifCond .lt 22, 3) := by decide +kernel
theorem dX7_put_23 : decode cX7_put 23 = .ok (.return_, 1) := by decide +kernel
theorem dX7_put_4 : decode cX7_put 4 = .ok (.iload_n 1, 1) := by decide +kernel
theorem dX7_put_5 : decode cX7_put 5 = .ok (.aload_n 0, 1) := by decide +kernel
theorem dX7_put_6 : decode cX7_put 6 = .ok (.getfield 15, 3) := by decide +kernel
theorem dX7_put_9 : decode cX7_put 9 = .ok (.if_icmp .ge 14, 3) := by decide +kernel
theorem dX7_put_12 : decode cX7_put 12 = .ok (.aload_n 0, 1) := by decide +kernel
theorem dX7_put_13 : decode cX7_put 13 = .ok (.getfield 11, 3) := by decide +kernel
theorem dX7_put_16 : decode cX7_put 16 = .ok (.iload_n 1, 1) := by decide +kernel
theorem dX7_put_17 : decode cX7_put 17 = .ok (.aload_n 0, 1) := by decide +kernel
theorem dX7_put_18 : decode cX7_put 18 = .ok (.lload_n 2, 1) := by decide +kernel
theorem dX7_put_19 : decode cX7_put 19 = .ok (.invokevirtual 36, 3) := by decide +kernel
theorem dX7_cut_0 : decode cX7_cut 0 = .ok (.aload_n 0, 1) := by decide +kernel
theorem dX7_cut_1 : decode cX7_cut 1 = .ok (.getfield 19, 3) := by decide +kernel
theorem dX7_cut_4 : decode cX7_cut 4 = .ok (.tableswitch 42 0 2 #[28, 33, 38], 28) := by decide +kernel
theorem dX7_cut_46 : decode cX7_cut 46 = .ok (.lload_n 1, 1) := by decide +kernel
theorem dX7_cut_47 : decode cX7_cut 47 = .ok (.lreturn, 1) := by decide +kernel
theorem dX7_cut_32 : decode cX7_cut 32 = .ok (.lload_n 1, 1) := by decide +kernel
theorem dX7_cut_33 : decode cX7_cut 33 = .ok (.l2i, 1) := by decide +kernel
theorem dX7_cut_34 : decode cX7_cut 34 = .ok (.i2b, 1) := by decide +kernel
theorem dX7_cut_35 : decode cX7_cut 35 = .ok (.i2l, 1) := by decide +kernel
theorem dX7_cut_36 : decode cX7_cut 36 = .ok (.lreturn, 1) := by decide +kernel
theorem dX7_cut_37 : decode cX7_cut 37 = .ok (.lload_n 1, 1) := by decide +kernel
theorem dX7_cut_38 : decode cX7_cut 38 = .ok (.l2i, 1) := by decide +kernel
theorem dX7_cut_39 : decode cX7_cut 39 = .ok (.i2s, 1) := by decide +kernel
theorem dX7_cut_40 : decode cX7_cut 40 = .ok (.i2l, 1) := by decide +kernel
theorem dX7_cut_41 : decode cX7_cut 41 = .ok (.lreturn, 1) := by decide +kernel
theorem dX7_cut_42 : decode cX7_cut 42 = .ok (.lload_n 1, 1) := by decide +kernel
theorem dX7_cut_43 : decode cX7_cut 43 = .ok (.l2i, 1) := by decide +kernel
theorem dX7_cut_44 : decode cX7_cut 44 = .ok (.i2l, 1) := by decide +kernel
theorem dX7_cut_45 : decode cX7_cut 45 = .ok (.lreturn, 1) := by decide +kernel
theorem dX7_put_22 : decode cX7_put 22 = .ok (.lastore, 1) := by decide +kernel
theorem dX9_write_56 : decode cX9_write 56 = .ok (.iconst 0, 1) := by decide +kernel
theorem dX9_write_57 : decode cX9_write 57 = .ok (.ireturn, 1) := by decide +kernel
theorem dX9_write_22 : decode cX9_write 22 = .ok (.bipush (-6), 2) := by decide +kernel
theorem dX9_write_24 : decode cX9_write 24 = .ok (.ireturn, 1) := by decide +kernel
theorem dX9_write_7 : decode cX9_write 7 = .ok (.bipush (-2), 2) := by decide +kernel
theorem dX9_write_9 : decode cX9_write 9 = .ok (.ireturn, 1) := by decide +kernel
theorem dX9_paste_0 : decode cX9_paste 0 = .ok (.iload_n 1, 1) := by decide +kernel
theorem dX9_paste_1 : decode cX9_paste 1 = .ok (.invokestatic 276, 3) := by decide +kernel
theorem dX9_paste_4 : decode cX9_paste 4 = .ok (.ifCond .eq 10, 3) := by decide +kernel
theorem dX9_paste_14 : decode cX9_paste 14 = .ok (.bipush (-2), 2) := by decide +kernel
theorem dX9_paste_16 : decode cX9_paste 16 = .ok (.ireturn, 1) := by decide +kernel
theorem dX9_paste_7 : decode cX9_paste 7 = .ok (.iload_n 3, 1) := by decide +kernel
theorem dX9_paste_8 : decode cX9_paste 8 = .ok (.invokestatic 276, 3) := by decide +kernel
theorem dX9_paste_11 : decode cX9_paste 11 = .ok (.ifCond .ne 6, 3) := by decide +kernel
theorem dX9_paste_17 : decode cX9_paste 17 = .ok (.aload_n 0, 1) := by decide +kernel
theorem dX9_paste_18 : decode cX9_paste 18 = .ok (.getfield 46, 3) := by decide +kernel
theorem dX9_paste_21 : decode cX9_paste 21 = .ok (.iload_n 1, 1) := by decide +kernel
theorem dX9_paste_22 : decode cX9_paste 22 = .ok (.aaload, 1) := by decide +kernel
theorem dX9_paste_23 : decode cX9_paste 23 = .ok (.astore 6, 2) := by decide +kernel
theorem dX9_paste_25 : decode cX9_paste 25 = .ok (.aload_n 0, 1) := by decide +kernel
theorem dX9_paste_26 : decode cX9_paste 26 = .ok (.getfield 46, 3) := by decide +kernel
theorem dX9_paste_29 : decode cX9_paste 29 = .ok (.iload_n 3, 1) := by decide +kernel
theorem dX9_paste_30 : decode cX9_paste 30 = .ok (.aaload, 1) := by decide +kernel
theorem dX9_paste_31 : decode cX9_paste 31 = .ok (.astore 7, 2) := by decide +kernel
theorem dX9_paste_33 : decode cX9_paste 33 = .ok (.aload 6, 2) := by decide +kernel
theorem dX9_paste_35 : decode cX9_paste 35 = .ok (.invokevirtual 279, 3) := by decide +kernel
theorem dX9_paste_38 : decode cX9_paste 38 = .ok (.ifCond .ne 11, 3) := by decide +kernel
theorem dX9_paste_49 : decode cX9_paste 49 = .ok (.bipush (-6), 2) := by decide +kernel
theorem dX9_paste_51 : decode cX9_paste 51 = .ok (.ireturn, 1) := by decide +kernel
theorem dX9_paste_41 : decode cX9_paste 41 = .ok (.aload 7, 2) := by decide +kernel
theorem dX9_paste_43 : decode cX9_paste 43 = .ok (.invokevirtual 279, 3) := by decide +kernel
theorem dX9_paste_46 : decode cX9_paste 46 = .ok (.ifCond .eq 6, 3) := by decide +kernel
theorem dX9_paste_52 : decode cX9_paste 52 = .ok (.aload 6, 2) := by decide +kernel
theorem dX9_paste_54 : decode cX9_paste 54 = .ok (.getfield 432, 3) := by decide +kernel
theorem dX9_paste_57 : decode cX9_paste 57 = .ok (.aload 7, 2) := by decide +kernel
theorem dX9_paste_59 : decode cX9_paste 59 = .ok (.getfield 432, 3) := by decide +kernel
theorem dX9_paste_62 : decode cX9_paste 62 = .ok (.if_icmp .eq 6, 3) := by decide +kernel
theorem dX9_paste_68 : decode cX9_paste 68 = .ok (.aload 6, 2) := by decide +kernel
theorem dX9_paste_70 : decode cX9_paste 70 = .ok (.iload_n 2, 1) := by decide +kernel
theorem dX9_paste_71 : decode cX9_paste 71 = .ok (.iload 5, 2) := by decide +kernel
theorem dX9_paste_73 : decode cX9_paste 73 = .ok (.invokevirtual 435, 3) := by decide +kernel
theorem dX7_hasStretch_0 : decode cX7_hasStretch 0 = .ok (.iload_n 1, 1) := by decide +kernel
theorem dX7_hasStretch_1 : decode cX7_hasStretch 1 = .ok (.ifCond .lt 29, 3) := by decide +kernel
theorem dX7_hasStretch_30 : decode cX7_hasStretch 30 = .ok (.iconst 0, 1) := by decide +kernel
theorem dX7_hasStretch_31 : decode cX7_hasStretch 31 = .ok (.ireturn, 1) := by decide +kernel
theorem dX7_hasStretch_4 : decode cX7_hasStretch 4 = .ok (.iload_n 2, 1) := by decide +kernel
theorem dX7_hasStretch_5 : decode cX7_hasStretch 5 = .ok (.ifCond .lt 25, 3) := by decide +kernel
theorem dX7_hasStretch_8 : decode cX7_hasStretch 8 = .ok (.iload_n 1, 1) := by decide +kernel
theorem dX7_hasStretch_9 : decode cX7_hasStretch 9 = .ok (.aload_n 0, 1) := by decide +kernel
theorem dX7_hasStretch_10 : decode cX7_hasStretch 10 = .ok (.getfield 15, 3) := by decide +kernel
theorem dX7_hasStretch_13 : decode cX7_hasStretch 13 = .ok (.if_icmp .gt 17, 3) := by decide +kernel
theorem dX7_hasStretch_16 : decode cX7_hasStretch 16 = .ok (.iload_n 2, 1) := by decide +kernel
theorem dX7_hasStretch_17 : decode cX7_hasStretch 17 = .ok (.aload_n 0, 1) := by decide +kernel
theorem dX7_hasStretch_18 : decode cX7_hasStretch 18 = .ok (.getfield 15, 3) := by decide +kernel
theorem dX7_hasStretch_21 : decode cX7_hasStretch 21 = .ok (.iload_n 1, 1) := by decide +kernel
theorem dX7_hasStretch_22 : decode cX7_hasStretch 22 = .ok (.isub, 1) := by decide +kernel
theorem dX7_hasStretch_23 : decode cX7_hasStretch 23 = .ok (.if_icmp .gt 7, 3) := by decide +kernel
theorem dX7_hasStretch_26 : decode cX7_hasStretch 26 = .ok (.iconst 1, 1) := by decide +kernel
theorem dX7_hasStretch_27 : decode cX7_hasStretch 27 = .ok (.goto 4, 3) := by decide +kernel
theorem dX9_paste_76 : decode cX9_paste 76 = .ok (.ifCond .eq 15, 3) := by decide +kernel
theorem dX9_paste_91 : decode cX9_paste 91 = .ok (.bipush (-7), 2) := by decide +kernel
theorem dX9_paste_93 : decode cX9_paste 93 = .ok (.ireturn, 1) := by decide +kernel
theorem dX9_paste_79 : decode cX9_paste 79 = .ok (.aload 7, 2) := by decide +kernel
theorem dX9_paste_81 : decode cX9_paste 81 = .ok (.iload 4, 2) := by decide +kernel
theorem dX9_paste_83 : decode cX9_paste 83 = .ok (.iload 5, 2) := by decide +kernel
theorem dX9_paste_85 : decode cX9_paste 85 = .ok (.invokevirtual 435, 3) := by decide +kernel
theorem dX9_paste_88 : decode cX9_paste 88 = .ok (.ifCond .ne 6, 3) := by decide +kernel
theorem dX9_paste_94 : decode cX9_paste 94 = .ok (.aload 6, 2) := by decide +kernel
theorem dX9_paste_96 : decode cX9_paste 96 = .ok (.getfield 438, 3) := by decide +kernel
theorem dX9_paste_99 : decode cX9_paste 99 = .ok (.iload_n 2, 1) := by decide +kernel
theorem dX9_paste_100 : decode cX9_paste 100 = .ok (.aload 7, 2) := by decide +kernel
theorem dX9_paste_102 : decode cX9_paste 102 = .ok (.getfield 438, 3) := by decide +kernel
theorem dX9_paste_105 : decode cX9_paste 105 = .ok (.iload 4, 2) := by decide +kernel
theorem dX9_paste_107 : decode cX9_paste 107 = .ok (.iload 5, 2) := by decide +kernel
theorem dX9_paste_109 : decode cX9_paste 109 = .ok (.invokestatic 442, 3) := by decide +kernel
theorem dX9_paste_112 : decode cX9_paste 112 = .ok (.iconst 0, 1) := by decide +kernel
theorem dX9_paste_113 : decode cX9_paste 113 = .ok (.ireturn, 1) := by decide +kernel
theorem dX9_paste_65 : decode cX9_paste 65 = .ok (.bipush (-8), 2) := by decide +kernel
theorem dX9_paste_67 : decode cX9_paste 67 = .ok (.ireturn, 1) := by decide +kernel
