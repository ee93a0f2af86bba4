theorem dX8_add_0 : decode cX8_add 0 = .ok (.aload_n 0, 1) := by decide +kernel
theorem dX8_add_1 : decode cX8_add 1 = .ok (.invokevirtual 35, 3) := by decide +kernel
theorem dX8_add_4 : decode cX8_add 4 = .ok (.ifCond .eq 4, 3) := by decide +kernel
theorem dX8_add_7 : decode cX8_add 7 = .ok (.return_, 1) := by decide +kernel
theorem dX8_add_8 : decode cX8_add 8 = .ok (.aload_n 0, 1) := by decide +kernel
theorem dX8_add_9 : decode cX8_add 9 = .ok (.dup, 1) := by decide +kernel
theorem dX8_add_10 : decode cX8_add 10 = .ok (.getfield 28, 3) := by decide +kernel
theorem dX8_add_13 : decode cX8_add 13 = .ok (.iconst 1, 1) := by decide +kernel
theorem dX8_add_14 : decode cX8_add 14 = .ok (.iadd, 1) := by decide +kernel
theorem dX8_add_15 : decode cX8_add 15 = .ok (.putfield 28, 3) := by decide +kernel
theorem dX8_add_18 : decode cX8_add 18 = .ok (.aload_n 0, 1) := by decide +kernel
theorem dX8_add_19 : decode cX8_add 19 = .ok (.aload_n 0, 1) := by decide +kernel
theorem dX8_add_20 : decode cX8_add 20 = .ok (.getfield 28, 3) := by decide +kernel
theorem dX8_add_23 : decode cX8_add 23 = .ok (.iconst 1, 1) := by decide +kernel
theorem dX8_add_24 : decode cX8_add 24 = .ok (.isub, 1) := by decide +kernel
theorem dX8_add_25 : decode cX8_add 25 = .ok (.iconst 0, 1) := by decide +kernel
theorem dX8_add_26 : decode cX8_add 26 = .ok (.iload_n 1, 1) := by decide +kernel
theorem dX8_add_27 : decode cX8_add 27 = .ok (.invokevirtual 39, 3) := by decide +kernel
theorem dX8_add_30 : decode cX8_add 30 = .ok (.aload_n 0, 1) := by decide +kernel
theorem dX8_add_31 : decode cX8_add 31 = .ok (.aload_n 0, 1) := by decide +kernel
theorem dX8_add_32 : decode cX8_add 32 = .ok (.getfield 28, 3) := by decide +kernel
theorem dX8_add_35 : decode cX8_add 35 = .ok (.iconst 1, 1) := by decide +kernel
theorem dX8_add_36 : decode cX8_add 36 = .ok (.isub, 1) := by decide +kernel
theorem dX8_add_37 : decode cX8_add 37 = .ok (.iconst 1, 1) := by decide +kernel
theorem dX8_add_38 : decode cX8_add 38 = .ok (.iload_n 2, 1) := by decide +kernel
theorem dX8_add_39 : decode cX8_add 39 = .ok (.invokevirtual 39, 3) := by decide +kernel
theorem dX8_add_42 : decode cX8_add 42 = .ok (.aload_n 0, 1) := by decide +kernel
theorem dX8_add_43 : decode cX8_add 43 = .ok (.aload_n 0, 1) := by decide +kernel
theorem dX8_add_44 : decode cX8_add 44 = .ok (.getfield 28, 3) := by decide +kernel
theorem dX8_add_47 : decode cX8_add 47 = .ok (.iconst 1, 1) := by decide +kernel
theorem dX8_add_48 : decode cX8_add 48 = .ok (.isub, 1) := by decide +kernel
theorem dX8_add_49 : decode cX8_add 49 = .ok (.iconst 2, 1) := by decide +kernel
theorem dX8_add_50 : decode cX8_add 50 = .ok (.iload_n 3, 1) := by decide +kernel
theorem dX8_add_51 : decode cX8_add 51 = .ok (.invokevirtual 39, 3) := by decide +kernel
theorem dX8_add_54 : decode cX8_add 54 = .ok (.aload_n 0, 1) := by decide +kernel
theorem dX8_add_55 : decode cX8_add 55 = .ok (.aload_n 0, 1) := by decide +kernel
theorem dX8_add_56 : decode cX8_add 56 = .ok (.getfield 28, 3) := by decide +kernel
theorem dX8_add_59 : decode cX8_add 59 = .ok (.iconst 1, 1) := by decide +kernel
theorem dX8_add_60 : decode cX8_add 60 = .ok (.isub, 1) := by decide +kernel
theorem dX8_add_61 : decode cX8_add 61 = .ok (.iconst 3, 1) := by decide +kernel
theorem dX8_add_62 : decode cX8_add 62 = .ok (.iload 4, 2) := by decide +kernel
theorem dX8_add_64 : decode cX8_add 64 = .ok (.invokevirtual 39, 3) := by decide +kernel
theorem dX8_add_67 : decode cX8_add 67 = .ok (.return_, 1) := by decide +kernel
theorem dX8_dropLast_0 : decode cX8_dropLast 0 = .ok (.aload_n 0, 1) := by decide +kernel
theorem dX8_dropLast_1 : decode cX8_dropLast 1 = .ok (.iconst 0, 1) := by decide +kernel
theorem dX8_dropLast_2 : decode cX8_dropLast 2 = .ok (.aload_n 0, 1) := by decide +kernel
theorem dX8_dropLast_3 : decode cX8_dropLast 3 = .ok (.getfield 28, 3) := by decide +kernel
theorem dX8_dropLast_6 : decode cX8_dropLast 6 = .ok (.iconst 1, 1) := by decide +kernel
theorem dX8_dropLast_7 : decode cX8_dropLast 7 = .ok (.isub, 1) := by decide +kernel
theorem dX8_dropLast_8 : decode cX8_dropLast 8 = .ok (.invokestatic 9, 3) := by decide +kernel
theorem dX8_dropLast_11 : decode cX8_dropLast 11 = .ok (.putfield 28, 3) := by decide +kernel
theorem dX8_dropLast_14 : decode cX8_dropLast 14 = .ok (.return_, 1) := by decide +kernel
theorem dX8_clear_0 : decode cX8_clear 0 = .ok (.aload_n 0, 1) := by decide +kernel
theorem dX8_clear_1 : decode cX8_clear 1 = .ok (.iconst 0, 1) := by decide +kernel
theorem dX8_clear_2 : decode cX8_clear 2 = .ok (.putfield 28, 3) := by decide +kernel
theorem dX8_clear_5 : decode cX8_clear 5 = .ok (.return_, 1) := by decide +kernel
theorem dX8_copyFrom_0 : decode cX8_copyFrom 0 = .ok (.aload_n 1, 1) := by decide +kernel
theorem dX8_copyFrom_1 : decode cX8_copyFrom 1 = .ok (.getfield 24, 3) := by decide +kernel
theorem dX8_copyFrom_4 : decode cX8_copyFrom 4 = .ok (.iconst 0, 1) := by decide +kernel
theorem dX8_copyFrom_5 : decode cX8_copyFrom 5 = .ok (.aload_n 0, 1) := by decide +kernel
theorem dX8_copyFrom_6 : decode cX8_copyFrom 6 = .ok (.getfield 24, 3) := by decide +kernel
theorem dX8_copyFrom_9 : decode cX8_copyFrom 9 = .ok (.iconst 0, 1) := by decide +kernel
theorem dX8_copyFrom_10 : decode cX8_copyFrom 10 = .ok (.aload_n 0, 1) := by decide +kernel
theorem dX8_copyFrom_11 : decode cX8_copyFrom 11 = .ok (.getfield 24, 3) := by decide +kernel
theorem dX8_copyFrom_14 : decode cX8_copyFrom 14 = .ok (.arraylength, 1) := by decide +kernel
theorem dX8_copyFrom_15 : decode cX8_copyFrom 15 = .ok (.aload_n 1, 1) := by decide +kernel
theorem dX8_copyFrom_16 : decode cX8_copyFrom 16 = .ok (.getfield 24, 3) := by decide +kernel
theorem dX8_copyFrom_19 : decode cX8_copyFrom 19 = .ok (.arraylength, 1) := by decide +kernel
theorem dX8_copyFrom_20 : decode cX8_copyFrom 20 = .ok (.invokestatic 43, 3) := by decide +kernel
theorem dX8_copyFrom_23 : decode cX8_copyFrom 23 = .ok (.invokestatic 46, 3) := by decide +kernel
theorem dX8_copyFrom_26 : decode cX8_copyFrom 26 = .ok (.aload_n 0, 1) := by decide +kernel
theorem dX8_copyFrom_27 : decode cX8_copyFrom 27 = .ok (.aload_n 1, 1) := by decide +kernel
theorem dX8_copyFrom_28 : decode cX8_copyFrom 28 = .ok (.getfield 28, 3) := by decide +kernel
theorem dX8_copyFrom_31 : decode cX8_copyFrom 31 = .ok (.putfield 28, 3) := by decide +kernel
theorem dX8_copyFrom_34 : decode cX8_copyFrom 34 = .ok (.return_, 1) := by decide +kernel
theorem dX9_feed_0 : decode cX9_feed 0 = .ok (.aload_n 0, 1) := by decide +kernel
theorem dX9_feed_1 : decode cX9_feed 1 = .ok (.getfield 13, 3) := by decide +kernel
theorem dX9_feed_4 : decode cX9_feed 4 = .ok (.sipush 980, 3) := by decide +kernel
theorem dX9_feed_7 : decode cX9_feed 7 = .ok (.if_icmp .le 5, 3) := by decide +kernel
theorem dX9_feed_10 : decode cX9_feed 10 = .ok (.iconst (-1), 1) := by decide +kernel
theorem dX9_feed_11 : decode cX9_feed 11 = .ok (.ireturn, 1) := by decide +kernel
theorem dX9_feed_12 : decode cX9_feed 12 = .ok (.aload_n 0, 1) := by decide +kernel
theorem dX9_feed_13 : decode cX9_feed 13 = .ok (.iload_n 1, 1) := by decide +kernel
theorem dX9_feed_14 : decode cX9_feed 14 = .ok (.invokevirtual 93, 3) := by decide +kernel
theorem dX9_feed_17 : decode cX9_feed 17 = .ok (.aload_n 0, 1) := by decide +kernel
theorem dX9_feed_18 : decode cX9_feed 18 = .ok (.iload_n 2, 1) := by decide +kernel
theorem dX9_feed_19 : decode cX9_feed 19 = .ok (.invokevirtual 93, 3) := by decide +kernel
theorem dX9_feed_22 : decode cX9_feed 22 = .ok (.aload_n 0, 1) := by decide +kernel
theorem dX9_feed_23 : decode cX9_feed 23 = .ok (.iload_n 3, 1) := by decide +kernel
theorem dX9_feed_24 : decode cX9_feed 24 = .ok (.invokevirtual 93, 3) := by decide +kernel
theorem dX9_feed_27 : decode cX9_feed 27 = .ok (.aload_n 0, 1) := by decide +kernel
theorem dX9_feed_28 : decode cX9_feed 28 = .ok (.iload 4, 2) := by decide +kernel
theorem dX9_feed_30 : decode cX9_feed 30 = .ok (.invokevirtual 93, 3) := by decide +kernel
theorem dX9_feed_33 : decode cX9_feed 33 = .ok (.aload_n 0, 1) := by decide +kernel
theorem dX9_feed_34 : decode cX9_feed 34 = .ok (.iload 5, 2) := by decide +kernel
theorem dX9_feed_36 : decode cX9_feed 36 = .ok (.invokevirtual 93, 3) := by decide +kernel
theorem dX9_feed_39 : decode cX9_feed 39 = .ok (.aload_n 0, 1) := by decide +kernel
theorem dX9_feed_40 : decode cX9_feed 40 = .ok (.getfield 13, 3) := by decide +kernel
theorem dX9_feed_43 : decode cX9_feed 43 = .ok (.ireturn, 1) := by decide +kernel
theorem dX9_appendFour_0 : decode cX9_appendFour 0 = .ok (.bipush 24, 2) := by decide +kernel
theorem dX9_appendFour_2 : decode cX9_appendFour 2 = .ok (.istore_n 2, 1) := by decide +kernel
theorem dX9_appendFour_3 : decode cX9_appendFour 3 = .ok (.iload_n 2, 1) := by decide +kernel
theorem dX9_appendFour_4 : decode cX9_appendFour 4 = .ok (.ifCond .lt 51, 3) := by decide +kernel
theorem dX9_appendFour_7 : decode cX9_appendFour 7 = .ok (.aload_n 0, 1) := by decide +kernel
theorem dX9_appendFour_8 : decode cX9_appendFour 8 = .ok (.getfield 13, 3) := by decide +kernel
theorem dX9_appendFour_11 : decode cX9_appendFour 11 = .ok (.ifCond .lt 38, 3) := by decide +kernel
theorem dX9_appendFour_14 : decode cX9_appendFour 14 = .ok (.aload_n 0, 1) := by decide +kernel
theorem dX9_appendFour_15 : decode cX9_appendFour 15 = .ok (.getfield 13, 3) := by decide +kernel
theorem dX9_appendFour_18 : decode cX9_appendFour 18 = .ok (.aload_n 0, 1) := by decide +kernel
theorem dX9_appendFour_19 : decode cX9_appendFour 19 = .ok (.getfield 9, 3) := by decide +kernel
theorem dX9_appendFour_22 : decode cX9_appendFour 22 = .ok (.arraylength, 1) := by decide +kernel
theorem dX9_appendFour_23 : decode cX9_appendFour 23 = .ok (.if_icmp .ge 26, 3) := by decide +kernel
theorem dX9_appendFour_26 : decode cX9_appendFour 26 = .ok (.aload_n 0, 1) := by decide +kernel
theorem dX9_appendFour_27 : decode cX9_appendFour 27 = .ok (.getfield 9, 3) := by decide +kernel
theorem dX9_appendFour_30 : decode cX9_appendFour 30 = .ok (.aload_n 0, 1) := by decide +kernel
theorem dX9_appendFour_31 : decode cX9_appendFour 31 = .ok (.getfield 13, 3) := by decide +kernel
theorem dX9_appendFour_34 : decode cX9_appendFour 34 = .ok (.iload_n 1, 1) := by decide +kernel
theorem dX9_appendFour_35 : decode cX9_appendFour 35 = .ok (.iload_n 2, 1) := by decide +kernel
theorem dX9_appendFour_36 : decode cX9_appendFour 36 = .ok (.iushr, 1) := by decide +kernel
theorem dX9_appendFour_37 : decode cX9_appendFour 37 = .ok (.i2b, 1) := by decide +kernel
theorem dX9_appendFour_38 : decode cX9_appendFour 38 = .ok (.bastore, 1) := by decide +kernel
theorem dX9_appendFour_39 : decode cX9_appendFour 39 = .ok (.aload_n 0, 1) := by decide +kernel
theorem dX9_appendFour_40 : decode cX9_appendFour 40 = .ok (.dup, 1) := by decide +kernel
theorem dX9_appendFour_41 : decode cX9_appendFour 41 = .ok (.getfield 13, 3) := by decide +kernel
theorem dX9_appendFour_44 : decode cX9_appendFour 44 = .ok (.iconst 1, 1) := by decide +kernel
theorem dX9_appendFour_45 : decode cX9_appendFour 45 = .ok (.iadd, 1) := by decide +kernel
theorem dX9_appendFour_46 : decode cX9_appendFour 46 = .ok (.putfield 13, 3) := by decide +kernel
theorem dX9_appendFour_49 : decode cX9_appendFour 49 = .ok (.iinc 2 (-8), 3) := by decide +kernel
theorem dX9_appendFour_52 : decode cX9_appendFour 52 = .ok (.goto (-49), 3) := by decide +kernel
theorem dX9_appendFour_55 : decode cX9_appendFour 55 = .ok (.return_, 1) := by decide +kernel
theorem dX9_end_0 : decode cX9_end 0 = .ok (.iload_n 1, 1) := by decide +kernel
theorem dX9_end_1 : decode cX9_end 1 = .ok (.ifCond .lt 11, 3) := by decide +kernel
theorem dX9_end_4 : decode cX9_end 4 = .ok (.iload_n 1, 1) := by decide +kernel
theorem dX9_end_5 : decode cX9_end 5 = .ok (.aload_n 0, 1) := by decide +kernel
theorem dX9_end_6 : decode cX9_end 6 = .ok (.getfield 13, 3) := by decide +kernel
theorem dX9_end_9 : decode cX9_end 9 = .ok (.if_icmp .le 5, 3) := by decide +kernel
theorem dX9_end_12 : decode cX9_end 12 = .ok (.iconst (-1), 1) := by decide +kernel
theorem dX9_end_13 : decode cX9_end 13 = .ok (.ireturn, 1) := by decide +kernel
theorem dX9_end_14 : decode cX9_end 14 = .ok (.aload_n 0, 1) := by decide +kernel
theorem dX9_end_15 : decode cX9_end 15 = .ok (.iload_n 1, 1) := by decide +kernel
theorem dX9_end_16 : decode cX9_end 16 = .ok (.putfield 13, 3) := by decide +kernel
theorem dX9_end_19 : decode cX9_end 19 = .ok (.iload_n 1, 1) := by decide +kernel
theorem dX9_end_20 : decode cX9_end 20 = .ok (.ireturn, 1) := by decide +kernel
theorem dX9_ball_0 : decode cX9_ball 0 = .ok (.aload_n 0, 1) := by decide +kernel
theorem dX9_ball_1 : decode cX9_ball 1 = .ok (.getfield 32, 3) := by decide +kernel
theorem dX9_ball_4 : decode cX9_ball 4 = .ok (.aload_n 0, 1) := by decide +kernel
theorem dX9_ball_5 : decode cX9_ball 5 = .ok (.getfield 13, 3) := by decide +kernel
theorem dX9_ball_8 : decode cX9_ball 8 = .ok (.invokevirtual 97, 3) := by decide +kernel
theorem dX9_ball_11 : decode cX9_ball 11 = .ok (.aload_n 0, 1) := by decide +kernel
theorem dX9_ball_12 : decode cX9_ball 12 = .ok (.getfield 32, 3) := by decide +kernel
theorem dX9_ball_15 : decode cX9_ball 15 = .ok (.getfield 100, 3) := by decide +kernel
theorem dX9_ball_18 : decode cX9_ball 18 = .ok (.ifCond .eq 6, 3) := by decide +kernel
theorem dX9_ball_21 : decode cX9_ball 21 = .ok (.bipush (-4), 2) := by decide +kernel
theorem dX9_ball_23 : decode cX9_ball 23 = .ok (.ireturn, 1) := by decide +kernel
theorem dX9_ball_24 : decode cX9_ball 24 = .ok (.aload_n 0, 1) := by decide +kernel
theorem dX9_ball_25 : decode cX9_ball 25 = .ok (.getfield 20, 3) := by decide +kernel
theorem dX9_ball_28 : decode cX9_ball 28 = .ok (.aload_n 0, 1) := by decide +kernel
theorem dX9_ball_29 : decode cX9_ball 29 = .ok (.getfield 24, 3) := by decide +kernel
theorem dX9_ball_32 : decode cX9_ball 32 = .ok (.invokevirtual 103, 3) := by decide +kernel
theorem dX9_ball_35 : decode cX9_ball 35 = .ok (.aload_n 0, 1) := by decide +kernel
theorem dX9_ball_36 : decode cX9_ball 36 = .ok (.iconst 0, 1) := by decide +kernel
theorem dX9_ball_37 : decode cX9_ball 37 = .ok (.putfield 13, 3) := by decide +kernel
theorem dX9_ball_40 : decode cX9_ball 40 = .ok (.aload_n 0, 1) := by decide +kernel
theorem dX9_ball_41 : decode cX9_ball 41 = .ok (.invokevirtual 107, 3) := by decide +kernel
theorem dX9_ball_44 : decode cX9_ball 44 = .ok (.aload_n 0, 1) := by decide +kernel
theorem dX9_ball_45 : decode cX9_ball 45 = .ok (.getfield 20, 3) := by decide +kernel
theorem dX9_ball_48 : decode cX9_ball 48 = .ok (.getfield 110, 3) := by decide +kernel
theorem dX9_ball_51 : decode cX9_ball 51 = .ok (.ireturn, 1) := by decide +kernel
theorem dX9_fault_0 : decode cX9_fault 0 = .ok (.iload_n 1, 1) := by decide +kernel
theorem dX9_fault_1 : decode cX9_fault 1 = .ok (.ifCond .ne 11, 3) := by decide +kernel
theorem dX9_fault_4 : decode cX9_fault 4 = .ok (.aload_n 0, 1) := by decide +kernel
theorem dX9_fault_5 : decode cX9_fault 5 = .ok (.getfield 32, 3) := by decide +kernel
theorem dX9_fault_8 : decode cX9_fault 8 = .ok (.getfield 100, 3) := by decide +kernel
theorem dX9_fault_11 : decode cX9_fault 11 = .ok (.ireturn, 1) := by decide +kernel
theorem dX9_fault_12 : decode cX9_fault 12 = .ok (.iload_n 1, 1) := by decide +kernel
theorem dX9_fault_13 : decode cX9_fault 13 = .ok (.iconst 1, 1) := by decide +kernel
theorem dX9_fault_14 : decode cX9_fault 14 = .ok (.if_icmp .ne 13, 3) := by decide +kernel
theorem dX9_fault_17 : decode cX9_fault 17 = .ok (.aload_n 0, 1) := by decide +kernel
theorem dX9_fault_18 : decode cX9_fault 18 = .ok (.getfield 32, 3) := by decide +kernel
theorem dX9_fault_21 : decode cX9_fault 21 = .ok (.getfield 113, 3) := by decide +kernel
theorem dX9_fault_24 : decode cX9_fault 24 = .ok (.goto 4, 3) := by decide +kernel
theorem dX9_fault_27 : decode cX9_fault 27 = .ok (.iconst (-1), 1) := by decide +kernel
theorem dX9_fault_28 : decode cX9_fault 28 = .ok (.ireturn, 1) := by decide +kernel
theorem dX9_settle_0 : decode cX9_settle 0 = .ok (.aload_n 0, 1) := by decide +kernel
theorem dX9_settle_1 : decode cX9_settle 1 = .ok (.getfield 54, 3) := by decide +kernel
theorem dX9_settle_4 : decode cX9_settle 4 = .ok (.aload_n 0, 1) := by decide +kernel
theorem dX9_settle_5 : decode cX9_settle 5 = .ok (.getfield 20, 3) := by decide +kernel
theorem dX9_settle_8 : decode cX9_settle 8 = .ok (.iconst (-1), 1) := by decide +kernel
theorem dX9_settle_9 : decode cX9_settle 9 = .ok (.iconst 0, 1) := by decide +kernel
theorem dX9_settle_10 : decode cX9_settle 10 = .ok (.invokevirtual 116, 3) := by decide +kernel
theorem dX9_settle_13 : decode cX9_settle 13 = .ok (.return_, 1) := by decide +kernel
theorem dX9_door_0 : decode cX9_door 0 = .ok (.aload_n 0, 1) := by decide +kernel
theorem dX9_door_1 : decode cX9_door 1 = .ok (.getfield 20, 3) := by decide +kernel
theorem dX9_door_4 : decode cX9_door 4 = .ok (.getfield 119, 3) := by decide +kernel
theorem dX9_door_7 : decode cX9_door 7 = .ok (.iload_n 1, 1) := by decide +kernel
theorem dX9_door_8 : decode cX9_door 8 = .ok (.iload_n 2, 1) := by decide +kernel
theorem dX9_door_9 : decode cX9_door 9 = .ok (.invokevirtual 123, 3) := by decide +kernel
theorem dX9_door_12 : decode cX9_door 12 = .ok (.ifCond .eq 18, 3) := by decide +kernel
theorem dX9_door_15 : decode cX9_door 15 = .ok (.aload_n 0, 1) := by decide +kernel
theorem dX9_door_16 : decode cX9_door 16 = .ok (.getfield 20, 3) := by decide +kernel
theorem dX9_door_19 : decode cX9_door 19 = .ok (.getfield 119, 3) := by decide +kernel
theorem dX9_door_22 : decode cX9_door 22 = .ok (.iload_n 1, 1) := by decide +kernel
theorem dX9_door_23 : decode cX9_door 23 = .ok (.iload_n 2, 1) := by decide +kernel
theorem dX9_door_24 : decode cX9_door 24 = .ok (.invokevirtual 129, 3) := by decide +kernel
theorem dX9_door_27 : decode cX9_door 27 = .ok (.goto 5, 3) := by decide +kernel
theorem dX9_door_30 : decode cX9_door 30 = .ok (.bipush (-2), 2) := by decide +kernel
theorem dX9_door_32 : decode cX9_door 32 = .ok (.ireturn, 1) := by decide +kernel
theorem dX9_lady_0 : decode cX9_lady 0 = .ok (.aload_n 0, 1) := by decide +kernel
theorem dX9_lady_1 : decode cX9_lady 1 = .ok (.getfield 20, 3) := by decide +kernel
theorem dX9_lady_4 : decode cX9_lady 4 = .ok (.getfield 133, 3) := by decide +kernel
theorem dX9_lady_7 : decode cX9_lady 7 = .ok (.iload_n 1, 1) := by decide +kernel
theorem dX9_lady_8 : decode cX9_lady 8 = .ok (.iload_n 2, 1) := by decide +kernel
theorem dX9_lady_9 : decode cX9_lady 9 = .ok (.invokevirtual 123, 3) := by decide +kernel
theorem dX9_lady_12 : decode cX9_lady 12 = .ok (.ifCond .eq 18, 3) := by decide +kernel
theorem dX9_lady_15 : decode cX9_lady 15 = .ok (.aload_n 0, 1) := by decide +kernel
theorem dX9_lady_16 : decode cX9_lady 16 = .ok (.getfield 20, 3) := by decide +kernel
theorem dX9_lady_19 : decode cX9_lady 19 = .ok (.getfield 133, 3) := by decide +kernel
theorem dX9_lady_22 : decode cX9_lady 22 = .ok (.iload_n 1, 1) := by decide +kernel
theorem dX9_lady_23 : decode cX9_lady 23 = .ok (.iload_n 2, 1) := by decide +kernel
theorem dX9_lady_24 : decode cX9_lady 24 = .ok (.invokevirtual 129, 3) := by decide +kernel
theorem dX9_lady_27 : decode cX9_lady 27 = .ok (.goto 5, 3) := by decide +kernel
theorem dX9_lady_30 : decode cX9_lady 30 = .ok (.bipush (-2), 2) := by decide +kernel
theorem dX9_lady_32 : decode cX9_lady 32 = .ok (.ireturn, 1) := by decide +kernel
theorem dX9_minister_0 : decode cX9_minister 0 = .ok (.aload_n 0, 1) := by decide +kernel
theorem dX9_minister_1 : decode cX9_minister 1 = .ok (.getfield 20, 3) := by decide +kernel
theorem dX9_minister_4 : decode cX9_minister 4 = .ok (.getfield 136, 3) := by decide +kernel
theorem dX9_minister_7 : decode cX9_minister 7 = .ok (.iload_n 1, 1) := by decide +kernel
theorem dX9_minister_8 : decode cX9_minister 8 = .ok (.iload_n 2, 1) := by decide +kernel
theorem dX9_minister_9 : decode cX9_minister 9 = .ok (.invokevirtual 123, 3) := by decide +kernel
theorem dX9_minister_12 : decode cX9_minister 12 = .ok (.ifCond .eq 18, 3) := by decide +kernel
theorem dX9_minister_15 : decode cX9_minister 15 = .ok (.aload_n 0, 1) := by decide +kernel
theorem dX9_minister_16 : decode cX9_minister 16 = .ok (.getfield 20, 3) := by decide +kernel
theorem dX9_minister_19 : decode cX9_minister 19 = .ok (.getfield 136, 3) := by decide +kernel
theorem dX9_minister_22 : decode cX9_minister 22 = .ok (.iload_n 1, 1) := by decide +kernel
theorem dX9_minister_23 : decode cX9_minister 23 = .ok (.iload_n 2, 1) := by decide +kernel
theorem dX9_minister_24 : decode cX9_minister 24 = .ok (.invokevirtual 129, 3) := by decide +kernel
theorem dX9_minister_27 : decode cX9_minister 27 = .ok (.goto 5, 3) := by decide +kernel
theorem dX9_minister_30 : decode cX9_minister 30 = .ok (.bipush (-2), 2) := by decide +kernel
theorem dX9_minister_32 : decode cX9_minister 32 = .ok (.ireturn, 1) := by decide +kernel
theorem dX9_way_0 : decode cX9_way 0 = .ok (.aload_n 0, 1) := by decide +kernel
theorem dX9_way_1 : decode cX9_way 1 = .ok (.getfield 20, 3) := by decide +kernel
theorem dX9_way_4 : decode cX9_way 4 = .ok (.iload_n 1, 1) := by decide +kernel
theorem dX9_way_5 : decode cX9_way 5 = .ok (.invokevirtual 139, 3) := by decide +kernel
theorem dX9_way_8 : decode cX9_way 8 = .ok (.ifCond .eq 25, 3) := by decide +kernel
theorem dX9_way_11 : decode cX9_way 11 = .ok (.aload_n 0, 1) := by decide +kernel
theorem dX9_way_12 : decode cX9_way 12 = .ok (.getfield 20, 3) := by decide +kernel
theorem dX9_way_15 : decode cX9_way 15 = .ok (.iload_n 2, 1) := by decide +kernel
theorem dX9_way_16 : decode cX9_way 16 = .ok (.invokevirtual 143, 3) := by decide +kernel
theorem dX9_way_19 : decode cX9_way 19 = .ok (.ifCond .eq 14, 3) := by decide +kernel
theorem dX9_way_22 : decode cX9_way 22 = .ok (.aload_n 0, 1) := by decide +kernel
theorem dX9_way_23 : decode cX9_way 23 = .ok (.getfield 20, 3) := by decide +kernel
theorem dX9_way_26 : decode cX9_way 26 = .ok (.iload_n 3, 1) := by decide +kernel
theorem dX9_way_27 : decode cX9_way 27 = .ok (.invokevirtual 143, 3) := by decide +kernel
theorem dX9_way_30 : decode cX9_way 30 = .ok (.ifCond .ne 6, 3) := by decide +kernel
theorem dX9_way_33 : decode cX9_way 33 = .ok (.bipush (-2), 2) := by decide +kernel
theorem dX9_way_35 : decode cX9_way 35 = .ok (.ireturn, 1) := by decide +kernel
theorem dX9_way_36 : decode cX9_way 36 = .ok (.aload_n 0, 1) := by decide +kernel
theorem dX9_way_37 : decode cX9_way 37 = .ok (.getfield 54, 3) := by decide +kernel
theorem dX9_way_40 : decode cX9_way 40 = .ok (.iload_n 1, 1) := by decide +kernel
theorem dX9_way_41 : decode cX9_way 41 = .ok (.iload_n 2, 1) := by decide +kernel
theorem dX9_way_42 : decode cX9_way 42 = .ok (.iload_n 3, 1) := by decide +kernel
theorem dX9_way_43 : decode cX9_way 43 = .ok (.invokevirtual 146, 3) := by decide +kernel
theorem dX9_way_46 : decode cX9_way 46 = .ok (.ireturn, 1) := by decide +kernel
theorem dX9_reach_0 : decode cX9_reach 0 = .ok (.aload_n 0, 1) := by decide +kernel
theorem dX9_reach_1 : decode cX9_reach 1 = .ok (.getfield 20, 3) := by decide +kernel
theorem dX9_reach_4 : decode cX9_reach 4 = .ok (.iload_n 1, 1) := by decide +kernel
theorem dX9_reach_5 : decode cX9_reach 5 = .ok (.invokevirtual 139, 3) := by decide +kernel
theorem dX9_reach_8 : decode cX9_reach 8 = .ok (.ifCond .eq 14, 3) := by decide +kernel
theorem dX9_reach_11 : decode cX9_reach 11 = .ok (.aload_n 0, 1) := by decide +kernel
theorem dX9_reach_12 : decode cX9_reach 12 = .ok (.getfield 20, 3) := by decide +kernel
theorem dX9_reach_15 : decode cX9_reach 15 = .ok (.iload_n 2, 1) := by decide +kernel
theorem dX9_reach_16 : decode cX9_reach 16 = .ok (.invokevirtual 143, 3) := by decide +kernel
theorem dX9_reach_19 : decode cX9_reach 19 = .ok (.ifCond .ne 6, 3) := by decide +kernel
theorem dX9_reach_22 : decode cX9_reach 22 = .ok (.bipush (-2), 2) := by decide +kernel
theorem dX9_reach_24 : decode cX9_reach 24 = .ok (.ireturn, 1) := by decide +kernel
theorem dX9_reach_25 : decode cX9_reach 25 = .ok (.aload_n 0, 1) := by decide +kernel
theorem dX9_reach_26 : decode cX9_reach 26 = .ok (.getfield 54, 3) := by decide +kernel
theorem dX9_reach_29 : decode cX9_reach 29 = .ok (.iload_n 1, 1) := by decide +kernel
theorem dX9_reach_30 : decode cX9_reach 30 = .ok (.iload_n 2, 1) := by decide +kernel
theorem dX9_reach_31 : decode cX9_reach 31 = .ok (.invokevirtual 150, 3) := by decide +kernel
theorem dX9_reach_34 : decode cX9_reach 34 = .ok (.ireturn, 1) := by decide +kernel
theorem dX9_bidden_0 : decode cX9_bidden 0 = .ok (.aload_n 0, 1) := by decide +kernel
theorem dX9_bidden_1 : decode cX9_bidden 1 = .ok (.getfield 20, 3) := by decide +kernel
theorem dX9_bidden_4 : decode cX9_bidden 4 = .ok (.iload_n 1, 1) := by decide +kernel
theorem dX9_bidden_5 : decode cX9_bidden 5 = .ok (.invokevirtual 139, 3) := by decide +kernel
theorem dX9_bidden_8 : decode cX9_bidden 8 = .ok (.ifCond .eq 14, 3) := by decide +kernel
theorem dX9_bidden_11 : decode cX9_bidden 11 = .ok (.aload_n 0, 1) := by decide +kernel
theorem dX9_bidden_12 : decode cX9_bidden 12 = .ok (.getfield 20, 3) := by decide +kernel
theorem dX9_bidden_15 : decode cX9_bidden 15 = .ok (.iload_n 2, 1) := by decide +kernel
theorem dX9_bidden_16 : decode cX9_bidden 16 = .ok (.invokevirtual 153, 3) := by decide +kernel
theorem dX9_bidden_19 : decode cX9_bidden 19 = .ok (.ifCond .ne 6, 3) := by decide +kernel
theorem dX9_bidden_22 : decode cX9_bidden 22 = .ok (.bipush (-2), 2) := by decide +kernel
theorem dX9_bidden_24 : decode cX9_bidden 24 = .ok (.ireturn, 1) := by decide +kernel
theorem dX9_bidden_25 : decode cX9_bidden 25 = .ok (.aload_n 0, 1) := by decide +kernel
theorem dX9_bidden_26 : decode cX9_bidden 26 = .ok (.getfield 54, 3) := by decide +kernel
theorem dX9_bidden_29 : decode cX9_bidden 29 = .ok (.iload_n 1, 1) := by decide +kernel
theorem dX9_bidden_30 : decode cX9_bidden 30 = .ok (.iload_n 2, 1) := by decide +kernel
theorem dX9_bidden_31 : decode cX9_bidden 31 = .ok (.invokevirtual 156, 3) := by decide +kernel
theorem dX9_bidden_34 : decode cX9_bidden 34 = .ok (.ireturn, 1) := by decide +kernel
theorem dX9_at_0 : decode cX9_at 0 = .ok (.aload_n 0, 1) := by decide +kernel
theorem dX9_at_1 : decode cX9_at 1 = .ok (.getfield 20, 3) := by decide +kernel
theorem dX9_at_4 : decode cX9_at 4 = .ok (.iload_n 1, 1) := by decide +kernel
theorem dX9_at_5 : decode cX9_at 5 = .ok (.invokevirtual 139, 3) := by decide +kernel
theorem dX9_at_8 : decode cX9_at 8 = .ok (.ifCond .eq 14, 3) := by decide +kernel
theorem dX9_at_11 : decode cX9_at 11 = .ok (.aload_n 0, 1) := by decide +kernel
theorem dX9_at_12 : decode cX9_at 12 = .ok (.getfield 20, 3) := by decide +kernel
theorem dX9_at_15 : decode cX9_at 15 = .ok (.iload_n 2, 1) := by decide +kernel
theorem dX9_at_16 : decode cX9_at 16 = .ok (.invokevirtual 153, 3) := by decide +kernel
theorem dX9_at_19 : decode cX9_at 19 = .ok (.ifCond .ne 6, 3) := by decide +kernel
theorem dX9_at_22 : decode cX9_at 22 = .ok (.bipush (-2), 2) := by decide +kernel
theorem dX9_at_24 : decode cX9_at 24 = .ok (.ireturn, 1) := by decide +kernel
theorem dX9_at_25 : decode cX9_at 25 = .ok (.aload_n 0, 1) := by decide +kernel
theorem dX9_at_26 : decode cX9_at 26 = .ok (.getfield 54, 3) := by decide +kernel
theorem dX9_at_29 : decode cX9_at 29 = .ok (.iload_n 1, 1) := by decide +kernel
theorem dX9_at_30 : decode cX9_at 30 = .ok (.iload_n 2, 1) := by decide +kernel
theorem dX9_at_31 : decode cX9_at 31 = .ok (.invokevirtual 159, 3) := by decide +kernel
theorem dX9_at_34 : decode cX9_at 34 = .ok (.ireturn, 1) := by decide +kernel
theorem dX9_within_0 : decode cX9_within 0 = .ok (.aload_n 0, 1) := by decide +kernel
theorem dX9_within_1 : decode cX9_within 1 = .ok (.getfield 20, 3) := by decide +kernel
theorem dX9_within_4 : decode cX9_within 4 = .ok (.iload_n 1, 1) := by decide +kernel
theorem dX9_within_5 : decode cX9_within 5 = .ok (.invokevirtual 143, 3) := by decide +kernel
theorem dX9_within_8 : decode cX9_within 8 = .ok (.ifCond .eq 14, 3) := by decide +kernel
theorem dX9_within_11 : decode cX9_within 11 = .ok (.aload_n 0, 1) := by decide +kernel
theorem dX9_within_12 : decode cX9_within 12 = .ok (.getfield 20, 3) := by decide +kernel
theorem dX9_within_15 : decode cX9_within 15 = .ok (.iload_n 2, 1) := by decide +kernel
theorem dX9_within_16 : decode cX9_within 16 = .ok (.invokevirtual 153, 3) := by decide +kernel
theorem dX9_within_19 : decode cX9_within 19 = .ok (.ifCond .ne 6, 3) := by decide +kernel
theorem dX9_within_22 : decode cX9_within 22 = .ok (.bipush (-2), 2) := by decide +kernel
theorem dX9_within_24 : decode cX9_within 24 = .ok (.ireturn, 1) := by decide +kernel
theorem dX9_within_25 : decode cX9_within 25 = .ok (.aload_n 0, 1) := by decide +kernel
theorem dX9_within_26 : decode cX9_within 26 = .ok (.getfield 54, 3) := by decide +kernel
theorem dX9_within_29 : decode cX9_within 29 = .ok (.iload_n 1, 1) := by decide +kernel
theorem dX9_within_30 : decode cX9_within 30 = .ok (.iload_n 2, 1) := by decide +kernel
theorem dX9_within_31 : decode cX9_within 31 = .ok (.invokevirtual 162, 3) := by decide +kernel
theorem dX9_within_34 : decode cX9_within 34 = .ok (.ireturn, 1) := by decide +kernel
theorem dX9_steps_0 : decode cX9_steps 0 = .ok (.aload_n 0, 1) := by decide +kernel
theorem dX9_steps_1 : decode cX9_steps 1 = .ok (.getfield 20, 3) := by decide +kernel
theorem dX9_steps_4 : decode cX9_steps 4 = .ok (.iload_n 1, 1) := by decide +kernel
theorem dX9_steps_5 : decode cX9_steps 5 = .ok (.invokevirtual 139, 3) := by decide +kernel
theorem dX9_steps_8 : decode cX9_steps 8 = .ok (.ifCond .eq 14, 3) := by decide +kernel
theorem dX9_steps_11 : decode cX9_steps 11 = .ok (.aload_n 0, 1) := by decide +kernel
theorem dX9_steps_12 : decode cX9_steps 12 = .ok (.getfield 54, 3) := by decide +kernel
theorem dX9_steps_15 : decode cX9_steps 15 = .ok (.iload_n 1, 1) := by decide +kernel
theorem dX9_steps_16 : decode cX9_steps 16 = .ok (.invokevirtual 165, 3) := by decide +kernel
theorem dX9_steps_19 : decode cX9_steps 19 = .ok (.goto 5, 3) := by decide +kernel
theorem dX9_steps_22 : decode cX9_steps 22 = .ok (.bipush (-2), 2) := by decide +kernel
theorem dX9_steps_24 : decode cX9_steps 24 = .ok (.ireturn, 1) := by decide +kernel
theorem dX9_sees_0 : decode cX9_sees 0 = .ok (.aload_n 0, 1) := by decide +kernel
theorem dX9_sees_1 : decode cX9_sees 1 = .ok (.getfield 20, 3) := by decide +kernel
theorem dX9_sees_4 : decode cX9_sees 4 = .ok (.iload_n 1, 1) := by decide +kernel
theorem dX9_sees_5 : decode cX9_sees 5 = .ok (.invokevirtual 139, 3) := by decide +kernel
theorem dX9_sees_8 : decode cX9_sees 8 = .ok (.ifCond .ne 6, 3) := by decide +kernel
theorem dX9_sees_11 : decode cX9_sees 11 = .ok (.bipush (-2), 2) := by decide +kernel
theorem dX9_sees_13 : decode cX9_sees 13 = .ok (.ireturn, 1) := by decide +kernel
theorem dX9_sees_14 : decode cX9_sees 14 = .ok (.iconst 0, 1) := by decide +kernel
theorem dX9_sees_15 : decode cX9_sees 15 = .ok (.istore_n 2, 1) := by decide +kernel
theorem dX9_sees_16 : decode cX9_sees 16 = .ok (.iconst 0, 1) := by decide +kernel
theorem dX9_sees_17 : decode cX9_sees 17 = .ok (.istore_n 3, 1) := by decide +kernel
theorem dX9_sees_18 : decode cX9_sees 18 = .ok (.iload_n 3, 1) := by decide +kernel
theorem dX9_sees_19 : decode cX9_sees 19 = .ok (.aload_n 0, 1) := by decide +kernel
theorem dX9_sees_20 : decode cX9_sees 20 = .ok (.getfield 20, 3) := by decide +kernel
theorem dX9_sees_23 : decode cX9_sees 23 = .ok (.getfield 169, 3) := by decide +kernel
theorem dX9_sees_26 : decode cX9_sees 26 = .ok (.if_icmp .gt 23, 3) := by decide +kernel
theorem dX9_sees_29 : decode cX9_sees 29 = .ok (.iload_n 2, 1) := by decide +kernel
theorem dX9_sees_30 : decode cX9_sees 30 = .ok (.iconst 1, 1) := by decide +kernel
theorem dX9_sees_31 : decode cX9_sees 31 = .ok (.aload_n 0, 1) := by decide +kernel
theorem dX9_sees_32 : decode cX9_sees 32 = .ok (.getfield 54, 3) := by decide +kernel
theorem dX9_sees_35 : decode cX9_sees 35 = .ok (.iload_n 1, 1) := by decide +kernel
theorem dX9_sees_36 : decode cX9_sees 36 = .ok (.iload_n 3, 1) := by decide +kernel
theorem dX9_sees_37 : decode cX9_sees 37 = .ok (.invokevirtual 159, 3) := by decide +kernel
theorem dX9_sees_40 : decode cX9_sees 40 = .ok (.ishl, 1) := by decide +kernel
theorem dX9_sees_41 : decode cX9_sees 41 = .ok (.ior, 1) := by decide +kernel
theorem dX9_sees_42 : decode cX9_sees 42 = .ok (.istore_n 2, 1) := by decide +kernel
theorem dX9_sees_43 : decode cX9_sees 43 = .ok (.iinc 3 1, 3) := by decide +kernel
theorem dX9_sees_46 : decode cX9_sees 46 = .ok (.goto (-28), 3) := by decide +kernel
theorem dX9_sees_49 : decode cX9_sees 49 = .ok (.iload_n 2, 1) := by decide +kernel
theorem dX9_sees_50 : decode cX9_sees 50 = .ok (.ireturn, 1) := by decide +kernel
theorem dX9_meets_0 : decode cX9_meets 0 = .ok (.aload_n 0, 1) := by decide +kernel
theorem dX9_meets_1 : decode cX9_meets 1 = .ok (.getfield 20, 3) := by decide +kernel
theorem dX9_meets_4 : decode cX9_meets 4 = .ok (.iload_n 1, 1) := by decide +kernel
theorem dX9_meets_5 : decode cX9_meets 5 = .ok (.invokevirtual 139, 3) := by decide +kernel
theorem dX9_meets_8 : decode cX9_meets 8 = .ok (.ifCond .eq 14, 3) := by decide +kernel
theorem dX9_meets_11 : decode cX9_meets 11 = .ok (.aload_n 0, 1) := by decide +kernel
theorem dX9_meets_12 : decode cX9_meets 12 = .ok (.getfield 20, 3) := by decide +kernel
theorem dX9_meets_15 : decode cX9_meets 15 = .ok (.iload_n 2, 1) := by decide +kernel
theorem dX9_meets_16 : decode cX9_meets 16 = .ok (.invokevirtual 139, 3) := by decide +kernel
theorem dX9_meets_19 : decode cX9_meets 19 = .ok (.ifCond .ne 6, 3) := by decide +kernel
theorem dX9_meets_22 : decode cX9_meets 22 = .ok (.bipush (-2), 2) := by decide +kernel
theorem dX9_meets_24 : decode cX9_meets 24 = .ok (.ireturn, 1) := by decide +kernel
theorem dX9_meets_25 : decode cX9_meets 25 = .ok (.iconst 0, 1) := by decide +kernel
theorem dX9_meets_26 : decode cX9_meets 26 = .ok (.istore_n 3, 1) := by decide +kernel
theorem dX9_meets_27 : decode cX9_meets 27 = .ok (.iload_n 3, 1) := by decide +kernel
theorem dX9_meets_28 : decode cX9_meets 28 = .ok (.aload_n 0, 1) := by decide +kernel
theorem dX9_meets_29 : decode cX9_meets 29 = .ok (.getfield 20, 3) := by decide +kernel
theorem dX9_meets_32 : decode cX9_meets 32 = .ok (.getfield 169, 3) := by decide +kernel
theorem dX9_meets_35 : decode cX9_meets 35 = .ok (.if_icmp .gt 27, 3) := by decide +kernel
theorem dX9_meets_38 : decode cX9_meets 38 = .ok (.aload_n 0, 1) := by decide +kernel
theorem dX9_meets_39 : decode cX9_meets 39 = .ok (.getfield 54, 3) := by decide +kernel
theorem dX9_meets_42 : decode cX9_meets 42 = .ok (.iload_n 1, 1) := by decide +kernel
theorem dX9_meets_43 : decode cX9_meets 43 = .ok (.iload_n 3, 1) := by decide +kernel
theorem dX9_meets_44 : decode cX9_meets 44 = .ok (.invokevirtual 172, 3) := by decide +kernel
theorem dX9_meets_47 : decode cX9_meets 47 = .ok (.iload_n 2, 1) := by decide +kernel
theorem dX9_meets_48 : decode cX9_meets 48 = .ok (.invokestatic 175, 3) := by decide +kernel
theorem dX9_meets_51 : decode cX9_meets 51 = .ok (.ifCond .eq 5, 3) := by decide +kernel
theorem dX9_meets_54 : decode cX9_meets 54 = .ok (.iload_n 3, 1) := by decide +kernel
theorem dX9_meets_55 : decode cX9_meets 55 = .ok (.ireturn, 1) := by decide +kernel
theorem dX9_meets_56 : decode cX9_meets 56 = .ok (.iinc 3 1, 3) := by decide +kernel
theorem dX9_meets_59 : decode cX9_meets 59 = .ok (.goto (-32), 3) := by decide +kernel
theorem dX9_meets_62 : decode cX9_meets 62 = .ok (.iconst (-1), 1) := by decide +kernel
theorem dX9_meets_63 : decode cX9_meets 63 = .ok (.ireturn, 1) := by decide +kernel
theorem dX9_often_0 : decode cX9_often 0 = .ok (.aload_n 0, 1) := by decide +kernel
theorem dX9_often_1 : decode cX9_often 1 = .ok (.getfield 20, 3) := by decide +kernel
theorem dX9_often_4 : decode cX9_often 4 = .ok (.iload_n 1, 1) := by decide +kernel
theorem dX9_often_5 : decode cX9_often 5 = .ok (.invokevirtual 139, 3) := by decide +kernel
theorem dX9_often_8 : decode cX9_often 8 = .ok (.ifCond .eq 14, 3) := by decide +kernel
theorem dX9_often_11 : decode cX9_often 11 = .ok (.aload_n 0, 1) := by decide +kernel
theorem dX9_often_12 : decode cX9_often 12 = .ok (.getfield 20, 3) := by decide +kernel
theorem dX9_often_15 : decode cX9_often 15 = .ok (.iload_n 2, 1) := by decide +kernel
theorem dX9_often_16 : decode cX9_often 16 = .ok (.invokevirtual 139, 3) := by decide +kernel
theorem dX9_often_19 : decode cX9_often 19 = .ok (.ifCond .ne 6, 3) := by decide +kernel
theorem dX9_often_22 : decode cX9_often 22 = .ok (.bipush (-2), 2) := by decide +kernel
theorem dX9_often_24 : decode cX9_often 24 = .ok (.ireturn, 1) := by decide +kernel
theorem dX9_often_25 : decode cX9_often 25 = .ok (.aload_n 0, 1) := by decide +kernel
theorem dX9_often_26 : decode cX9_often 26 = .ok (.getfield 54, 3) := by decide +kernel
theorem dX9_often_29 : decode cX9_often 29 = .ok (.iload_n 1, 1) := by decide +kernel
theorem dX9_often_30 : decode cX9_often 30 = .ok (.iload_n 2, 1) := by decide +kernel
theorem dX9_often_31 : decode cX9_often 31 = .ok (.invokevirtual 178, 3) := by decide +kernel
theorem dX9_often_34 : decode cX9_often 34 = .ok (.ireturn, 1) := by decide +kernel
theorem dX9_friends_0 : decode cX9_friends 0 = .ok (.aload_n 0, 1) := by decide +kernel
theorem dX9_friends_1 : decode cX9_friends 1 = .ok (.getfield 20, 3) := by decide +kernel
theorem dX9_friends_4 : decode cX9_friends 4 = .ok (.iload_n 1, 1) := by decide +kernel
theorem dX9_friends_5 : decode cX9_friends 5 = .ok (.invokevirtual 139, 3) := by decide +kernel
theorem dX9_friends_8 : decode cX9_friends 8 = .ok (.ifCond .eq 14, 3) := by decide +kernel
theorem dX9_friends_11 : decode cX9_friends 11 = .ok (.aload_n 0, 1) := by decide +kernel
theorem dX9_friends_12 : decode cX9_friends 12 = .ok (.getfield 54, 3) := by decide +kernel
theorem dX9_friends_15 : decode cX9_friends 15 = .ok (.iload_n 1, 1) := by decide +kernel
theorem dX9_friends_16 : decode cX9_friends 16 = .ok (.invokevirtual 181, 3) := by decide +kernel
theorem dX9_friends_19 : decode cX9_friends 19 = .ok (.goto 5, 3) := by decide +kernel
theorem dX9_friends_22 : decode cX9_friends 22 = .ok (.bipush (-2), 2) := by decide +kernel
theorem dX9_friends_24 : decode cX9_friends 24 = .ok (.ireturn, 1) := by decide +kernel
theorem dX9_crush_0 : decode cX9_crush 0 = .ok (.aload_n 0, 1) := by decide +kernel
theorem dX9_crush_1 : decode cX9_crush 1 = .ok (.getfield 20, 3) := by decide +kernel
theorem dX9_crush_4 : decode cX9_crush 4 = .ok (.invokevirtual 184, 3) := by decide +kernel
theorem dX9_crush_7 : decode cX9_crush 7 = .ok (.ifCond .ne 6, 3) := by decide +kernel
theorem dX9_crush_10 : decode cX9_crush 10 = .ok (.bipush (-2), 2) := by decide +kernel
theorem dX9_crush_12 : decode cX9_crush 12 = .ok (.ireturn, 1) := by decide +kernel
theorem dX9_crush_13 : decode cX9_crush 13 = .ok (.iconst 0, 1) := by decide +kernel
theorem dX9_crush_14 : decode cX9_crush 14 = .ok (.istore_n 1, 1) := by decide +kernel
theorem dX9_crush_15 : decode cX9_crush 15 = .ok (.iconst 0, 1) := by decide +kernel
theorem dX9_crush_16 : decode cX9_crush 16 = .ok (.istore_n 2, 1) := by decide +kernel
theorem dX9_crush_17 : decode cX9_crush 17 = .ok (.iload_n 2, 1) := by decide +kernel
theorem dX9_crush_18 : decode cX9_crush 18 = .ok (.aload_n 0, 1) := by decide +kernel
theorem dX9_crush_19 : decode cX9_crush 19 = .ok (.getfield 20, 3) := by decide +kernel
theorem dX9_crush_22 : decode cX9_crush 22 = .ok (.getfield 169, 3) := by decide +kernel
theorem dX9_crush_25 : decode cX9_crush 25 = .ok (.if_icmp .gt 19, 3) := by decide +kernel
theorem dX9_crush_28 : decode cX9_crush 28 = .ok (.iload_n 1, 1) := by decide +kernel
theorem dX9_crush_29 : decode cX9_crush 29 = .ok (.aload_n 0, 1) := by decide +kernel
theorem dX9_crush_30 : decode cX9_crush 30 = .ok (.iload_n 2, 1) := by decide +kernel
theorem dX9_crush_31 : decode cX9_crush 31 = .ok (.invokevirtual 188, 3) := by decide +kernel
theorem dX9_crush_34 : decode cX9_crush 34 = .ok (.invokestatic 191, 3) := by decide +kernel
theorem dX9_crush_37 : decode cX9_crush 37 = .ok (.istore_n 1, 1) := by decide +kernel
theorem dX9_crush_38 : decode cX9_crush 38 = .ok (.iinc 2 1, 3) := by decide +kernel
theorem dX9_crush_41 : decode cX9_crush 41 = .ok (.goto (-24), 3) := by decide +kernel
theorem dX9_crush_44 : decode cX9_crush 44 = .ok (.iload_n 1, 1) := by decide +kernel
theorem dX9_crush_45 : decode cX9_crush 45 = .ok (.ireturn, 1) := by decide +kernel
theorem dX9_crushed_0 : decode cX9_crushed 0 = .ok (.aload_n 0, 1) := by decide +kernel
theorem dX9_crushed_1 : decode cX9_crushed 1 = .ok (.invokevirtual 196, 3) := by decide +kernel
theorem dX9_crushed_4 : decode cX9_crushed 4 = .ok (.istore_n 1, 1) := by decide +kernel
theorem dX9_crushed_5 : decode cX9_crushed 5 = .ok (.iload_n 1, 1) := by decide +kernel
theorem dX9_crushed_6 : decode cX9_crushed 6 = .ok (.ifCond .ge 6, 3) := by decide +kernel
theorem dX9_crushed_9 : decode cX9_crushed 9 = .ok (.bipush (-2), 2) := by decide +kernel
theorem dX9_crushed_11 : decode cX9_crushed 11 = .ok (.ireturn, 1) := by decide +kernel
theorem dX9_crushed_12 : decode cX9_crushed 12 = .ok (.iconst 0, 1) := by decide +kernel
theorem dX9_crushed_13 : decode cX9_crushed 13 = .ok (.istore_n 2, 1) := by decide +kernel
theorem dX9_crushed_14 : decode cX9_crushed 14 = .ok (.iload_n 2, 1) := by decide +kernel
theorem dX9_crushed_15 : decode cX9_crushed 15 = .ok (.aload_n 0, 1) := by decide +kernel
theorem dX9_crushed_16 : decode cX9_crushed 16 = .ok (.getfield 20, 3) := by decide +kernel
theorem dX9_crushed_19 : decode cX9_crushed 19 = .ok (.getfield 169, 3) := by decide +kernel
theorem dX9_crushed_22 : decode cX9_crushed 22 = .ok (.if_icmp .gt 20, 3) := by decide +kernel
theorem dX9_crushed_25 : decode cX9_crushed 25 = .ok (.aload_n 0, 1) := by decide +kernel
theorem dX9_crushed_26 : decode cX9_crushed 26 = .ok (.iload_n 2, 1) := by decide +kernel
theorem dX9_crushed_27 : decode cX9_crushed 27 = .ok (.invokevirtual 188, 3) := by decide +kernel
theorem dX9_crushed_30 : decode cX9_crushed 30 = .ok (.iload_n 1, 1) := by decide +kernel
theorem dX9_crushed_31 : decode cX9_crushed 31 = .ok (.if_icmp .ne 5, 3) := by decide +kernel
theorem dX9_crushed_34 : decode cX9_crushed 34 = .ok (.iload_n 2, 1) := by decide +kernel
theorem dX9_crushed_35 : decode cX9_crushed 35 = .ok (.ireturn, 1) := by decide +kernel
theorem dX9_crushed_36 : decode cX9_crushed 36 = .ok (.iinc 2 1, 3) := by decide +kernel
theorem dX9_crushed_39 : decode cX9_crushed 39 = .ok (.goto (-25), 3) := by decide +kernel
theorem dX9_crushed_42 : decode cX9_crushed 42 = .ok (.bipush (-2), 2) := by decide +kernel
theorem dX9_crushed_44 : decode cX9_crushed 44 = .ok (.ireturn, 1) := by decide +kernel
theorem dX9_fullest_0 : decode cX9_fullest 0 = .ok (.iconst 0, 1) := by decide +kernel
theorem dX9_fullest_1 : decode cX9_fullest 1 = .ok (.istore_n 2, 1) := by decide +kernel
theorem dX9_fullest_2 : decode cX9_fullest 2 = .ok (.iconst 0, 1) := by decide +kernel
theorem dX9_fullest_3 : decode cX9_fullest 3 = .ok (.istore_n 3, 1) := by decide +kernel
theorem dX9_fullest_4 : decode cX9_fullest 4 = .ok (.iload_n 3, 1) := by decide +kernel
theorem dX9_fullest_5 : decode cX9_fullest 5 = .ok (.aload_n 0, 1) := by decide +kernel
theorem dX9_fullest_6 : decode cX9_fullest 6 = .ok (.getfield 20, 3) := by decide +kernel
theorem dX9_fullest_9 : decode cX9_fullest 9 = .ok (.getfield 133, 3) := by decide +kernel
theorem dX9_fullest_12 : decode cX9_fullest 12 = .ok (.getfield 200, 3) := by decide +kernel
theorem dX9_fullest_15 : decode cX9_fullest 15 = .ok (.if_icmp .ge 26, 3) := by decide +kernel
theorem dX9_fullest_18 : decode cX9_fullest 18 = .ok (.iload_n 2, 1) := by decide +kernel
theorem dX9_fullest_19 : decode cX9_fullest 19 = .ok (.aload_n 0, 1) := by decide +kernel
theorem dX9_fullest_20 : decode cX9_fullest 20 = .ok (.getfield 54, 3) := by decide +kernel
theorem dX9_fullest_23 : decode cX9_fullest 23 = .ok (.iload_n 3, 1) := by decide +kernel
theorem dX9_fullest_24 : decode cX9_fullest 24 = .ok (.iload_n 1, 1) := by decide +kernel
theorem dX9_fullest_25 : decode cX9_fullest 25 = .ok (.invokevirtual 172, 3) := by decide +kernel
theorem dX9_fullest_28 : decode cX9_fullest 28 = .ok (.invokestatic 203, 3) := by decide +kernel
theorem dX9_fullest_31 : decode cX9_fullest 31 = .ok (.invokestatic 191, 3) := by decide +kernel
theorem dX9_fullest_34 : decode cX9_fullest 34 = .ok (.istore_n 2, 1) := by decide +kernel
theorem dX9_fullest_35 : decode cX9_fullest 35 = .ok (.iinc 3 1, 3) := by decide +kernel
theorem dX9_fullest_38 : decode cX9_fullest 38 = .ok (.goto (-34), 3) := by decide +kernel
theorem dX9_fullest_41 : decode cX9_fullest 41 = .ok (.iload_n 2, 1) := by decide +kernel
theorem dX9_fullest_42 : decode cX9_fullest 42 = .ok (.ireturn, 1) := by decide +kernel
theorem dX9_likes_0 : decode cX9_likes 0 = .ok (.aload_n 0, 1) := by decide +kernel
theorem dX9_likes_1 : decode cX9_likes 1 = .ok (.getfield 20, 3) := by decide +kernel
theorem dX9_likes_4 : decode cX9_likes 4 = .ok (.iload_n 1, 1) := by decide +kernel
theorem dX9_likes_5 : decode cX9_likes 5 = .ok (.invokevirtual 139, 3) := by decide +kernel
theorem dX9_likes_8 : decode cX9_likes 8 = .ok (.ifCond .ne 6, 3) := by decide +kernel
theorem dX9_likes_11 : decode cX9_likes 11 = .ok (.bipush (-2), 2) := by decide +kernel
theorem dX9_likes_13 : decode cX9_likes 13 = .ok (.ireturn, 1) := by decide +kernel
theorem dX9_likes_14 : decode cX9_likes 14 = .ok (.iconst 0, 1) := by decide +kernel
theorem dX9_likes_15 : decode cX9_likes 15 = .ok (.istore_n 2, 1) := by decide +kernel
theorem dX9_likes_16 : decode cX9_likes 16 = .ok (.iconst 0, 1) := by decide +kernel
theorem dX9_likes_17 : decode cX9_likes 17 = .ok (.istore_n 3, 1) := by decide +kernel
theorem dX9_likes_18 : decode cX9_likes 18 = .ok (.iconst 0, 1) := by decide +kernel
theorem dX9_likes_19 : decode cX9_likes 19 = .ok (.istore 4, 2) := by decide +kernel
theorem dX9_likes_21 : decode cX9_likes 21 = .ok (.iload 4, 2) := by decide +kernel
theorem dX9_likes_23 : decode cX9_likes 23 = .ok (.aload_n 0, 1) := by decide +kernel
theorem dX9_likes_24 : decode cX9_likes 24 = .ok (.getfield 20, 3) := by decide +kernel
theorem dX9_likes_27 : decode cX9_likes 27 = .ok (.getfield 208, 3) := by decide +kernel
theorem dX9_likes_30 : decode cX9_likes 30 = .ok (.if_icmp .ge 33, 3) := by decide +kernel
theorem dX9_likes_33 : decode cX9_likes 33 = .ok (.aload_n 0, 1) := by decide +kernel
theorem dX9_likes_34 : decode cX9_likes 34 = .ok (.getfield 54, 3) := by decide +kernel
theorem dX9_likes_37 : decode cX9_likes 37 = .ok (.iload_n 1, 1) := by decide +kernel
theorem dX9_likes_38 : decode cX9_likes 38 = .ok (.iload 4, 2) := by decide +kernel
theorem dX9_likes_40 : decode cX9_likes 40 = .ok (.invokevirtual 211, 3) := by decide +kernel
theorem dX9_likes_43 : decode cX9_likes 43 = .ok (.istore 5, 2) := by decide +kernel
theorem dX9_likes_45 : decode cX9_likes 45 = .ok (.iload 5, 2) := by decide +kernel
theorem dX9_likes_47 : decode cX9_likes 47 = .ok (.iload_n 3, 1) := by decide +kernel
theorem dX9_likes_48 : decode cX9_likes 48 = .ok (.if_icmp .le 9, 3) := by decide +kernel
theorem dX9_likes_51 : decode cX9_likes 51 = .ok (.iload 5, 2) := by decide +kernel
theorem dX9_likes_53 : decode cX9_likes 53 = .ok (.istore_n 3, 1) := by decide +kernel
theorem dX9_likes_54 : decode cX9_likes 54 = .ok (.iload 4, 2) := by decide +kernel
theorem dX9_likes_56 : decode cX9_likes 56 = .ok (.istore_n 2, 1) := by decide +kernel
theorem dX9_likes_57 : decode cX9_likes 57 = .ok (.iinc 4 1, 3) := by decide +kernel
theorem dX9_likes_60 : decode cX9_likes 60 = .ok (.goto (-39), 3) := by decide +kernel
theorem dX9_likes_63 : decode cX9_likes 63 = .ok (.iload_n 2, 1) := by decide +kernel
theorem dX9_likes_64 : decode cX9_likes 64 = .ok (.ireturn, 1) := by decide +kernel
theorem dX9_apart_0 : decode cX9_apart 0 = .ok (.aload_n 0, 1) := by decide +kernel
theorem dX9_apart_1 : decode cX9_apart 1 = .ok (.getfield 20, 3) := by decide +kernel
theorem dX9_apart_4 : decode cX9_apart 4 = .ok (.iload_n 1, 1) := by decide +kernel
theorem dX9_apart_5 : decode cX9_apart 5 = .ok (.invokevirtual 139, 3) := by decide +kernel
theorem dX9_apart_8 : decode cX9_apart 8 = .ok (.ifCond .eq 25, 3) := by decide +kernel
theorem dX9_apart_11 : decode cX9_apart 11 = .ok (.aload_n 0, 1) := by decide +kernel
theorem dX9_apart_12 : decode cX9_apart 12 = .ok (.getfield 20, 3) := by decide +kernel
theorem dX9_apart_15 : decode cX9_apart 15 = .ok (.iload_n 2, 1) := by decide +kernel
theorem dX9_apart_16 : decode cX9_apart 16 = .ok (.invokevirtual 139, 3) := by decide +kernel
theorem dX9_apart_19 : decode cX9_apart 19 = .ok (.ifCond .eq 14, 3) := by decide +kernel
theorem dX9_apart_22 : decode cX9_apart 22 = .ok (.aload_n 0, 1) := by decide +kernel
theorem dX9_apart_23 : decode cX9_apart 23 = .ok (.getfield 20, 3) := by decide +kernel
theorem dX9_apart_26 : decode cX9_apart 26 = .ok (.iload_n 3, 1) := by decide +kernel
theorem dX9_apart_27 : decode cX9_apart 27 = .ok (.invokevirtual 153, 3) := by decide +kernel
theorem dX9_apart_30 : decode cX9_apart 30 = .ok (.ifCond .ne 6, 3) := by decide +kernel
theorem dX9_apart_33 : decode cX9_apart 33 = .ok (.bipush (-2), 2) := by decide +kernel
theorem dX9_apart_35 : decode cX9_apart 35 = .ok (.ireturn, 1) := by decide +kernel
theorem dX9_apart_36 : decode cX9_apart 36 = .ok (.aload_n 0, 1) := by decide +kernel
theorem dX9_apart_37 : decode cX9_apart 37 = .ok (.getfield 54, 3) := by decide +kernel
theorem dX9_apart_40 : decode cX9_apart 40 = .ok (.iload_n 1, 1) := by decide +kernel
theorem dX9_apart_41 : decode cX9_apart 41 = .ok (.aload_n 0, 1) := by decide +kernel
theorem dX9_apart_42 : decode cX9_apart 42 = .ok (.getfield 54, 3) := by decide +kernel
theorem dX9_apart_45 : decode cX9_apart 45 = .ok (.iload_n 1, 1) := by decide +kernel
theorem dX9_apart_46 : decode cX9_apart 46 = .ok (.iload_n 3, 1) := by decide +kernel
theorem dX9_apart_47 : decode cX9_apart 47 = .ok (.invokevirtual 159, 3) := by decide +kernel
theorem dX9_apart_50 : decode cX9_apart 50 = .ok (.aload_n 0, 1) := by decide +kernel
theorem dX9_apart_51 : decode cX9_apart 51 = .ok (.getfield 54, 3) := by decide +kernel
theorem dX9_apart_54 : decode cX9_apart 54 = .ok (.iload_n 2, 1) := by decide +kernel
theorem dX9_apart_55 : decode cX9_apart 55 = .ok (.iload_n 3, 1) := by decide +kernel
theorem dX9_apart_56 : decode cX9_apart 56 = .ok (.invokevirtual 159, 3) := by decide +kernel
theorem dX9_apart_59 : decode cX9_apart 59 = .ok (.invokevirtual 146, 3) := by decide +kernel
theorem dX9_apart_62 : decode cX9_apart 62 = .ok (.ireturn, 1) := by decide +kernel
theorem dX9_alone_0 : decode cX9_alone 0 = .ok (.aload_n 0, 1) := by decide +kernel
theorem dX9_alone_1 : decode cX9_alone 1 = .ok (.getfield 20, 3) := by decide +kernel
theorem dX9_alone_4 : decode cX9_alone 4 = .ok (.iload_n 1, 1) := by decide +kernel
theorem dX9_alone_5 : decode cX9_alone 5 = .ok (.invokevirtual 153, 3) := by decide +kernel
theorem dX9_alone_8 : decode cX9_alone 8 = .ok (.ifCond .ne 6, 3) := by decide +kernel
theorem dX9_alone_11 : decode cX9_alone 11 = .ok (.bipush (-2), 2) := by decide +kernel
theorem dX9_alone_13 : decode cX9_alone 13 = .ok (.ireturn, 1) := by decide +kernel
theorem dX9_alone_14 : decode cX9_alone 14 = .ok (.iconst 0, 1) := by decide +kernel
theorem dX9_alone_15 : decode cX9_alone 15 = .ok (.istore_n 2, 1) := by decide +kernel
theorem dX9_alone_16 : decode cX9_alone 16 = .ok (.iconst 0, 1) := by decide +kernel
theorem dX9_alone_17 : decode cX9_alone 17 = .ok (.istore_n 3, 1) := by decide +kernel
theorem dX9_alone_18 : decode cX9_alone 18 = .ok (.iload_n 3, 1) := by decide +kernel
theorem dX9_alone_19 : decode cX9_alone 19 = .ok (.aload_n 0, 1) := by decide +kernel
theorem dX9_alone_20 : decode cX9_alone 20 = .ok (.getfield 20, 3) := by decide +kernel
theorem dX9_alone_23 : decode cX9_alone 23 = .ok (.getfield 133, 3) := by decide +kernel
theorem dX9_alone_26 : decode cX9_alone 26 = .ok (.getfield 200, 3) := by decide +kernel
theorem dX9_alone_29 : decode cX9_alone 29 = .ok (.if_icmp .ge 30, 3) := by decide +kernel
theorem dX9_alone_32 : decode cX9_alone 32 = .ok (.aload_n 0, 1) := by decide +kernel
theorem dX9_alone_33 : decode cX9_alone 33 = .ok (.getfield 54, 3) := by decide +kernel
theorem dX9_alone_36 : decode cX9_alone 36 = .ok (.iload_n 3, 1) := by decide +kernel
theorem dX9_alone_37 : decode cX9_alone 37 = .ok (.iload_n 1, 1) := by decide +kernel
theorem dX9_alone_38 : decode cX9_alone 38 = .ok (.invokevirtual 172, 3) := by decide +kernel
theorem dX9_alone_41 : decode cX9_alone 41 = .ok (.iconst 1, 1) := by decide +kernel
theorem dX9_alone_42 : decode cX9_alone 42 = .ok (.iload_n 3, 1) := by decide +kernel
theorem dX9_alone_43 : decode cX9_alone 43 = .ok (.ishl, 1) := by decide +kernel
theorem dX9_alone_44 : decode cX9_alone 44 = .ok (.if_icmp .ne 9, 3) := by decide +kernel
theorem dX9_alone_47 : decode cX9_alone 47 = .ok (.iload_n 2, 1) := by decide +kernel
theorem dX9_alone_48 : decode cX9_alone 48 = .ok (.iconst 1, 1) := by decide +kernel
theorem dX9_alone_49 : decode cX9_alone 49 = .ok (.iload_n 3, 1) := by decide +kernel
theorem dX9_alone_50 : decode cX9_alone 50 = .ok (.ishl, 1) := by decide +kernel
theorem dX9_alone_51 : decode cX9_alone 51 = .ok (.ior, 1) := by decide +kernel
theorem dX9_alone_52 : decode cX9_alone 52 = .ok (.istore_n 2, 1) := by decide +kernel
theorem dX9_alone_53 : decode cX9_alone 53 = .ok (.iinc 3 1, 3) := by decide +kernel
theorem dX9_alone_56 : decode cX9_alone 56 = .ok (.goto (-38), 3) := by decide +kernel
theorem dX9_alone_59 : decode cX9_alone 59 = .ok (.iload_n 2, 1) := by decide +kernel
theorem dX9_alone_60 : decode cX9_alone 60 = .ok (.ireturn, 1) := by decide +kernel
theorem dX9_empty_0 : decode cX9_empty 0 = .ok (.aload_n 0, 1) := by decide +kernel
theorem dX9_empty_1 : decode cX9_empty 1 = .ok (.getfield 20, 3) := by decide +kernel
theorem dX9_empty_4 : decode cX9_empty 4 = .ok (.iload_n 1, 1) := by decide +kernel
theorem dX9_empty_5 : decode cX9_empty 5 = .ok (.invokevirtual 153, 3) := by decide +kernel
theorem dX9_empty_8 : decode cX9_empty 8 = .ok (.ifCond .ne 6, 3) := by decide +kernel
theorem dX9_empty_11 : decode cX9_empty 11 = .ok (.bipush (-2), 2) := by decide +kernel
theorem dX9_empty_13 : decode cX9_empty 13 = .ok (.ireturn, 1) := by decide +kernel
theorem dX9_empty_14 : decode cX9_empty 14 = .ok (.iconst 0, 1) := by decide +kernel
theorem dX9_empty_15 : decode cX9_empty 15 = .ok (.istore_n 2, 1) := by decide +kernel
theorem dX9_empty_16 : decode cX9_empty 16 = .ok (.iconst 0, 1) := by decide +kernel
theorem dX9_empty_17 : decode cX9_empty 17 = .ok (.istore_n 3, 1) := by decide +kernel
theorem dX9_empty_18 : decode cX9_empty 18 = .ok (.iload_n 3, 1) := by decide +kernel
theorem dX9_empty_19 : decode cX9_empty 19 = .ok (.aload_n 0, 1) := by decide +kernel
theorem dX9_empty_20 : decode cX9_empty 20 = .ok (.getfield 20, 3) := by decide +kernel
theorem dX9_empty_23 : decode cX9_empty 23 = .ok (.getfield 208, 3) := by decide +kernel
theorem dX9_empty_26 : decode cX9_empty 26 = .ok (.if_icmp .ge 27, 3) := by decide +kernel
theorem dX9_empty_29 : decode cX9_empty 29 = .ok (.aload_n 0, 1) := by decide +kernel
theorem dX9_empty_30 : decode cX9_empty 30 = .ok (.getfield 54, 3) := by decide +kernel
theorem dX9_empty_33 : decode cX9_empty 33 = .ok (.iload_n 3, 1) := by decide +kernel
theorem dX9_empty_34 : decode cX9_empty 34 = .ok (.iload_n 1, 1) := by decide +kernel
theorem dX9_empty_35 : decode cX9_empty 35 = .ok (.invokevirtual 162, 3) := by decide +kernel
theorem dX9_empty_38 : decode cX9_empty 38 = .ok (.ifCond .ne 9, 3) := by decide +kernel
theorem dX9_empty_41 : decode cX9_empty 41 = .ok (.iload_n 2, 1) := by decide +kernel
theorem dX9_empty_42 : decode cX9_empty 42 = .ok (.iconst 1, 1) := by decide +kernel
theorem dX9_empty_43 : decode cX9_empty 43 = .ok (.iload_n 3, 1) := by decide +kernel
theorem dX9_empty_44 : decode cX9_empty 44 = .ok (.ishl, 1) := by decide +kernel
theorem dX9_empty_45 : decode cX9_empty 45 = .ok (.ior, 1) := by decide +kernel
theorem dX9_empty_46 : decode cX9_empty 46 = .ok (.istore_n 2, 1) := by decide +kernel
theorem dX9_empty_47 : decode cX9_empty 47 = .ok (.iinc 3 1, 3) := by decide +kernel
theorem dX9_empty_50 : decode cX9_empty 50 = .ok (.goto (-32), 3) := by decide +kernel
theorem dX9_empty_53 : decode cX9_empty 53 = .ok (.iload_n 2, 1) := by decide +kernel
theorem dX9_empty_54 : decode cX9_empty 54 = .ok (.ireturn, 1) := by decide +kernel
theorem dX9_late_0 : decode cX9_late 0 = .ok (.aload_n 0, 1) := by decide +kernel
theorem dX9_late_1 : decode cX9_late 1 = .ok (.getfield 20, 3) := by decide +kernel
theorem dX9_late_4 : decode cX9_late 4 = .ok (.iload_n 1, 1) := by decide +kernel
theorem dX9_late_5 : decode cX9_late 5 = .ok (.invokevirtual 139, 3) := by decide +kernel
theorem dX9_late_8 : decode cX9_late 8 = .ok (.ifCond .ne 6, 3) := by decide +kernel
theorem dX9_late_11 : decode cX9_late 11 = .ok (.bipush (-2), 2) := by decide +kernel
theorem dX9_late_13 : decode cX9_late 13 = .ok (.ireturn, 1) := by decide +kernel
theorem dX9_late_14 : decode cX9_late 14 = .ok (.aload_n 0, 1) := by decide +kernel
theorem dX9_late_15 : decode cX9_late 15 = .ok (.getfield 20, 3) := by decide +kernel
theorem dX9_late_18 : decode cX9_late 18 = .ok (.getfield 169, 3) := by decide +kernel
theorem dX9_late_21 : decode cX9_late 21 = .ok (.istore_n 2, 1) := by decide +kernel
theorem dX9_late_22 : decode cX9_late 22 = .ok (.iload_n 2, 1) := by decide +kernel
theorem dX9_late_23 : decode cX9_late 23 = .ok (.ifCond .le 34, 3) := by decide +kernel
theorem dX9_late_26 : decode cX9_late 26 = .ok (.aload_n 0, 1) := by decide +kernel
theorem dX9_late_27 : decode cX9_late 27 = .ok (.getfield 54, 3) := by decide +kernel
theorem dX9_late_30 : decode cX9_late 30 = .ok (.iload_n 1, 1) := by decide +kernel
theorem dX9_late_31 : decode cX9_late 31 = .ok (.iload_n 2, 1) := by decide +kernel
theorem dX9_late_32 : decode cX9_late 32 = .ok (.invokevirtual 159, 3) := by decide +kernel
theorem dX9_late_35 : decode cX9_late 35 = .ok (.aload_n 0, 1) := by decide +kernel
theorem dX9_late_36 : decode cX9_late 36 = .ok (.getfield 54, 3) := by decide +kernel
theorem dX9_late_39 : decode cX9_late 39 = .ok (.iload_n 1, 1) := by decide +kernel
theorem dX9_late_40 : decode cX9_late 40 = .ok (.iload_n 2, 1) := by decide +kernel
theorem dX9_late_41 : decode cX9_late 41 = .ok (.iconst 1, 1) := by decide +kernel
theorem dX9_late_42 : decode cX9_late 42 = .ok (.isub, 1) := by decide +kernel
theorem dX9_late_43 : decode cX9_late 43 = .ok (.invokevirtual 159, 3) := by decide +kernel
theorem dX9_late_46 : decode cX9_late 46 = .ok (.if_icmp .eq 5, 3) := by decide +kernel
theorem dX9_late_49 : decode cX9_late 49 = .ok (.iload_n 2, 1) := by decide +kernel
theorem dX9_late_50 : decode cX9_late 50 = .ok (.ireturn, 1) := by decide +kernel
theorem dX9_late_51 : decode cX9_late 51 = .ok (.iinc 2 (-1), 3) := by decide +kernel
theorem dX9_late_54 : decode cX9_late 54 = .ok (.goto (-32), 3) := by decide +kernel
theorem dX9_late_57 : decode cX9_late 57 = .ok (.iconst (-1), 1) := by decide +kernel
theorem dX9_late_58 : decode cX9_late 58 = .ok (.ireturn, 1) := by decide +kernel
theorem dX9_waits_0 : decode cX9_waits 0 = .ok (.aload_n 0, 1) := by decide +kernel
theorem dX9_waits_1 : decode cX9_waits 1 = .ok (.getfield 20, 3) := by decide +kernel
theorem dX9_waits_4 : decode cX9_waits 4 = .ok (.iload_n 1, 1) := by decide +kernel
theorem dX9_waits_5 : decode cX9_waits 5 = .ok (.invokevirtual 139, 3) := by decide +kernel
theorem dX9_waits_8 : decode cX9_waits 8 = .ok (.ifCond .ne 6, 3) := by decide +kernel
theorem dX9_waits_11 : decode cX9_waits 11 = .ok (.bipush (-2), 2) := by decide +kernel
theorem dX9_waits_13 : decode cX9_waits 13 = .ok (.ireturn, 1) := by decide +kernel
theorem dX9_waits_14 : decode cX9_waits 14 = .ok (.iconst 0, 1) := by decide +kernel
theorem dX9_waits_15 : decode cX9_waits 15 = .ok (.istore_n 2, 1) := by decide +kernel
theorem dX9_waits_16 : decode cX9_waits 16 = .ok (.iconst 0, 1) := by decide +kernel
theorem dX9_waits_17 : decode cX9_waits 17 = .ok (.istore_n 3, 1) := by decide +kernel
theorem dX9_waits_18 : decode cX9_waits 18 = .ok (.iload_n 3, 1) := by decide +kernel
theorem dX9_waits_19 : decode cX9_waits 19 = .ok (.aload_n 0, 1) := by decide +kernel
theorem dX9_waits_20 : decode cX9_waits 20 = .ok (.getfield 20, 3) := by decide +kernel
theorem dX9_waits_23 : decode cX9_waits 23 = .ok (.getfield 169, 3) := by decide +kernel
theorem dX9_waits_26 : decode cX9_waits 26 = .ok (.if_icmp .ge 63, 3) := by decide +kernel
theorem dX9_waits_29 : decode cX9_waits 29 = .ok (.aload_n 0, 1) := by decide +kernel
theorem dX9_waits_30 : decode cX9_waits 30 = .ok (.getfield 54, 3) := by decide +kernel
theorem dX9_waits_33 : decode cX9_waits 33 = .ok (.iload_n 1, 1) := by decide +kernel
theorem dX9_waits_34 : decode cX9_waits 34 = .ok (.iload_n 3, 1) := by decide +kernel
theorem dX9_waits_35 : decode cX9_waits 35 = .ok (.invokevirtual 159, 3) := by decide +kernel
theorem dX9_waits_38 : decode cX9_waits 38 = .ok (.istore 4, 2) := by decide +kernel
theorem dX9_waits_40 : decode cX9_waits 40 = .ok (.aload_n 0, 1) := by decide +kernel
theorem dX9_waits_41 : decode cX9_waits 41 = .ok (.getfield 54, 3) := by decide +kernel
theorem dX9_waits_44 : decode cX9_waits 44 = .ok (.iload_n 1, 1) := by decide +kernel
theorem dX9_waits_45 : decode cX9_waits 45 = .ok (.iload_n 3, 1) := by decide +kernel
theorem dX9_waits_46 : decode cX9_waits 46 = .ok (.invokevirtual 156, 3) := by decide +kernel
theorem dX9_waits_49 : decode cX9_waits 49 = .ok (.istore 5, 2) := by decide +kernel
theorem dX9_waits_51 : decode cX9_waits 51 = .ok (.iload 5, 2) := by decide +kernel
theorem dX9_waits_53 : decode cX9_waits 53 = .ok (.iconst (-1), 1) := by decide +kernel
theorem dX9_waits_54 : decode cX9_waits 54 = .ok (.if_icmp .eq 29, 3) := by decide +kernel
theorem dX9_waits_57 : decode cX9_waits 57 = .ok (.iload 5, 2) := by decide +kernel
theorem dX9_waits_59 : decode cX9_waits 59 = .ok (.iload 4, 2) := by decide +kernel
theorem dX9_waits_61 : decode cX9_waits 61 = .ok (.if_icmp .eq 22, 3) := by decide +kernel
theorem dX9_waits_64 : decode cX9_waits 64 = .ok (.aload_n 0, 1) := by decide +kernel
theorem dX9_waits_65 : decode cX9_waits 65 = .ok (.getfield 54, 3) := by decide +kernel
theorem dX9_waits_68 : decode cX9_waits 68 = .ok (.iload_n 1, 1) := by decide +kernel
theorem dX9_waits_69 : decode cX9_waits 69 = .ok (.iload_n 3, 1) := by decide +kernel
theorem dX9_waits_70 : decode cX9_waits 70 = .ok (.iconst 1, 1) := by decide +kernel
theorem dX9_waits_71 : decode cX9_waits 71 = .ok (.iadd, 1) := by decide +kernel
theorem dX9_waits_72 : decode cX9_waits 72 = .ok (.invokevirtual 159, 3) := by decide +kernel
theorem dX9_waits_75 : decode cX9_waits 75 = .ok (.iload 4, 2) := by decide +kernel
theorem dX9_waits_77 : decode cX9_waits 77 = .ok (.if_icmp .ne 6, 3) := by decide +kernel
theorem dX9_waits_80 : decode cX9_waits 80 = .ok (.iinc 2 1, 3) := by decide +kernel
theorem dX9_waits_83 : decode cX9_waits 83 = .ok (.iinc 3 1, 3) := by decide +kernel
theorem dX9_waits_86 : decode cX9_waits 86 = .ok (.goto (-68), 3) := by decide +kernel
theorem dX9_waits_89 : decode cX9_waits 89 = .ok (.iload_n 2, 1) := by decide +kernel
theorem dX9_waits_90 : decode cX9_waits 90 = .ok (.ireturn, 1) := by decide +kernel
theorem dX9_mate_0 : decode cX9_mate 0 = .ok (.aload_n 0, 1) := by decide +kernel
theorem dX9_mate_1 : decode cX9_mate 1 = .ok (.getfield 20, 3) := by decide +kernel
theorem dX9_mate_4 : decode cX9_mate 4 = .ok (.iload_n 1, 1) := by decide +kernel
theorem dX9_mate_5 : decode cX9_mate 5 = .ok (.invokevirtual 139, 3) := by decide +kernel
theorem dX9_mate_8 : decode cX9_mate 8 = .ok (.ifCond .ne 6, 3) := by decide +kernel
theorem dX9_mate_11 : decode cX9_mate 11 = .ok (.bipush (-2), 2) := by decide +kernel
theorem dX9_mate_13 : decode cX9_mate 13 = .ok (.ireturn, 1) := by decide +kernel
theorem dX9_mate_14 : decode cX9_mate 14 = .ok (.iconst (-1), 1) := by decide +kernel
theorem dX9_mate_15 : decode cX9_mate 15 = .ok (.istore_n 2, 1) := by decide +kernel
theorem dX9_mate_16 : decode cX9_mate 16 = .ok (.iconst 0, 1) := by decide +kernel
theorem dX9_mate_17 : decode cX9_mate 17 = .ok (.istore_n 3, 1) := by decide +kernel
theorem dX9_mate_18 : decode cX9_mate 18 = .ok (.iconst 0, 1) := by decide +kernel
theorem dX9_mate_19 : decode cX9_mate 19 = .ok (.istore 4, 2) := by decide +kernel
theorem dX9_mate_21 : decode cX9_mate 21 = .ok (.iload 4, 2) := by decide +kernel
theorem dX9_mate_23 : decode cX9_mate 23 = .ok (.aload_n 0, 1) := by decide +kernel
theorem dX9_mate_24 : decode cX9_mate 24 = .ok (.getfield 20, 3) := by decide +kernel
theorem dX9_mate_27 : decode cX9_mate 27 = .ok (.getfield 133, 3) := by decide +kernel
theorem dX9_mate_30 : decode cX9_mate 30 = .ok (.getfield 200, 3) := by decide +kernel
theorem dX9_mate_33 : decode cX9_mate 33 = .ok (.if_icmp .ge 43, 3) := by decide +kernel
theorem dX9_mate_36 : decode cX9_mate 36 = .ok (.iload 4, 2) := by decide +kernel
theorem dX9_mate_38 : decode cX9_mate 38 = .ok (.iload_n 1, 1) := by decide +kernel
theorem dX9_mate_39 : decode cX9_mate 39 = .ok (.if_icmp .ne 7, 3) := by decide +kernel
theorem dX9_mate_42 : decode cX9_mate 42 = .ok (.iconst 0, 1) := by decide +kernel
theorem dX9_mate_43 : decode cX9_mate 43 = .ok (.goto 13, 3) := by decide +kernel
theorem dX9_mate_46 : decode cX9_mate 46 = .ok (.aload_n 0, 1) := by decide +kernel
theorem dX9_mate_47 : decode cX9_mate 47 = .ok (.getfield 54, 3) := by decide +kernel
theorem dX9_mate_50 : decode cX9_mate 50 = .ok (.iload_n 1, 1) := by decide +kernel
theorem dX9_mate_51 : decode cX9_mate 51 = .ok (.iload 4, 2) := by decide +kernel
theorem dX9_mate_53 : decode cX9_mate 53 = .ok (.invokevirtual 178, 3) := by decide +kernel
theorem dX9_mate_56 : decode cX9_mate 56 = .ok (.istore 5, 2) := by decide +kernel
theorem dX9_mate_58 : decode cX9_mate 58 = .ok (.iload 5, 2) := by decide +kernel
theorem dX9_mate_60 : decode cX9_mate 60 = .ok (.iload_n 3, 1) := by decide +kernel
theorem dX9_mate_61 : decode cX9_mate 61 = .ok (.if_icmp .le 9, 3) := by decide +kernel
theorem dX9_mate_64 : decode cX9_mate 64 = .ok (.iload 5, 2) := by decide +kernel
theorem dX9_mate_66 : decode cX9_mate 66 = .ok (.istore_n 3, 1) := by decide +kernel
theorem dX9_mate_67 : decode cX9_mate 67 = .ok (.iload 4, 2) := by decide +kernel
theorem dX9_mate_69 : decode cX9_mate 69 = .ok (.istore_n 2, 1) := by decide +kernel
theorem dX9_mate_70 : decode cX9_mate 70 = .ok (.iinc 4 1, 3) := by decide +kernel
theorem dX9_mate_73 : decode cX9_mate 73 = .ok (.goto (-52), 3) := by decide +kernel
theorem dX9_mate_76 : decode cX9_mate 76 = .ok (.iload_n 2, 1) := by decide +kernel
theorem dX9_mate_77 : decode cX9_mate 77 = .ok (.ireturn, 1) := by decide +kernel
theorem dX9_passAsTold_0 : decode cX9_passAsTold 0 = .ok (.aload_n 0, 1) := by decide +kernel
theorem dX9_passAsTold_1 : decode cX9_passAsTold 1 = .ok (.getfield 64, 3) := by decide +kernel
theorem dX9_passAsTold_4 : decode cX9_passAsTold 4 = .ok (.aload_n 0, 1) := by decide +kernel
theorem dX9_passAsTold_5 : decode cX9_passAsTold 5 = .ok (.getfield 20, 3) := by decide +kernel
theorem dX9_passAsTold_8 : decode cX9_passAsTold 8 = .ok (.aload_n 0, 1) := by decide +kernel
theorem dX9_passAsTold_9 : decode cX9_passAsTold 9 = .ok (.getfield 20, 3) := by decide +kernel
theorem dX9_passAsTold_12 : decode cX9_passAsTold 12 = .ok (.getfield 214, 3) := by decide +kernel
theorem dX9_passAsTold_15 : decode cX9_passAsTold 15 = .ok (.iconst (-1), 1) := by decide +kernel
theorem dX9_passAsTold_16 : decode cX9_passAsTold 16 = .ok (.invokevirtual 217, 3) := by decide +kernel
theorem dX9_passAsTold_19 : decode cX9_passAsTold 19 = .ok (.return_, 1) := by decide +kernel
theorem dX9_inTheEnd_0 : decode cX9_inTheEnd 0 = .ok (.aload_n 0, 1) := by decide +kernel
theorem dX9_inTheEnd_1 : decode cX9_inTheEnd 1 = .ok (.getfield 64, 3) := by decide +kernel
theorem dX9_inTheEnd_4 : decode cX9_inTheEnd 4 = .ok (.aload_n 1, 1) := by decide +kernel
theorem dX9_inTheEnd_5 : decode cX9_inTheEnd 5 = .ok (.iload_n 2, 1) := by decide +kernel
theorem dX9_inTheEnd_6 : decode cX9_inTheEnd 6 = .ok (.iconst 0, 1) := by decide +kernel
theorem dX9_inTheEnd_7 : decode cX9_inTheEnd 7 = .ok (.invokevirtual 220, 3) := by decide +kernel
theorem dX9_inTheEnd_10 : decode cX9_inTheEnd 10 = .ok (.aload_n 0, 1) := by decide +kernel
theorem dX9_inTheEnd_11 : decode cX9_inTheEnd 11 = .ok (.getfield 64, 3) := by decide +kernel
theorem dX9_inTheEnd_14 : decode cX9_inTheEnd 14 = .ok (.aload_n 0, 1) := by decide +kernel
theorem dX9_inTheEnd_15 : decode cX9_inTheEnd 15 = .ok (.getfield 20, 3) := by decide +kernel
theorem dX9_inTheEnd_18 : decode cX9_inTheEnd 18 = .ok (.getfield 169, 3) := by decide +kernel
theorem dX9_inTheEnd_21 : decode cX9_inTheEnd 21 = .ok (.invokevirtual 224, 3) := by decide +kernel
theorem dX9_inTheEnd_24 : decode cX9_inTheEnd 24 = .ok (.ireturn, 1) := by decide +kernel
theorem dX9_hears_0 : decode cX9_hears 0 = .ok (.aload_n 0, 1) := by decide +kernel
theorem dX9_hears_1 : decode cX9_hears 1 = .ok (.getfield 20, 3) := by decide +kernel
theorem dX9_hears_4 : decode cX9_hears 4 = .ok (.iload_n 1, 1) := by decide +kernel
theorem dX9_hears_5 : decode cX9_hears 5 = .ok (.invokevirtual 139, 3) := by decide +kernel
theorem dX9_hears_8 : decode cX9_hears 8 = .ok (.ifCond .ne 6, 3) := by decide +kernel
theorem dX9_hears_11 : decode cX9_hears 11 = .ok (.bipush (-2), 2) := by decide +kernel
theorem dX9_hears_13 : decode cX9_hears 13 = .ok (.ireturn, 1) := by decide +kernel
theorem dX9_hears_14 : decode cX9_hears 14 = .ok (.aload_n 0, 1) := by decide +kernel
theorem dX9_hears_15 : decode cX9_hears 15 = .ok (.invokevirtual 227, 3) := by decide +kernel
theorem dX9_hears_18 : decode cX9_hears 18 = .ok (.iconst 0, 1) := by decide +kernel
theorem dX9_hears_19 : decode cX9_hears 19 = .ok (.istore_n 2, 1) := by decide +kernel
theorem dX9_hears_20 : decode cX9_hears 20 = .ok (.iconst 0, 1) := by decide +kernel
theorem dX9_hears_21 : decode cX9_hears 21 = .ok (.istore_n 3, 1) := by decide +kernel
theorem dX9_hears_22 : decode cX9_hears 22 = .ok (.iload_n 3, 1) := by decide +kernel
theorem dX9_hears_23 : decode cX9_hears 23 = .ok (.aload_n 0, 1) := by decide +kernel
theorem dX9_hears_24 : decode cX9_hears 24 = .ok (.getfield 20, 3) := by decide +kernel
theorem dX9_hears_27 : decode cX9_hears 27 = .ok (.getfield 133, 3) := by decide +kernel
theorem dX9_hears_30 : decode cX9_hears 30 = .ok (.getfield 200, 3) := by decide +kernel
theorem dX9_hears_33 : decode cX9_hears 33 = .ok (.if_icmp .ge 31, 3) := by decide +kernel
theorem dX9_hears_36 : decode cX9_hears 36 = .ok (.aload_n 0, 1) := by decide +kernel
theorem dX9_hears_37 : decode cX9_hears 37 = .ok (.aload_n 0, 1) := by decide +kernel
theorem dX9_hears_38 : decode cX9_hears 38 = .ok (.getfield 54, 3) := by decide +kernel
theorem dX9_hears_41 : decode cX9_hears 41 = .ok (.iload_n 3, 1) := by decide +kernel
theorem dX9_hears_42 : decode cX9_hears 42 = .ok (.invokevirtual 230, 3) := by decide +kernel
theorem dX9_hears_45 : decode cX9_hears 45 = .ok (.iload_n 1, 1) := by decide +kernel
theorem dX9_hears_46 : decode cX9_hears 46 = .ok (.invokestatic 175, 3) := by decide +kernel
theorem dX9_hears_49 : decode cX9_hears 49 = .ok (.ifCond .eq 9, 3) := by decide +kernel
theorem dX9_hears_52 : decode cX9_hears 52 = .ok (.iload_n 2, 1) := by decide +kernel
theorem dX9_hears_53 : decode cX9_hears 53 = .ok (.iconst 1, 1) := by decide +kernel
theorem dX9_hears_54 : decode cX9_hears 54 = .ok (.iload_n 3, 1) := by decide +kernel
theorem dX9_hears_55 : decode cX9_hears 55 = .ok (.ishl, 1) := by decide +kernel
theorem dX9_hears_56 : decode cX9_hears 56 = .ok (.ior, 1) := by decide +kernel
theorem dX9_hears_57 : decode cX9_hears 57 = .ok (.istore_n 2, 1) := by decide +kernel
theorem dX9_hears_58 : decode cX9_hears 58 = .ok (.iinc 3 1, 3) := by decide +kernel
theorem dX9_hears_61 : decode cX9_hears 61 = .ok (.goto (-39), 3) := by decide +kernel
theorem dX9_hears_64 : decode cX9_hears 64 = .ok (.iload_n 2, 1) := by decide +kernel
theorem dX9_hears_65 : decode cX9_hears 65 = .ok (.ireturn, 1) := by decide +kernel
theorem dX9_hands_0 : decode cX9_hands 0 = .ok (.aload_n 0, 1) := by decide +kernel
theorem dX9_hands_1 : decode cX9_hands 1 = .ok (.getfield 20, 3) := by decide +kernel
theorem dX9_hands_4 : decode cX9_hands 4 = .ok (.iload_n 1, 1) := by decide +kernel
theorem dX9_hands_5 : decode cX9_hands 5 = .ok (.invokevirtual 139, 3) := by decide +kernel
theorem dX9_hands_8 : decode cX9_hands 8 = .ok (.ifCond .eq 14, 3) := by decide +kernel
theorem dX9_hands_11 : decode cX9_hands 11 = .ok (.aload_n 0, 1) := by decide +kernel
theorem dX9_hands_12 : decode cX9_hands 12 = .ok (.getfield 20, 3) := by decide +kernel
theorem dX9_hands_15 : decode cX9_hands 15 = .ok (.iload_n 2, 1) := by decide +kernel
theorem dX9_hands_16 : decode cX9_hands 16 = .ok (.invokevirtual 139, 3) := by decide +kernel
theorem dX9_hands_19 : decode cX9_hands 19 = .ok (.ifCond .ne 6, 3) := by decide +kernel
theorem dX9_hands_22 : decode cX9_hands 22 = .ok (.bipush (-2), 2) := by decide +kernel
theorem dX9_hands_24 : decode cX9_hands 24 = .ok (.ireturn, 1) := by decide +kernel
theorem dX9_hands_25 : decode cX9_hands 25 = .ok (.aload_n 0, 1) := by decide +kernel
theorem dX9_hands_26 : decode cX9_hands 26 = .ok (.invokevirtual 227, 3) := by decide +kernel
theorem dX9_hands_29 : decode cX9_hands 29 = .ok (.aload_n 0, 1) := by decide +kernel
theorem dX9_hands_30 : decode cX9_hands 30 = .ok (.aload_n 0, 1) := by decide +kernel
theorem dX9_hands_31 : decode cX9_hands 31 = .ok (.getfield 54, 3) := by decide +kernel
theorem dX9_hands_34 : decode cX9_hands 34 = .ok (.iload_n 1, 1) := by decide +kernel
theorem dX9_hands_35 : decode cX9_hands 35 = .ok (.invokevirtual 230, 3) := by decide +kernel
theorem dX9_hands_38 : decode cX9_hands 38 = .ok (.iload_n 2, 1) := by decide +kernel
theorem dX9_hands_39 : decode cX9_hands 39 = .ok (.invokestatic 175, 3) := by decide +kernel
theorem dX9_hands_42 : decode cX9_hands 42 = .ok (.ifCond .ne 5, 3) := by decide +kernel
theorem dX9_hands_45 : decode cX9_hands 45 = .ok (.iconst (-1), 1) := by decide +kernel
theorem dX9_hands_46 : decode cX9_hands 46 = .ok (.ireturn, 1) := by decide +kernel
theorem dX9_hands_47 : decode cX9_hands 47 = .ok (.iload_n 2, 1) := by decide +kernel
theorem dX9_hands_48 : decode cX9_hands 48 = .ok (.istore_n 3, 1) := by decide +kernel
theorem dX9_hands_49 : decode cX9_hands 49 = .ok (.iconst 0, 1) := by decide +kernel
theorem dX9_hands_50 : decode cX9_hands 50 = .ok (.istore 4, 2) := by decide +kernel
theorem dX9_hands_52 : decode cX9_hands 52 = .ok (.iload_n 3, 1) := by decide +kernel
theorem dX9_hands_53 : decode cX9_hands 53 = .ok (.iload_n 1, 1) := by decide +kernel
theorem dX9_hands_54 : decode cX9_hands 54 = .ok (.if_icmp .eq 34, 3) := by decide +kernel
theorem dX9_hands_57 : decode cX9_hands 57 = .ok (.iload_n 3, 1) := by decide +kernel
theorem dX9_hands_58 : decode cX9_hands 58 = .ok (.iconst (-1), 1) := by decide +kernel
theorem dX9_hands_59 : decode cX9_hands 59 = .ok (.if_icmp .eq 29, 3) := by decide +kernel
theorem dX9_hands_62 : decode cX9_hands 62 = .ok (.iload 4, 2) := by decide +kernel
theorem dX9_hands_64 : decode cX9_hands 64 = .ok (.bipush 6, 2) := by decide +kernel
theorem dX9_hands_66 : decode cX9_hands 66 = .ok (.if_icmp .ge 22, 3) := by decide +kernel
theorem dX9_hands_69 : decode cX9_hands 69 = .ok (.aload_n 0, 1) := by decide +kernel
theorem dX9_hands_70 : decode cX9_hands 70 = .ok (.getfield 64, 3) := by decide +kernel
theorem dX9_hands_73 : decode cX9_hands 73 = .ok (.aload_n 0, 1) := by decide +kernel
theorem dX9_hands_74 : decode cX9_hands 74 = .ok (.getfield 54, 3) := by decide +kernel
theorem dX9_hands_77 : decode cX9_hands 77 = .ok (.iload_n 3, 1) := by decide +kernel
theorem dX9_hands_78 : decode cX9_hands 78 = .ok (.invokevirtual 234, 3) := by decide +kernel
theorem dX9_hands_81 : decode cX9_hands 81 = .ok (.istore_n 3, 1) := by decide +kernel
theorem dX9_hands_82 : decode cX9_hands 82 = .ok (.iinc 4 1, 3) := by decide +kernel
theorem dX9_hands_85 : decode cX9_hands 85 = .ok (.goto (-33), 3) := by decide +kernel
theorem dX9_hands_88 : decode cX9_hands 88 = .ok (.iload 4, 2) := by decide +kernel
theorem dX9_hands_90 : decode cX9_hands 90 = .ok (.ireturn, 1) := by decide +kernel
theorem dX9_have_0 : decode cX9_have 0 = .ok (.aload_n 0, 1) := by decide +kernel
theorem dX9_have_1 : decode cX9_have 1 = .ok (.getfield 20, 3) := by decide +kernel
theorem dX9_have_4 : decode cX9_have 4 = .ok (.iload_n 1, 1) := by decide +kernel
theorem dX9_have_5 : decode cX9_have 5 = .ok (.invokevirtual 139, 3) := by decide +kernel
theorem dX9_have_8 : decode cX9_have 8 = .ok (.ifCond .eq 14, 3) := by decide +kernel
theorem dX9_have_11 : decode cX9_have 11 = .ok (.aload_n 0, 1) := by decide +kernel
theorem dX9_have_12 : decode cX9_have 12 = .ok (.getfield 20, 3) := by decide +kernel
theorem dX9_have_15 : decode cX9_have 15 = .ok (.iload_n 2, 1) := by decide +kernel
theorem dX9_have_16 : decode cX9_have 16 = .ok (.invokevirtual 153, 3) := by decide +kernel
theorem dX9_have_19 : decode cX9_have 19 = .ok (.ifCond .ne 6, 3) := by decide +kernel
theorem dX9_have_22 : decode cX9_have 22 = .ok (.bipush (-2), 2) := by decide +kernel
theorem dX9_have_24 : decode cX9_have 24 = .ok (.ireturn, 1) := by decide +kernel
theorem dX9_have_25 : decode cX9_have 25 = .ok (.aload_n 0, 1) := by decide +kernel
theorem dX9_have_26 : decode cX9_have 26 = .ok (.invokevirtual 227, 3) := by decide +kernel
theorem dX9_have_29 : decode cX9_have 29 = .ok (.aload_n 0, 1) := by decide +kernel
theorem dX9_have_30 : decode cX9_have 30 = .ok (.getfield 64, 3) := by decide +kernel
theorem dX9_have_33 : decode cX9_have 33 = .ok (.aload_n 0, 1) := by decide +kernel
theorem dX9_have_34 : decode cX9_have 34 = .ok (.getfield 54, 3) := by decide +kernel
theorem dX9_have_37 : decode cX9_have 37 = .ok (.iload_n 1, 1) := by decide +kernel
theorem dX9_have_38 : decode cX9_have 38 = .ok (.iconst 0, 1) := by decide +kernel
theorem dX9_have_39 : decode cX9_have 39 = .ok (.invokevirtual 220, 3) := by decide +kernel
theorem dX9_have_42 : decode cX9_have 42 = .ok (.aload_n 0, 1) := by decide +kernel
theorem dX9_have_43 : decode cX9_have 43 = .ok (.getfield 64, 3) := by decide +kernel
theorem dX9_have_46 : decode cX9_have 46 = .ok (.iload_n 2, 1) := by decide +kernel
theorem dX9_have_47 : decode cX9_have 47 = .ok (.invokevirtual 224, 3) := by decide +kernel
theorem dX9_have_50 : decode cX9_have 50 = .ok (.ireturn, 1) := by decide +kernel
theorem dX9_gets_0 : decode cX9_gets 0 = .ok (.aload_n 0, 1) := by decide +kernel
theorem dX9_gets_1 : decode cX9_gets 1 = .ok (.getfield 20, 3) := by decide +kernel
theorem dX9_gets_4 : decode cX9_gets 4 = .ok (.iload_n 1, 1) := by decide +kernel
theorem dX9_gets_5 : decode cX9_gets 5 = .ok (.invokevirtual 139, 3) := by decide +kernel
theorem dX9_gets_8 : decode cX9_gets 8 = .ok (.ifCond .eq 14, 3) := by decide +kernel
theorem dX9_gets_11 : decode cX9_gets 11 = .ok (.aload_n 0, 1) := by decide +kernel
theorem dX9_gets_12 : decode cX9_gets 12 = .ok (.getfield 20, 3) := by decide +kernel
theorem dX9_gets_15 : decode cX9_gets 15 = .ok (.iload_n 2, 1) := by decide +kernel
theorem dX9_gets_16 : decode cX9_gets 16 = .ok (.invokevirtual 139, 3) := by decide +kernel
theorem dX9_gets_19 : decode cX9_gets 19 = .ok (.ifCond .ne 6, 3) := by decide +kernel
theorem dX9_gets_22 : decode cX9_gets 22 = .ok (.bipush (-2), 2) := by decide +kernel
theorem dX9_gets_24 : decode cX9_gets 24 = .ok (.ireturn, 1) := by decide +kernel
theorem dX9_gets_25 : decode cX9_gets 25 = .ok (.aload_n 0, 1) := by decide +kernel
theorem dX9_gets_26 : decode cX9_gets 26 = .ok (.invokevirtual 227, 3) := by decide +kernel
theorem dX9_gets_29 : decode cX9_gets 29 = .ok (.aload_n 0, 1) := by decide +kernel
theorem dX9_gets_30 : decode cX9_gets 30 = .ok (.getfield 64, 3) := by decide +kernel
theorem dX9_gets_33 : decode cX9_gets 33 = .ok (.aload_n 0, 1) := by decide +kernel
theorem dX9_gets_34 : decode cX9_gets 34 = .ok (.getfield 54, 3) := by decide +kernel
theorem dX9_gets_37 : decode cX9_gets 37 = .ok (.iload_n 1, 1) := by decide +kernel
theorem dX9_gets_38 : decode cX9_gets 38 = .ok (.iconst 0, 1) := by decide +kernel
theorem dX9_gets_39 : decode cX9_gets 39 = .ok (.invokevirtual 220, 3) := by decide +kernel
theorem dX9_gets_42 : decode cX9_gets 42 = .ok (.aload_n 0, 1) := by decide +kernel
theorem dX9_gets_43 : decode cX9_gets 43 = .ok (.getfield 64, 3) := by decide +kernel
theorem dX9_gets_46 : decode cX9_gets 46 = .ok (.iload_n 2, 1) := by decide +kernel
theorem dX9_gets_47 : decode cX9_gets 47 = .ok (.invokevirtual 237, 3) := by decide +kernel
theorem dX9_gets_50 : decode cX9_gets 50 = .ok (.ireturn, 1) := by decide +kernel
theorem dX9_from_0 : decode cX9_from 0 = .ok (.aload_n 0, 1) := by decide +kernel
theorem dX9_from_1 : decode cX9_from 1 = .ok (.getfield 20, 3) := by decide +kernel
theorem dX9_from_4 : decode cX9_from 4 = .ok (.iload_n 1, 1) := by decide +kernel
theorem dX9_from_5 : decode cX9_from 5 = .ok (.invokevirtual 139, 3) := by decide +kernel
theorem dX9_from_8 : decode cX9_from 8 = .ok (.ifCond .eq 14, 3) := by decide +kernel
theorem dX9_from_11 : decode cX9_from 11 = .ok (.aload_n 0, 1) := by decide +kernel
theorem dX9_from_12 : decode cX9_from 12 = .ok (.getfield 20, 3) := by decide +kernel
theorem dX9_from_15 : decode cX9_from 15 = .ok (.iload_n 2, 1) := by decide +kernel
theorem dX9_from_16 : decode cX9_from 16 = .ok (.invokevirtual 139, 3) := by decide +kernel
theorem dX9_from_19 : decode cX9_from 19 = .ok (.ifCond .ne 6, 3) := by decide +kernel
theorem dX9_from_22 : decode cX9_from 22 = .ok (.bipush (-2), 2) := by decide +kernel
theorem dX9_from_24 : decode cX9_from 24 = .ok (.ireturn, 1) := by decide +kernel
theorem dX9_from_25 : decode cX9_from 25 = .ok (.aload_n 0, 1) := by decide +kernel
theorem dX9_from_26 : decode cX9_from 26 = .ok (.invokevirtual 227, 3) := by decide +kernel
theorem dX9_from_29 : decode cX9_from 29 = .ok (.aload_n 0, 1) := by decide +kernel
theorem dX9_from_30 : decode cX9_from 30 = .ok (.getfield 64, 3) := by decide +kernel
theorem dX9_from_33 : decode cX9_from 33 = .ok (.aload_n 0, 1) := by decide +kernel
theorem dX9_from_34 : decode cX9_from 34 = .ok (.getfield 54, 3) := by decide +kernel
theorem dX9_from_37 : decode cX9_from 37 = .ok (.iload_n 1, 1) := by decide +kernel
theorem dX9_from_38 : decode cX9_from 38 = .ok (.iconst 0, 1) := by decide +kernel
theorem dX9_from_39 : decode cX9_from 39 = .ok (.invokevirtual 220, 3) := by decide +kernel
theorem dX9_from_42 : decode cX9_from 42 = .ok (.aload_n 0, 1) := by decide +kernel
theorem dX9_from_43 : decode cX9_from 43 = .ok (.getfield 64, 3) := by decide +kernel
theorem dX9_from_46 : decode cX9_from 46 = .ok (.aload_n 0, 1) := by decide +kernel
theorem dX9_from_47 : decode cX9_from 47 = .ok (.getfield 54, 3) := by decide +kernel
theorem dX9_from_50 : decode cX9_from 50 = .ok (.iload_n 2, 1) := by decide +kernel
theorem dX9_from_51 : decode cX9_from 51 = .ok (.invokevirtual 234, 3) := by decide +kernel
theorem dX9_from_54 : decode cX9_from 54 = .ok (.ireturn, 1) := by decide +kernel
theorem dX9_all_0 : decode cX9_all 0 = .ok (.aload_n 0, 1) := by decide +kernel
theorem dX9_all_1 : decode cX9_all 1 = .ok (.getfield 20, 3) := by decide +kernel
theorem dX9_all_4 : decode cX9_all 4 = .ok (.iload_n 1, 1) := by decide +kernel
theorem dX9_all_5 : decode cX9_all 5 = .ok (.invokevirtual 139, 3) := by decide +kernel
theorem dX9_all_8 : decode cX9_all 8 = .ok (.ifCond .ne 6, 3) := by decide +kernel
theorem dX9_all_11 : decode cX9_all 11 = .ok (.bipush (-2), 2) := by decide +kernel
theorem dX9_all_13 : decode cX9_all 13 = .ok (.ireturn, 1) := by decide +kernel
theorem dX9_all_14 : decode cX9_all 14 = .ok (.aload_n 0, 1) := by decide +kernel
theorem dX9_all_15 : decode cX9_all 15 = .ok (.invokevirtual 227, 3) := by decide +kernel
theorem dX9_all_18 : decode cX9_all 18 = .ok (.aload_n 0, 1) := by decide +kernel
theorem dX9_all_19 : decode cX9_all 19 = .ok (.getfield 64, 3) := by decide +kernel
theorem dX9_all_22 : decode cX9_all 22 = .ok (.aload_n 0, 1) := by decide +kernel
theorem dX9_all_23 : decode cX9_all 23 = .ok (.getfield 54, 3) := by decide +kernel
theorem dX9_all_26 : decode cX9_all 26 = .ok (.iload_n 1, 1) := by decide +kernel
theorem dX9_all_27 : decode cX9_all 27 = .ok (.iconst 0, 1) := by decide +kernel
theorem dX9_all_28 : decode cX9_all 28 = .ok (.invokevirtual 220, 3) := by decide +kernel
theorem dX9_all_31 : decode cX9_all 31 = .ok (.aload_n 0, 1) := by decide +kernel
theorem dX9_all_32 : decode cX9_all 32 = .ok (.getfield 20, 3) := by decide +kernel
theorem dX9_all_35 : decode cX9_all 35 = .ok (.invokevirtual 240, 3) := by decide +kernel
theorem dX9_all_38 : decode cX9_all 38 = .ok (.istore_n 2, 1) := by decide +kernel
theorem dX9_all_39 : decode cX9_all 39 = .ok (.iconst 0, 1) := by decide +kernel
theorem dX9_all_40 : decode cX9_all 40 = .ok (.istore_n 3, 1) := by decide +kernel
theorem dX9_all_41 : decode cX9_all 41 = .ok (.iload_n 3, 1) := by decide +kernel
theorem dX9_all_42 : decode cX9_all 42 = .ok (.aload_n 0, 1) := by decide +kernel
theorem dX9_all_43 : decode cX9_all 43 = .ok (.getfield 20, 3) := by decide +kernel
theorem dX9_all_46 : decode cX9_all 46 = .ok (.getfield 169, 3) := by decide +kernel
theorem dX9_all_49 : decode cX9_all 49 = .ok (.if_icmp .gt 23, 3) := by decide +kernel
theorem dX9_all_52 : decode cX9_all 52 = .ok (.aload_n 0, 1) := by decide +kernel
theorem dX9_all_53 : decode cX9_all 53 = .ok (.getfield 64, 3) := by decide +kernel
theorem dX9_all_56 : decode cX9_all 56 = .ok (.iload_n 3, 1) := by decide +kernel
theorem dX9_all_57 : decode cX9_all 57 = .ok (.invokevirtual 224, 3) := by decide +kernel
theorem dX9_all_60 : decode cX9_all 60 = .ok (.iload_n 2, 1) := by decide +kernel
theorem dX9_all_61 : decode cX9_all 61 = .ok (.if_icmp .ne 5, 3) := by decide +kernel
theorem dX9_all_64 : decode cX9_all 64 = .ok (.iload_n 3, 1) := by decide +kernel
theorem dX9_all_65 : decode cX9_all 65 = .ok (.ireturn, 1) := by decide +kernel
theorem dX9_all_66 : decode cX9_all 66 = .ok (.iinc 3 1, 3) := by decide +kernel
theorem dX9_all_69 : decode cX9_all 69 = .ok (.goto (-28), 3) := by decide +kernel
theorem dX9_all_72 : decode cX9_all 72 = .ok (.iconst (-1), 1) := by decide +kernel
theorem dX9_all_73 : decode cX9_all 73 = .ok (.ireturn, 1) := by decide +kernel
theorem dX9_best_0 : decode cX9_best 0 = .ok (.aload_n 0, 1) := by decide +kernel
theorem dX9_best_1 : decode cX9_best 1 = .ok (.getfield 20, 3) := by decide +kernel
theorem dX9_best_4 : decode cX9_best 4 = .ok (.invokevirtual 184, 3) := by decide +kernel
theorem dX9_best_7 : decode cX9_best 7 = .ok (.ifCond .ne 6, 3) := by decide +kernel
theorem dX9_best_10 : decode cX9_best 10 = .ok (.bipush (-2), 2) := by decide +kernel
theorem dX9_best_12 : decode cX9_best 12 = .ok (.ireturn, 1) := by decide +kernel
theorem dX9_best_13 : decode cX9_best 13 = .ok (.aload_n 0, 1) := by decide +kernel
theorem dX9_best_14 : decode cX9_best 14 = .ok (.invokevirtual 227, 3) := by decide +kernel
theorem dX9_best_17 : decode cX9_best 17 = .ok (.iconst (-1), 1) := by decide +kernel
theorem dX9_best_18 : decode cX9_best 18 = .ok (.istore_n 1, 1) := by decide +kernel
theorem dX9_best_19 : decode cX9_best 19 = .ok (.iconst 0, 1) := by decide +kernel
theorem dX9_best_20 : decode cX9_best 20 = .ok (.istore_n 2, 1) := by decide +kernel
theorem dX9_best_21 : decode cX9_best 21 = .ok (.iconst 0, 1) := by decide +kernel
theorem dX9_best_22 : decode cX9_best 22 = .ok (.istore_n 3, 1) := by decide +kernel
theorem dX9_best_23 : decode cX9_best 23 = .ok (.iload_n 3, 1) := by decide +kernel
theorem dX9_best_24 : decode cX9_best 24 = .ok (.aload_n 0, 1) := by decide +kernel
theorem dX9_best_25 : decode cX9_best 25 = .ok (.getfield 20, 3) := by decide +kernel
theorem dX9_best_28 : decode cX9_best 28 = .ok (.getfield 133, 3) := by decide +kernel
theorem dX9_best_31 : decode cX9_best 31 = .ok (.getfield 200, 3) := by decide +kernel
theorem dX9_best_34 : decode cX9_best 34 = .ok (.if_icmp .ge 34, 3) := by decide +kernel
theorem dX9_best_37 : decode cX9_best 37 = .ok (.aload_n 0, 1) := by decide +kernel
theorem dX9_best_38 : decode cX9_best 38 = .ok (.aload_n 0, 1) := by decide +kernel
theorem dX9_best_39 : decode cX9_best 39 = .ok (.getfield 54, 3) := by decide +kernel
theorem dX9_best_42 : decode cX9_best 42 = .ok (.iload_n 3, 1) := by decide +kernel
theorem dX9_best_43 : decode cX9_best 43 = .ok (.invokevirtual 230, 3) := by decide +kernel
theorem dX9_best_46 : decode cX9_best 46 = .ok (.invokestatic 203, 3) := by decide +kernel
theorem dX9_best_49 : decode cX9_best 49 = .ok (.istore 4, 2) := by decide +kernel
theorem dX9_best_51 : decode cX9_best 51 = .ok (.iload 4, 2) := by decide +kernel
theorem dX9_best_53 : decode cX9_best 53 = .ok (.iload_n 2, 1) := by decide +kernel
theorem dX9_best_54 : decode cX9_best 54 = .ok (.if_icmp .le 8, 3) := by decide +kernel
theorem dX9_best_57 : decode cX9_best 57 = .ok (.iload 4, 2) := by decide +kernel
theorem dX9_best_59 : decode cX9_best 59 = .ok (.istore_n 2, 1) := by decide +kernel
theorem dX9_best_60 : decode cX9_best 60 = .ok (.iload_n 3, 1) := by decide +kernel
theorem dX9_best_61 : decode cX9_best 61 = .ok (.istore_n 1, 1) := by decide +kernel
theorem dX9_best_62 : decode cX9_best 62 = .ok (.iinc 3 1, 3) := by decide +kernel
theorem dX9_best_65 : decode cX9_best 65 = .ok (.goto (-42), 3) := by decide +kernel
theorem dX9_best_68 : decode cX9_best 68 = .ok (.iload_n 1, 1) := by decide +kernel
theorem dX9_best_69 : decode cX9_best 69 = .ok (.ireturn, 1) := by decide +kernel
theorem dX9_lasts_0 : decode cX9_lasts 0 = .ok (.aload_n 0, 1) := by decide +kernel
theorem dX9_lasts_1 : decode cX9_lasts 1 = .ok (.getfield 20, 3) := by decide +kernel
theorem dX9_lasts_4 : decode cX9_lasts 4 = .ok (.iload_n 1, 1) := by decide +kernel
theorem dX9_lasts_5 : decode cX9_lasts 5 = .ok (.invokevirtual 139, 3) := by decide +kernel
theorem dX9_lasts_8 : decode cX9_lasts 8 = .ok (.ifCond .ne 6, 3) := by decide +kernel
theorem dX9_lasts_11 : decode cX9_lasts 11 = .ok (.bipush (-2), 2) := by decide +kernel
theorem dX9_lasts_13 : decode cX9_lasts 13 = .ok (.ireturn, 1) := by decide +kernel
theorem dX9_lasts_14 : decode cX9_lasts 14 = .ok (.aload_n 0, 1) := by decide +kernel
theorem dX9_lasts_15 : decode cX9_lasts 15 = .ok (.invokevirtual 227, 3) := by decide +kernel
theorem dX9_lasts_18 : decode cX9_lasts 18 = .ok (.aload_n 0, 1) := by decide +kernel
theorem dX9_lasts_19 : decode cX9_lasts 19 = .ok (.getfield 64, 3) := by decide +kernel
theorem dX9_lasts_22 : decode cX9_lasts 22 = .ok (.aload_n 0, 1) := by decide +kernel
theorem dX9_lasts_23 : decode cX9_lasts 23 = .ok (.getfield 54, 3) := by decide +kernel
theorem dX9_lasts_26 : decode cX9_lasts 26 = .ok (.iload_n 1, 1) := by decide +kernel
theorem dX9_lasts_27 : decode cX9_lasts 27 = .ok (.iconst 0, 1) := by decide +kernel
theorem dX9_lasts_28 : decode cX9_lasts 28 = .ok (.invokevirtual 220, 3) := by decide +kernel
theorem dX9_lasts_31 : decode cX9_lasts 31 = .ok (.iconst (-1), 1) := by decide +kernel
theorem dX9_lasts_32 : decode cX9_lasts 32 = .ok (.istore_n 2, 1) := by decide +kernel
theorem dX9_lasts_33 : decode cX9_lasts 33 = .ok (.iconst 0, 1) := by decide +kernel
theorem dX9_lasts_34 : decode cX9_lasts 34 = .ok (.istore_n 3, 1) := by decide +kernel
theorem dX9_lasts_35 : decode cX9_lasts 35 = .ok (.iload_n 3, 1) := by decide +kernel
theorem dX9_lasts_36 : decode cX9_lasts 36 = .ok (.aload_n 0, 1) := by decide +kernel
theorem dX9_lasts_37 : decode cX9_lasts 37 = .ok (.getfield 20, 3) := by decide +kernel
theorem dX9_lasts_40 : decode cX9_lasts 40 = .ok (.getfield 133, 3) := by decide +kernel
theorem dX9_lasts_43 : decode cX9_lasts 43 = .ok (.getfield 200, 3) := by decide +kernel
theorem dX9_lasts_46 : decode cX9_lasts 46 = .ok (.if_icmp .ge 27, 3) := by decide +kernel
theorem dX9_lasts_49 : decode cX9_lasts 49 = .ok (.iload_n 3, 1) := by decide +kernel
theorem dX9_lasts_50 : decode cX9_lasts 50 = .ok (.iload_n 1, 1) := by decide +kernel
theorem dX9_lasts_51 : decode cX9_lasts 51 = .ok (.if_icmp .eq 16, 3) := by decide +kernel
theorem dX9_lasts_54 : decode cX9_lasts 54 = .ok (.iload_n 2, 1) := by decide +kernel
theorem dX9_lasts_55 : decode cX9_lasts 55 = .ok (.aload_n 0, 1) := by decide +kernel
theorem dX9_lasts_56 : decode cX9_lasts 56 = .ok (.getfield 64, 3) := by decide +kernel
theorem dX9_lasts_59 : decode cX9_lasts 59 = .ok (.iload_n 3, 1) := by decide +kernel
theorem dX9_lasts_60 : decode cX9_lasts 60 = .ok (.invokevirtual 237, 3) := by decide +kernel
theorem dX9_lasts_63 : decode cX9_lasts 63 = .ok (.invokestatic 191, 3) := by decide +kernel
theorem dX9_lasts_66 : decode cX9_lasts 66 = .ok (.istore_n 2, 1) := by decide +kernel
theorem dX9_lasts_67 : decode cX9_lasts 67 = .ok (.iinc 3 1, 3) := by decide +kernel
theorem dX9_lasts_70 : decode cX9_lasts 70 = .ok (.goto (-35), 3) := by decide +kernel
theorem dX9_lasts_73 : decode cX9_lasts 73 = .ok (.iload_n 2, 1) := by decide +kernel
theorem dX9_lasts_74 : decode cX9_lasts 74 = .ok (.ireturn, 1) := by decide +kernel
theorem dX9_needed_0 : decode cX9_needed 0 = .ok (.aload_n 0, 1) := by decide +kernel
theorem dX9_needed_1 : decode cX9_needed 1 = .ok (.getfield 20, 3) := by decide +kernel
theorem dX9_needed_4 : decode cX9_needed 4 = .ok (.iload_n 1, 1) := by decide +kernel
theorem dX9_needed_5 : decode cX9_needed 5 = .ok (.invokevirtual 139, 3) := by decide +kernel
theorem dX9_needed_8 : decode cX9_needed 8 = .ok (.ifCond .ne 6, 3) := by decide +kernel
theorem dX9_needed_11 : decode cX9_needed 11 = .ok (.bipush (-2), 2) := by decide +kernel
theorem dX9_needed_13 : decode cX9_needed 13 = .ok (.ireturn, 1) := by decide +kernel
theorem dX9_needed_14 : decode cX9_needed 14 = .ok (.aload_n 0, 1) := by decide +kernel
theorem dX9_needed_15 : decode cX9_needed 15 = .ok (.invokevirtual 227, 3) := by decide +kernel
theorem dX9_needed_18 : decode cX9_needed 18 = .ok (.aload_n 0, 1) := by decide +kernel
theorem dX9_needed_19 : decode cX9_needed 19 = .ok (.aload_n 0, 1) := by decide +kernel
theorem dX9_needed_20 : decode cX9_needed 20 = .ok (.getfield 54, 3) := by decide +kernel
theorem dX9_needed_23 : decode cX9_needed 23 = .ok (.iload_n 1, 1) := by decide +kernel
theorem dX9_needed_24 : decode cX9_needed 24 = .ok (.invokevirtual 230, 3) := by decide +kernel
theorem dX9_needed_27 : decode cX9_needed 27 = .ok (.istore_n 2, 1) := by decide +kernel
theorem dX9_needed_28 : decode cX9_needed 28 = .ok (.iconst 0, 1) := by decide +kernel
theorem dX9_needed_29 : decode cX9_needed 29 = .ok (.istore_n 3, 1) := by decide +kernel
theorem dX9_needed_30 : decode cX9_needed 30 = .ok (.iconst 0, 1) := by decide +kernel
theorem dX9_needed_31 : decode cX9_needed 31 = .ok (.istore 4, 2) := by decide +kernel
theorem dX9_needed_33 : decode cX9_needed 33 = .ok (.iload 4, 2) := by decide +kernel
theorem dX9_needed_35 : decode cX9_needed 35 = .ok (.aload_n 0, 1) := by decide +kernel
theorem dX9_needed_36 : decode cX9_needed 36 = .ok (.getfield 20, 3) := by decide +kernel
theorem dX9_needed_39 : decode cX9_needed 39 = .ok (.getfield 133, 3) := by decide +kernel
theorem dX9_needed_42 : decode cX9_needed 42 = .ok (.getfield 200, 3) := by decide +kernel
theorem dX9_needed_45 : decode cX9_needed 45 = .ok (.if_icmp .ge 73, 3) := by decide +kernel
theorem dX9_needed_48 : decode cX9_needed 48 = .ok (.iload 4, 2) := by decide +kernel
theorem dX9_needed_50 : decode cX9_needed 50 = .ok (.iload_n 1, 1) := by decide +kernel
theorem dX9_needed_51 : decode cX9_needed 51 = .ok (.if_icmp .eq 61, 3) := by decide +kernel
theorem dX9_needed_54 : decode cX9_needed 54 = .ok (.aload_n 0, 1) := by decide +kernel
theorem dX9_needed_55 : decode cX9_needed 55 = .ok (.getfield 64, 3) := by decide +kernel
theorem dX9_needed_58 : decode cX9_needed 58 = .ok (.aload_n 0, 1) := by decide +kernel
theorem dX9_needed_59 : decode cX9_needed 59 = .ok (.getfield 20, 3) := by decide +kernel
theorem dX9_needed_62 : decode cX9_needed 62 = .ok (.aload_n 0, 1) := by decide +kernel
theorem dX9_needed_63 : decode cX9_needed 63 = .ok (.getfield 20, 3) := by decide +kernel
theorem dX9_needed_66 : decode cX9_needed 66 = .ok (.getfield 214, 3) := by decide +kernel
theorem dX9_needed_69 : decode cX9_needed 69 = .ok (.iload 4, 2) := by decide +kernel
theorem dX9_needed_71 : decode cX9_needed 71 = .ok (.invokevirtual 217, 3) := by decide +kernel
theorem dX9_needed_74 : decode cX9_needed 74 = .ok (.iload_n 2, 1) := by decide +kernel
theorem dX9_needed_75 : decode cX9_needed 75 = .ok (.aload_n 0, 1) := by decide +kernel
theorem dX9_needed_76 : decode cX9_needed 76 = .ok (.aload_n 0, 1) := by decide +kernel
theorem dX9_needed_77 : decode cX9_needed 77 = .ok (.getfield 54, 3) := by decide +kernel
theorem dX9_needed_80 : decode cX9_needed 80 = .ok (.iload_n 1, 1) := by decide +kernel
theorem dX9_needed_81 : decode cX9_needed 81 = .ok (.invokevirtual 230, 3) := by decide +kernel
theorem dX9_needed_84 : decode cX9_needed 84 = .ok (.iconst (-1), 1) := by decide +kernel
theorem dX9_needed_85 : decode cX9_needed 85 = .ok (.ixor, 1) := by decide +kernel
theorem dX9_needed_86 : decode cX9_needed 86 = .ok (.iand, 1) := by decide +kernel
theorem dX9_needed_87 : decode cX9_needed 87 = .ok (.iconst 1, 1) := by decide +kernel
theorem dX9_needed_88 : decode cX9_needed 88 = .ok (.iload 4, 2) := by decide +kernel
theorem dX9_needed_90 : decode cX9_needed 90 = .ok (.ishl, 1) := by decide +kernel
theorem dX9_needed_91 : decode cX9_needed 91 = .ok (.iconst (-1), 1) := by decide +kernel
theorem dX9_needed_92 : decode cX9_needed 92 = .ok (.ixor, 1) := by decide +kernel
theorem dX9_needed_93 : decode cX9_needed 93 = .ok (.iand, 1) := by decide +kernel
theorem dX9_needed_94 : decode cX9_needed 94 = .ok (.istore 5, 2) := by decide +kernel
theorem dX9_needed_96 : decode cX9_needed 96 = .ok (.iload_n 3, 1) := by decide +kernel
theorem dX9_needed_97 : decode cX9_needed 97 = .ok (.iload 5, 2) := by decide +kernel
theorem dX9_needed_99 : decode cX9_needed 99 = .ok (.ifCond .eq 10, 3) := by decide +kernel
theorem dX9_needed_102 : decode cX9_needed 102 = .ok (.iconst 1, 1) := by decide +kernel
theorem dX9_needed_103 : decode cX9_needed 103 = .ok (.iload 4, 2) := by decide +kernel
theorem dX9_needed_105 : decode cX9_needed 105 = .ok (.ishl, 1) := by decide +kernel
theorem dX9_needed_106 : decode cX9_needed 106 = .ok (.goto 4, 3) := by decide +kernel
theorem dX9_needed_109 : decode cX9_needed 109 = .ok (.iconst 0, 1) := by decide +kernel
theorem dX9_needed_110 : decode cX9_needed 110 = .ok (.ior, 1) := by decide +kernel
theorem dX9_needed_111 : decode cX9_needed 111 = .ok (.istore_n 3, 1) := by decide +kernel
theorem dX9_needed_112 : decode cX9_needed 112 = .ok (.iinc 4 1, 3) := by decide +kernel
theorem dX9_needed_115 : decode cX9_needed 115 = .ok (.goto (-82), 3) := by decide +kernel
theorem dX9_needed_118 : decode cX9_needed 118 = .ok (.iload_n 3, 1) := by decide +kernel
theorem dX9_needed_119 : decode cX9_needed 119 = .ok (.ireturn, 1) := by decide +kernel
theorem dX9_by_0 : decode cX9_by 0 = .ok (.aload_n 0, 1) := by decide +kernel
theorem dX9_by_1 : decode cX9_by 1 = .ok (.getfield 20, 3) := by decide +kernel
theorem dX9_by_4 : decode cX9_by 4 = .ok (.iload_n 1, 1) := by decide +kernel
theorem dX9_by_5 : decode cX9_by 5 = .ok (.invokevirtual 139, 3) := by decide +kernel
theorem dX9_by_8 : decode cX9_by 8 = .ok (.ifCond .eq 12, 3) := by decide +kernel
theorem dX9_by_11 : decode cX9_by 11 = .ok (.iload_n 2, 1) := by decide +kernel
theorem dX9_by_12 : decode cX9_by 12 = .ok (.ifCond .lt 8, 3) := by decide +kernel
theorem dX9_by_15 : decode cX9_by 15 = .ok (.iload_n 2, 1) := by decide +kernel
theorem dX9_by_16 : decode cX9_by 16 = .ok (.iconst 3, 1) := by decide +kernel
theorem dX9_by_17 : decode cX9_by 17 = .ok (.if_icmp .le 6, 3) := by decide +kernel
theorem dX9_by_20 : decode cX9_by 20 = .ok (.bipush (-2), 2) := by decide +kernel
theorem dX9_by_22 : decode cX9_by 22 = .ok (.ireturn, 1) := by decide +kernel
theorem dX9_by_23 : decode cX9_by 23 = .ok (.aload_n 0, 1) := by decide +kernel
theorem dX9_by_24 : decode cX9_by 24 = .ok (.getfield 64, 3) := by decide +kernel
theorem dX9_by_27 : decode cX9_by 27 = .ok (.aload_n 0, 1) := by decide +kernel
theorem dX9_by_28 : decode cX9_by 28 = .ok (.getfield 20, 3) := by decide +kernel
theorem dX9_by_31 : decode cX9_by 31 = .ok (.iload_n 2, 1) := by decide +kernel
theorem dX9_by_32 : decode cX9_by 32 = .ok (.iconst (-1), 1) := by decide +kernel
theorem dX9_by_33 : decode cX9_by 33 = .ok (.invokevirtual 217, 3) := by decide +kernel
theorem dX9_by_36 : decode cX9_by 36 = .ok (.aload_n 0, 1) := by decide +kernel
theorem dX9_by_37 : decode cX9_by 37 = .ok (.aload_n 0, 1) := by decide +kernel
theorem dX9_by_38 : decode cX9_by 38 = .ok (.getfield 54, 3) := by decide +kernel
theorem dX9_by_41 : decode cX9_by 41 = .ok (.iload_n 1, 1) := by decide +kernel
theorem dX9_by_42 : decode cX9_by 42 = .ok (.invokevirtual 230, 3) := by decide +kernel
theorem dX9_by_45 : decode cX9_by 45 = .ok (.ireturn, 1) := by decide +kernel
theorem dX9_carry_0 : decode cX9_carry 0 = .ok (.aload_n 0, 1) := by decide +kernel
theorem dX9_carry_1 : decode cX9_carry 1 = .ok (.getfield 20, 3) := by decide +kernel
theorem dX9_carry_4 : decode cX9_carry 4 = .ok (.iload_n 1, 1) := by decide +kernel
theorem dX9_carry_5 : decode cX9_carry 5 = .ok (.invokevirtual 139, 3) := by decide +kernel
theorem dX9_carry_8 : decode cX9_carry 8 = .ok (.ifCond .eq 30, 3) := by decide +kernel
theorem dX9_carry_11 : decode cX9_carry 11 = .ok (.aload_n 0, 1) := by decide +kernel
theorem dX9_carry_12 : decode cX9_carry 12 = .ok (.getfield 20, 3) := by decide +kernel
theorem dX9_carry_15 : decode cX9_carry 15 = .ok (.iload_n 2, 1) := by decide +kernel
theorem dX9_carry_16 : decode cX9_carry 16 = .ok (.invokevirtual 139, 3) := by decide +kernel
theorem dX9_carry_19 : decode cX9_carry 19 = .ok (.ifCond .eq 19, 3) := by decide +kernel
theorem dX9_carry_22 : decode cX9_carry 22 = .ok (.aload_n 0, 1) := by decide +kernel
theorem dX9_carry_23 : decode cX9_carry 23 = .ok (.getfield 20, 3) := by decide +kernel
theorem dX9_carry_26 : decode cX9_carry 26 = .ok (.iload_n 3, 1) := by decide +kernel
theorem dX9_carry_27 : decode cX9_carry 27 = .ok (.invokevirtual 139, 3) := by decide +kernel
theorem dX9_carry_30 : decode cX9_carry 30 = .ok (.ifCond .eq 8, 3) := by decide +kernel
theorem dX9_carry_33 : decode cX9_carry 33 = .ok (.iload_n 2, 1) := by decide +kernel
theorem dX9_carry_34 : decode cX9_carry 34 = .ok (.iload_n 3, 1) := by decide +kernel
theorem dX9_carry_35 : decode cX9_carry 35 = .ok (.if_icmp .ne 6, 3) := by decide +kernel
theorem dX9_carry_38 : decode cX9_carry 38 = .ok (.bipush (-2), 2) := by decide +kernel
theorem dX9_carry_40 : decode cX9_carry 40 = .ok (.ireturn, 1) := by decide +kernel
theorem dX9_carry_41 : decode cX9_carry 41 = .ok (.aload_n 0, 1) := by decide +kernel
theorem dX9_carry_42 : decode cX9_carry 42 = .ok (.getfield 64, 3) := by decide +kernel
theorem dX9_carry_45 : decode cX9_carry 45 = .ok (.aload_n 0, 1) := by decide +kernel
theorem dX9_carry_46 : decode cX9_carry 46 = .ok (.getfield 20, 3) := by decide +kernel
theorem dX9_carry_49 : decode cX9_carry 49 = .ok (.aload_n 0, 1) := by decide +kernel
theorem dX9_carry_50 : decode cX9_carry 50 = .ok (.getfield 20, 3) := by decide +kernel
theorem dX9_carry_53 : decode cX9_carry 53 = .ok (.getfield 214, 3) := by decide +kernel
theorem dX9_carry_56 : decode cX9_carry 56 = .ok (.iload_n 2, 1) := by decide +kernel
theorem dX9_carry_57 : decode cX9_carry 57 = .ok (.invokevirtual 217, 3) := by decide +kernel
theorem dX9_carry_60 : decode cX9_carry 60 = .ok (.aload_n 0, 1) := by decide +kernel
theorem dX9_carry_61 : decode cX9_carry 61 = .ok (.getfield 64, 3) := by decide +kernel
theorem dX9_carry_64 : decode cX9_carry 64 = .ok (.aload_n 0, 1) := by decide +kernel
theorem dX9_carry_65 : decode cX9_carry 65 = .ok (.getfield 54, 3) := by decide +kernel
theorem dX9_carry_68 : decode cX9_carry 68 = .ok (.iload_n 1, 1) := by decide +kernel
theorem dX9_carry_69 : decode cX9_carry 69 = .ok (.iconst 0, 1) := by decide +kernel
theorem dX9_carry_70 : decode cX9_carry 70 = .ok (.invokevirtual 220, 3) := by decide +kernel
theorem dX9_carry_73 : decode cX9_carry 73 = .ok (.aload_n 0, 1) := by decide +kernel
theorem dX9_carry_74 : decode cX9_carry 74 = .ok (.getfield 71, 3) := by decide +kernel
theorem dX9_carry_77 : decode cX9_carry 77 = .ok (.aload_n 0, 1) := by decide +kernel
theorem dX9_carry_78 : decode cX9_carry 78 = .ok (.getfield 54, 3) := by decide +kernel
theorem dX9_carry_81 : decode cX9_carry 81 = .ok (.aload_n 0, 1) := by decide +kernel
theorem dX9_carry_82 : decode cX9_carry 82 = .ok (.getfield 64, 3) := by decide +kernel
theorem dX9_carry_85 : decode cX9_carry 85 = .ok (.iload_n 2, 1) := by decide +kernel
theorem dX9_carry_86 : decode cX9_carry 86 = .ok (.iload_n 3, 1) := by decide +kernel
theorem dX9_carry_87 : decode cX9_carry 87 = .ok (.invokevirtual 243, 3) := by decide +kernel
theorem dX9_carry_90 : decode cX9_carry 90 = .ok (.aload_n 0, 1) := by decide +kernel
theorem dX9_carry_91 : decode cX9_carry 91 = .ok (.getfield 71, 3) := by decide +kernel
theorem dX9_carry_94 : decode cX9_carry 94 = .ok (.aload_n 0, 1) := by decide +kernel
theorem dX9_carry_95 : decode cX9_carry 95 = .ok (.getfield 54, 3) := by decide +kernel
theorem dX9_carry_98 : decode cX9_carry 98 = .ok (.invokevirtual 246, 3) := by decide +kernel
theorem dX9_carry_101 : decode cX9_carry 101 = .ok (.ireturn, 1) := by decide +kernel
theorem dX9_walk_0 : decode cX9_walk 0 = .ok (.aload_n 0, 1) := by decide +kernel
theorem dX9_walk_1 : decode cX9_walk 1 = .ok (.getfield 20, 3) := by decide +kernel
theorem dX9_walk_4 : decode cX9_walk 4 = .ok (.iload 4, 2) := by decide +kernel
theorem dX9_walk_6 : decode cX9_walk 6 = .ok (.invokevirtual 153, 3) := by decide +kernel
theorem dX9_walk_9 : decode cX9_walk 9 = .ok (.ifCond .ne 6, 3) := by decide +kernel
theorem dX9_walk_12 : decode cX9_walk 12 = .ok (.bipush (-2), 2) := by decide +kernel
theorem dX9_walk_14 : decode cX9_walk 14 = .ok (.ireturn, 1) := by decide +kernel
theorem dX9_walk_15 : decode cX9_walk 15 = .ok (.aload_n 0, 1) := by decide +kernel
theorem dX9_walk_16 : decode cX9_walk 16 = .ok (.iload_n 1, 1) := by decide +kernel
theorem dX9_walk_17 : decode cX9_walk 17 = .ok (.iload_n 2, 1) := by decide +kernel
theorem dX9_walk_18 : decode cX9_walk 18 = .ok (.iload_n 3, 1) := by decide +kernel
theorem dX9_walk_19 : decode cX9_walk 19 = .ok (.invokevirtual 250, 3) := by decide +kernel
theorem dX9_walk_22 : decode cX9_walk 22 = .ok (.istore 5, 2) := by decide +kernel
theorem dX9_walk_24 : decode cX9_walk 24 = .ok (.iload 5, 2) := by decide +kernel
theorem dX9_walk_26 : decode cX9_walk 26 = .ok (.ifCond .ge 8, 3) := by decide +kernel
theorem dX9_walk_29 : decode cX9_walk 29 = .ok (.iload 5, 2) := by decide +kernel
theorem dX9_walk_31 : decode cX9_walk 31 = .ok (.goto 18, 3) := by decide +kernel
theorem dX9_walk_34 : decode cX9_walk 34 = .ok (.aload_n 0, 1) := by decide +kernel
theorem dX9_walk_35 : decode cX9_walk 35 = .ok (.getfield 71, 3) := by decide +kernel
theorem dX9_walk_38 : decode cX9_walk 38 = .ok (.aload_n 0, 1) := by decide +kernel
theorem dX9_walk_39 : decode cX9_walk 39 = .ok (.getfield 54, 3) := by decide +kernel
theorem dX9_walk_42 : decode cX9_walk 42 = .ok (.iload 5, 2) := by decide +kernel
theorem dX9_walk_44 : decode cX9_walk 44 = .ok (.iload 4, 2) := by decide +kernel
theorem dX9_walk_46 : decode cX9_walk 46 = .ok (.invokevirtual 253, 3) := by decide +kernel
theorem dX9_walk_49 : decode cX9_walk 49 = .ok (.ireturn, 1) := by decide +kernel
theorem dX9_widen_0 : decode cX9_widen 0 = .ok (.aload_n 0, 1) := by decide +kernel
theorem dX9_widen_1 : decode cX9_widen 1 = .ok (.getfield 20, 3) := by decide +kernel
theorem dX9_widen_4 : decode cX9_widen 4 = .ok (.iload_n 1, 1) := by decide +kernel
theorem dX9_widen_5 : decode cX9_widen 5 = .ok (.invokevirtual 139, 3) := by decide +kernel
theorem dX9_widen_8 : decode cX9_widen 8 = .ok (.ifCond .eq 17, 3) := by decide +kernel
theorem dX9_widen_11 : decode cX9_widen 11 = .ok (.aload_n 0, 1) := by decide +kernel
theorem dX9_widen_12 : decode cX9_widen 12 = .ok (.getfield 20, 3) := by decide +kernel
theorem dX9_widen_15 : decode cX9_widen 15 = .ok (.getfield 119, 3) := by decide +kernel
theorem dX9_widen_18 : decode cX9_widen 18 = .ok (.iload_n 2, 1) := by decide +kernel
theorem dX9_widen_19 : decode cX9_widen 19 = .ok (.invokevirtual 257, 3) := by decide +kernel
theorem dX9_widen_22 : decode cX9_widen 22 = .ok (.ifCond .ne 6, 3) := by decide +kernel
theorem dX9_widen_25 : decode cX9_widen 25 = .ok (.bipush (-2), 2) := by decide +kernel
theorem dX9_widen_27 : decode cX9_widen 27 = .ok (.ireturn, 1) := by decide +kernel
theorem dX9_widen_28 : decode cX9_widen 28 = .ok (.aload_n 0, 1) := by decide +kernel
theorem dX9_widen_29 : decode cX9_widen 29 = .ok (.invokevirtual 227, 3) := by decide +kernel
theorem dX9_widen_32 : decode cX9_widen 32 = .ok (.iconst 1, 1) := by decide +kernel
theorem dX9_widen_33 : decode cX9_widen 33 = .ok (.istore_n 3, 1) := by decide +kernel
theorem dX9_widen_34 : decode cX9_widen 34 = .ok (.iconst 0, 1) := by decide +kernel
theorem dX9_widen_35 : decode cX9_widen 35 = .ok (.istore 4, 2) := by decide +kernel
theorem dX9_widen_37 : decode cX9_widen 37 = .ok (.iconst 1, 1) := by decide +kernel
theorem dX9_widen_38 : decode cX9_widen 38 = .ok (.istore 5, 2) := by decide +kernel
theorem dX9_widen_40 : decode cX9_widen 40 = .ok (.iload 5, 2) := by decide +kernel
theorem dX9_widen_42 : decode cX9_widen 42 = .ok (.bipush 9, 2) := by decide +kernel
theorem dX9_widen_44 : decode cX9_widen 44 = .ok (.if_icmp .gt 51, 3) := by decide +kernel
theorem dX9_widen_47 : decode cX9_widen 47 = .ok (.aload_n 0, 1) := by decide +kernel
theorem dX9_widen_48 : decode cX9_widen 48 = .ok (.getfield 58, 3) := by decide +kernel
theorem dX9_widen_51 : decode cX9_widen 51 = .ok (.aload_n 0, 1) := by decide +kernel
theorem dX9_widen_52 : decode cX9_widen 52 = .ok (.getfield 20, 3) := by decide +kernel
theorem dX9_widen_55 : decode cX9_widen 55 = .ok (.iload_n 2, 1) := by decide +kernel
theorem dX9_widen_56 : decode cX9_widen 56 = .ok (.iload 5, 2) := by decide +kernel
theorem dX9_widen_58 : decode cX9_widen 58 = .ok (.invokevirtual 116, 3) := by decide +kernel
theorem dX9_widen_61 : decode cX9_widen 61 = .ok (.aload_n 0, 1) := by decide +kernel
theorem dX9_widen_62 : decode cX9_widen 62 = .ok (.aload_n 0, 1) := by decide +kernel
theorem dX9_widen_63 : decode cX9_widen 63 = .ok (.getfield 58, 3) := by decide +kernel
theorem dX9_widen_66 : decode cX9_widen 66 = .ok (.iload_n 1, 1) := by decide +kernel
theorem dX9_widen_67 : decode cX9_widen 67 = .ok (.invokevirtual 230, 3) := by decide +kernel
theorem dX9_widen_70 : decode cX9_widen 70 = .ok (.invokestatic 203, 3) := by decide +kernel
theorem dX9_widen_73 : decode cX9_widen 73 = .ok (.istore 6, 2) := by decide +kernel
theorem dX9_widen_75 : decode cX9_widen 75 = .ok (.iload 6, 2) := by decide +kernel
theorem dX9_widen_77 : decode cX9_widen 77 = .ok (.iload 4, 2) := by decide +kernel
theorem dX9_widen_79 : decode cX9_widen 79 = .ok (.if_icmp .le 10, 3) := by decide +kernel
theorem dX9_widen_82 : decode cX9_widen 82 = .ok (.iload 6, 2) := by decide +kernel
theorem dX9_widen_84 : decode cX9_widen 84 = .ok (.istore 4, 2) := by decide +kernel
theorem dX9_widen_86 : decode cX9_widen 86 = .ok (.iload 5, 2) := by decide +kernel
theorem dX9_widen_88 : decode cX9_widen 88 = .ok (.istore_n 3, 1) := by decide +kernel
theorem dX9_widen_89 : decode cX9_widen 89 = .ok (.iinc 5 1, 3) := by decide +kernel
theorem dX9_widen_92 : decode cX9_widen 92 = .ok (.goto (-52), 3) := by decide +kernel
theorem dX9_widen_95 : decode cX9_widen 95 = .ok (.iload_n 3, 1) := by decide +kernel
theorem dX9_widen_96 : decode cX9_widen 96 = .ok (.ireturn, 1) := by decide +kernel
theorem dX9_shut_0 : decode cX9_shut 0 = .ok (.aload_n 0, 1) := by decide +kernel
theorem dX9_shut_1 : decode cX9_shut 1 = .ok (.getfield 20, 3) := by decide +kernel
theorem dX9_shut_4 : decode cX9_shut 4 = .ok (.iload_n 1, 1) := by decide +kernel
theorem dX9_shut_5 : decode cX9_shut 5 = .ok (.invokevirtual 139, 3) := by decide +kernel
theorem dX9_shut_8 : decode cX9_shut 8 = .ok (.ifCond .eq 17, 3) := by decide +kernel
theorem dX9_shut_11 : decode cX9_shut 11 = .ok (.aload_n 0, 1) := by decide +kernel
theorem dX9_shut_12 : decode cX9_shut 12 = .ok (.getfield 20, 3) := by decide +kernel
theorem dX9_shut_15 : decode cX9_shut 15 = .ok (.getfield 119, 3) := by decide +kernel
theorem dX9_shut_18 : decode cX9_shut 18 = .ok (.iload_n 2, 1) := by decide +kernel
theorem dX9_shut_19 : decode cX9_shut 19 = .ok (.invokevirtual 257, 3) := by decide +kernel
theorem dX9_shut_22 : decode cX9_shut 22 = .ok (.ifCond .ne 6, 3) := by decide +kernel
theorem dX9_shut_25 : decode cX9_shut 25 = .ok (.bipush (-2), 2) := by decide +kernel
theorem dX9_shut_27 : decode cX9_shut 27 = .ok (.ireturn, 1) := by decide +kernel
theorem dX9_shut_28 : decode cX9_shut 28 = .ok (.aload_n 0, 1) := by decide +kernel
theorem dX9_shut_29 : decode cX9_shut 29 = .ok (.invokevirtual 227, 3) := by decide +kernel
theorem dX9_shut_32 : decode cX9_shut 32 = .ok (.aload_n 0, 1) := by decide +kernel
theorem dX9_shut_33 : decode cX9_shut 33 = .ok (.getfield 58, 3) := by decide +kernel
theorem dX9_shut_36 : decode cX9_shut 36 = .ok (.aload_n 0, 1) := by decide +kernel
theorem dX9_shut_37 : decode cX9_shut 37 = .ok (.getfield 20, 3) := by decide +kernel
theorem dX9_shut_40 : decode cX9_shut 40 = .ok (.iload_n 2, 1) := by decide +kernel
theorem dX9_shut_41 : decode cX9_shut 41 = .ok (.iconst 0, 1) := by decide +kernel
theorem dX9_shut_42 : decode cX9_shut 42 = .ok (.invokevirtual 116, 3) := by decide +kernel
theorem dX9_shut_45 : decode cX9_shut 45 = .ok (.aload_n 0, 1) := by decide +kernel
theorem dX9_shut_46 : decode cX9_shut 46 = .ok (.aload_n 0, 1) := by decide +kernel
theorem dX9_shut_47 : decode cX9_shut 47 = .ok (.getfield 58, 3) := by decide +kernel
theorem dX9_shut_50 : decode cX9_shut 50 = .ok (.iload_n 1, 1) := by decide +kernel
theorem dX9_shut_51 : decode cX9_shut 51 = .ok (.invokevirtual 230, 3) := by decide +kernel
theorem dX9_shut_54 : decode cX9_shut 54 = .ok (.ireturn, 1) := by decide +kernel
theorem dX9_bars_0 : decode cX9_bars 0 = .ok (.aload_n 0, 1) := by decide +kernel
theorem dX9_bars_1 : decode cX9_bars 1 = .ok (.getfield 20, 3) := by decide +kernel
theorem dX9_bars_4 : decode cX9_bars 4 = .ok (.iload_n 1, 1) := by decide +kernel
theorem dX9_bars_5 : decode cX9_bars 5 = .ok (.invokevirtual 139, 3) := by decide +kernel
theorem dX9_bars_8 : decode cX9_bars 8 = .ok (.ifCond .eq 25, 3) := by decide +kernel
theorem dX9_bars_11 : decode cX9_bars 11 = .ok (.aload_n 0, 1) := by decide +kernel
theorem dX9_bars_12 : decode cX9_bars 12 = .ok (.getfield 20, 3) := by decide +kernel
theorem dX9_bars_15 : decode cX9_bars 15 = .ok (.iload_n 2, 1) := by decide +kernel
theorem dX9_bars_16 : decode cX9_bars 16 = .ok (.invokevirtual 143, 3) := by decide +kernel
theorem dX9_bars_19 : decode cX9_bars 19 = .ok (.ifCond .eq 14, 3) := by decide +kernel
theorem dX9_bars_22 : decode cX9_bars 22 = .ok (.aload_n 0, 1) := by decide +kernel
theorem dX9_bars_23 : decode cX9_bars 23 = .ok (.getfield 20, 3) := by decide +kernel
theorem dX9_bars_26 : decode cX9_bars 26 = .ok (.iload_n 3, 1) := by decide +kernel
theorem dX9_bars_27 : decode cX9_bars 27 = .ok (.invokevirtual 143, 3) := by decide +kernel
theorem dX9_bars_30 : decode cX9_bars 30 = .ok (.ifCond .ne 6, 3) := by decide +kernel
theorem dX9_bars_33 : decode cX9_bars 33 = .ok (.bipush (-2), 2) := by decide +kernel
theorem dX9_bars_35 : decode cX9_bars 35 = .ok (.ireturn, 1) := by decide +kernel
theorem dX9_bars_36 : decode cX9_bars 36 = .ok (.iconst 1, 1) := by decide +kernel
theorem dX9_bars_37 : decode cX9_bars 37 = .ok (.istore 4, 2) := by decide +kernel
theorem dX9_bars_39 : decode cX9_bars 39 = .ok (.iload 4, 2) := by decide +kernel
theorem dX9_bars_41 : decode cX9_bars 41 = .ok (.bipush 9, 2) := by decide +kernel
theorem dX9_bars_43 : decode cX9_bars 43 = .ok (.if_icmp .gt 41, 3) := by decide +kernel
theorem dX9_bars_46 : decode cX9_bars 46 = .ok (.aload_n 0, 1) := by decide +kernel
theorem dX9_bars_47 : decode cX9_bars 47 = .ok (.getfield 58, 3) := by decide +kernel
theorem dX9_bars_50 : decode cX9_bars 50 = .ok (.aload_n 0, 1) := by decide +kernel
theorem dX9_bars_51 : decode cX9_bars 51 = .ok (.getfield 20, 3) := by decide +kernel
theorem dX9_bars_54 : decode cX9_bars 54 = .ok (.bipush (-2), 2) := by decide +kernel
theorem dX9_bars_56 : decode cX9_bars 56 = .ok (.iload 4, 2) := by decide +kernel
theorem dX9_bars_58 : decode cX9_bars 58 = .ok (.invokevirtual 260, 3) := by decide +kernel
theorem dX9_bars_61 : decode cX9_bars 61 = .ok (.aload_n 0, 1) := by decide +kernel
theorem dX9_bars_62 : decode cX9_bars 62 = .ok (.getfield 58, 3) := by decide +kernel
theorem dX9_bars_65 : decode cX9_bars 65 = .ok (.iload_n 1, 1) := by decide +kernel
theorem dX9_bars_66 : decode cX9_bars 66 = .ok (.iload_n 2, 1) := by decide +kernel
theorem dX9_bars_67 : decode cX9_bars 67 = .ok (.iload_n 3, 1) := by decide +kernel
theorem dX9_bars_68 : decode cX9_bars 68 = .ok (.invokevirtual 146, 3) := by decide +kernel
theorem dX9_bars_71 : decode cX9_bars 71 = .ok (.iconst (-1), 1) := by decide +kernel
theorem dX9_bars_72 : decode cX9_bars 72 = .ok (.if_icmp .eq 6, 3) := by decide +kernel
theorem dX9_bars_75 : decode cX9_bars 75 = .ok (.iload 4, 2) := by decide +kernel
theorem dX9_bars_77 : decode cX9_bars 77 = .ok (.ireturn, 1) := by decide +kernel
theorem dX9_bars_78 : decode cX9_bars 78 = .ok (.iinc 4 1, 3) := by decide +kernel
theorem dX9_bars_81 : decode cX9_bars 81 = .ok (.goto (-42), 3) := by decide +kernel
theorem dX9_bars_84 : decode cX9_bars 84 = .ok (.iconst (-1), 1) := by decide +kernel
theorem dX9_bars_85 : decode cX9_bars 85 = .ok (.ireturn, 1) := by decide +kernel
theorem dX9_firsts_0 : decode cX9_firsts 0 = .ok (.aload_n 0, 1) := by decide +kernel
theorem dX9_firsts_1 : decode cX9_firsts 1 = .ok (.iload_n 1, 1) := by decide +kernel
theorem dX9_firsts_2 : decode cX9_firsts 2 = .ok (.invokevirtual 263, 3) := by decide +kernel
theorem dX9_firsts_5 : decode cX9_firsts 5 = .ok (.istore_n 2, 1) := by decide +kernel
theorem dX9_firsts_6 : decode cX9_firsts 6 = .ok (.iload_n 2, 1) := by decide +kernel
theorem dX9_firsts_7 : decode cX9_firsts 7 = .ok (.ifCond .eq 7, 3) := by decide +kernel
theorem dX9_firsts_10 : decode cX9_firsts 10 = .ok (.iload_n 2, 1) := by decide +kernel
theorem dX9_firsts_11 : decode cX9_firsts 11 = .ok (.goto 13, 3) := by decide +kernel
theorem dX9_firsts_14 : decode cX9_firsts 14 = .ok (.aload_n 0, 1) := by decide +kernel
theorem dX9_firsts_15 : decode cX9_firsts 15 = .ok (.aload_n 0, 1) := by decide +kernel
theorem dX9_firsts_16 : decode cX9_firsts 16 = .ok (.getfield 46, 3) := by decide +kernel
theorem dX9_firsts_19 : decode cX9_firsts 19 = .ok (.iload_n 1, 1) := by decide +kernel
theorem dX9_firsts_20 : decode cX9_firsts 20 = .ok (.aaload, 1) := by decide +kernel
theorem dX9_firsts_21 : decode cX9_firsts 21 = .ok (.invokevirtual 266, 3) := by decide +kernel
theorem dX9_firsts_24 : decode cX9_firsts 24 = .ok (.ireturn, 1) := by decide +kernel
theorem dX9_ask_0 : decode cX9_ask 0 = .ok (.aload_n 0, 1) := by decide +kernel
theorem dX9_ask_1 : decode cX9_ask 1 = .ok (.iload_n 1, 1) := by decide +kernel
theorem dX9_ask_2 : decode cX9_ask 2 = .ok (.invokevirtual 263, 3) := by decide +kernel
theorem dX9_ask_5 : decode cX9_ask 5 = .ok (.istore_n 2, 1) := by decide +kernel
theorem dX9_ask_6 : decode cX9_ask 6 = .ok (.iload_n 2, 1) := by decide +kernel
theorem dX9_ask_7 : decode cX9_ask 7 = .ok (.ifCond .eq 7, 3) := by decide +kernel
theorem dX9_ask_10 : decode cX9_ask 10 = .ok (.iload_n 2, 1) := by decide +kernel
theorem dX9_ask_11 : decode cX9_ask 11 = .ok (.goto 17, 3) := by decide +kernel
theorem dX9_ask_14 : decode cX9_ask 14 = .ok (.aload_n 0, 1) := by decide +kernel
theorem dX9_ask_15 : decode cX9_ask 15 = .ok (.aload_n 0, 1) := by decide +kernel
theorem dX9_ask_16 : decode cX9_ask 16 = .ok (.aload_n 0, 1) := by decide +kernel
theorem dX9_ask_17 : decode cX9_ask 17 = .ok (.getfield 46, 3) := by decide +kernel
theorem dX9_ask_20 : decode cX9_ask 20 = .ok (.iload_n 1, 1) := by decide +kernel
theorem dX9_ask_21 : decode cX9_ask 21 = .ok (.aaload, 1) := by decide +kernel
theorem dX9_ask_22 : decode cX9_ask 22 = .ok (.invokevirtual 266, 3) := by decide +kernel
theorem dX9_ask_25 : decode cX9_ask 25 = .ok (.invokevirtual 270, 3) := by decide +kernel
theorem dX9_ask_28 : decode cX9_ask 28 = .ok (.ireturn, 1) := by decide +kernel
theorem dX9_leaves_0 : decode cX9_leaves 0 = .ok (.aload_n 0, 1) := by decide +kernel
theorem dX9_leaves_1 : decode cX9_leaves 1 = .ok (.iload_n 1, 1) := by decide +kernel
theorem dX9_leaves_2 : decode cX9_leaves 2 = .ok (.invokevirtual 263, 3) := by decide +kernel
theorem dX9_leaves_5 : decode cX9_leaves 5 = .ok (.istore_n 2, 1) := by decide +kernel
theorem dX9_leaves_6 : decode cX9_leaves 6 = .ok (.iload_n 2, 1) := by decide +kernel
theorem dX9_leaves_7 : decode cX9_leaves 7 = .ok (.ifCond .eq 5, 3) := by decide +kernel
theorem dX9_leaves_10 : decode cX9_leaves 10 = .ok (.iload_n 2, 1) := by decide +kernel
theorem dX9_leaves_11 : decode cX9_leaves 11 = .ok (.ireturn, 1) := by decide +kernel
theorem dX9_leaves_12 : decode cX9_leaves 12 = .ok (.aload_n 0, 1) := by decide +kernel
theorem dX9_leaves_13 : decode cX9_leaves 13 = .ok (.aload_n 0, 1) := by decide +kernel
theorem dX9_leaves_14 : decode cX9_leaves 14 = .ok (.getfield 46, 3) := by decide +kernel
theorem dX9_leaves_17 : decode cX9_leaves 17 = .ok (.iload_n 1, 1) := by decide +kernel
theorem dX9_leaves_18 : decode cX9_leaves 18 = .ok (.aaload, 1) := by decide +kernel
theorem dX9_leaves_19 : decode cX9_leaves 19 = .ok (.invokevirtual 266, 3) := by decide +kernel
theorem dX9_leaves_22 : decode cX9_leaves 22 = .ok (.istore_n 3, 1) := by decide +kernel
theorem dX9_leaves_23 : decode cX9_leaves 23 = .ok (.aload_n 0, 1) := by decide +kernel
theorem dX9_leaves_24 : decode cX9_leaves 24 = .ok (.iload_n 3, 1) := by decide +kernel
theorem dX9_leaves_25 : decode cX9_leaves 25 = .ok (.invokevirtual 270, 3) := by decide +kernel
theorem dX9_leaves_28 : decode cX9_leaves 28 = .ok (.istore 4, 2) := by decide +kernel
theorem dX9_leaves_30 : decode cX9_leaves 30 = .ok (.iload 4, 2) := by decide +kernel
theorem dX9_leaves_32 : decode cX9_leaves 32 = .ok (.iconst (-1), 1) := by decide +kernel
theorem dX9_leaves_33 : decode cX9_leaves 33 = .ok (.if_icmp .ne 10, 3) := by decide +kernel
theorem dX9_leaves_36 : decode cX9_leaves 36 = .ok (.iload_n 3, 1) := by decide +kernel
theorem dX9_leaves_37 : decode cX9_leaves 37 = .ok (.invokestatic 203, 3) := by decide +kernel
theorem dX9_leaves_40 : decode cX9_leaves 40 = .ok (.goto 10, 3) := by decide +kernel
theorem dX9_leaves_43 : decode cX9_leaves 43 = .ok (.aload_n 0, 1) := by decide +kernel
theorem dX9_leaves_44 : decode cX9_leaves 44 = .ok (.iload_n 3, 1) := by decide +kernel
theorem dX9_leaves_45 : decode cX9_leaves 45 = .ok (.iload 4, 2) := by decide +kernel
theorem dX9_leaves_47 : decode cX9_leaves 47 = .ok (.invokevirtual 273, 3) := by decide +kernel
theorem dX9_leaves_50 : decode cX9_leaves 50 = .ok (.ireturn, 1) := by decide +kernel
theorem dX9_seenFault_0 : decode cX9_seenFault 0 = .ok (.iload_n 1, 1) := by decide +kernel
theorem dX9_seenFault_1 : decode cX9_seenFault 1 = .ok (.invokestatic 276, 3) := by decide +kernel
theorem dX9_seenFault_4 : decode cX9_seenFault 4 = .ok (.ifCond .eq 13, 3) := by decide +kernel
theorem dX9_seenFault_7 : decode cX9_seenFault 7 = .ok (.aload_n 0, 1) := by decide +kernel
theorem dX9_seenFault_8 : decode cX9_seenFault 8 = .ok (.getfield 20, 3) := by decide +kernel
theorem dX9_seenFault_11 : decode cX9_seenFault 11 = .ok (.invokevirtual 184, 3) := by decide +kernel
theorem dX9_seenFault_14 : decode cX9_seenFault 14 = .ok (.ifCond .ne 6, 3) := by decide +kernel
theorem dX9_seenFault_17 : decode cX9_seenFault 17 = .ok (.bipush (-2), 2) := by decide +kernel
theorem dX9_seenFault_19 : decode cX9_seenFault 19 = .ok (.ireturn, 1) := by decide +kernel
theorem dX9_seenFault_20 : decode cX9_seenFault 20 = .ok (.aload_n 0, 1) := by decide +kernel
theorem dX9_seenFault_21 : decode cX9_seenFault 21 = .ok (.getfield 46, 3) := by decide +kernel
theorem dX9_seenFault_24 : decode cX9_seenFault 24 = .ok (.iload_n 1, 1) := by decide +kernel
theorem dX9_seenFault_25 : decode cX9_seenFault 25 = .ok (.aaload, 1) := by decide +kernel
theorem dX9_seenFault_26 : decode cX9_seenFault 26 = .ok (.astore_n 2, 1) := by decide +kernel
theorem dX9_seenFault_27 : decode cX9_seenFault 27 = .ok (.aload_n 2, 1) := by decide +kernel
theorem dX9_seenFault_28 : decode cX9_seenFault 28 = .ok (.invokevirtual 279, 3) := by decide +kernel
theorem dX9_seenFault_31 : decode cX9_seenFault 31 = .ok (.ifCond .eq 6, 3) := by decide +kernel
theorem dX9_seenFault_34 : decode cX9_seenFault 34 = .ok (.bipush (-6), 2) := by decide +kernel
theorem dX9_seenFault_36 : decode cX9_seenFault 36 = .ok (.ireturn, 1) := by decide +kernel
theorem dX9_seenFault_37 : decode cX9_seenFault 37 = .ok (.aload_n 2, 1) := by decide +kernel
theorem dX9_seenFault_38 : decode cX9_seenFault 38 = .ok (.getfield 282, 3) := by decide +kernel
theorem dX9_seenFault_41 : decode cX9_seenFault 41 = .ok (.iconst 3, 1) := by decide +kernel
theorem dX9_seenFault_42 : decode cX9_seenFault 42 = .ok (.irem, 1) := by decide +kernel
theorem dX9_seenFault_43 : decode cX9_seenFault 43 = .ok (.ifCond .eq 6, 3) := by decide +kernel
theorem dX9_seenFault_46 : decode cX9_seenFault 46 = .ok (.bipush (-2), 2) := by decide +kernel
theorem dX9_seenFault_48 : decode cX9_seenFault 48 = .ok (.ireturn, 1) := by decide +kernel
theorem dX9_seenFault_49 : decode cX9_seenFault 49 = .ok (.iconst 0, 1) := by decide +kernel
theorem dX9_seenFault_50 : decode cX9_seenFault 50 = .ok (.istore_n 3, 1) := by decide +kernel
theorem dX9_seenFault_51 : decode cX9_seenFault 51 = .ok (.iload_n 3, 1) := by decide +kernel
theorem dX9_seenFault_52 : decode cX9_seenFault 52 = .ok (.iconst 2, 1) := by decide +kernel
theorem dX9_seenFault_53 : decode cX9_seenFault 53 = .ok (.iadd, 1) := by decide +kernel
theorem dX9_seenFault_54 : decode cX9_seenFault 54 = .ok (.aload_n 2, 1) := by decide +kernel
theorem dX9_seenFault_55 : decode cX9_seenFault 55 = .ok (.getfield 282, 3) := by decide +kernel
theorem dX9_seenFault_58 : decode cX9_seenFault 58 = .ok (.if_icmp .ge 38, 3) := by decide +kernel
theorem dX9_seenFault_61 : decode cX9_seenFault 61 = .ok (.aload_n 0, 1) := by decide +kernel
theorem dX9_seenFault_62 : decode cX9_seenFault 62 = .ok (.aload_n 2, 1) := by decide +kernel
theorem dX9_seenFault_63 : decode cX9_seenFault 63 = .ok (.iload_n 3, 1) := by decide +kernel
theorem dX9_seenFault_64 : decode cX9_seenFault 64 = .ok (.invokevirtual 285, 3) := by decide +kernel
theorem dX9_seenFault_67 : decode cX9_seenFault 67 = .ok (.aload_n 2, 1) := by decide +kernel
theorem dX9_seenFault_68 : decode cX9_seenFault 68 = .ok (.iload_n 3, 1) := by decide +kernel
theorem dX9_seenFault_69 : decode cX9_seenFault 69 = .ok (.iconst 1, 1) := by decide +kernel
theorem dX9_seenFault_70 : decode cX9_seenFault 70 = .ok (.iadd, 1) := by decide +kernel
theorem dX9_seenFault_71 : decode cX9_seenFault 71 = .ok (.invokevirtual 285, 3) := by decide +kernel
theorem dX9_seenFault_74 : decode cX9_seenFault 74 = .ok (.aload_n 2, 1) := by decide +kernel
theorem dX9_seenFault_75 : decode cX9_seenFault 75 = .ok (.iload_n 3, 1) := by decide +kernel
theorem dX9_seenFault_76 : decode cX9_seenFault 76 = .ok (.iconst 2, 1) := by decide +kernel
theorem dX9_seenFault_77 : decode cX9_seenFault 77 = .ok (.iadd, 1) := by decide +kernel
theorem dX9_seenFault_78 : decode cX9_seenFault 78 = .ok (.invokevirtual 285, 3) := by decide +kernel
theorem dX9_seenFault_81 : decode cX9_seenFault 81 = .ok (.invokevirtual 288, 3) := by decide +kernel
theorem dX9_seenFault_84 : decode cX9_seenFault 84 = .ok (.ifCond .ne 6, 3) := by decide +kernel
theorem dX9_seenFault_87 : decode cX9_seenFault 87 = .ok (.bipush (-2), 2) := by decide +kernel
theorem dX9_seenFault_89 : decode cX9_seenFault 89 = .ok (.ireturn, 1) := by decide +kernel
theorem dX9_seenFault_90 : decode cX9_seenFault 90 = .ok (.iinc 3 3, 3) := by decide +kernel
theorem dX9_seenFault_93 : decode cX9_seenFault 93 = .ok (.goto (-42), 3) := by decide +kernel
theorem dX9_seenFault_96 : decode cX9_seenFault 96 = .ok (.iconst 0, 1) := by decide +kernel
theorem dX9_seenFault_97 : decode cX9_seenFault 97 = .ok (.ireturn, 1) := by decide +kernel
theorem dX9_isSighting_0 : decode cX9_isSighting 0 = .ok (.lload_n 1, 1) := by decide +kernel
theorem dX9_isSighting_1 : decode cX9_isSighting 1 = .ok (.lconst 0, 1) := by decide +kernel
theorem dX9_isSighting_2 : decode cX9_isSighting 2 = .ok (.lcmp, 1) := by decide +kernel
theorem dX9_isSighting_3 : decode cX9_isSighting 3 = .ok (.ifCond .lt 56, 3) := by decide +kernel
theorem dX9_isSighting_6 : decode cX9_isSighting 6 = .ok (.lload_n 1, 1) := by decide +kernel
theorem dX9_isSighting_7 : decode cX9_isSighting 7 = .ok (.aload_n 0, 1) := by decide +kernel
theorem dX9_isSighting_8 : decode cX9_isSighting 8 = .ok (.getfield 20, 3) := by decide +kernel
theorem dX9_isSighting_11 : decode cX9_isSighting 11 = .ok (.getfield 133, 3) := by decide +kernel
theorem dX9_isSighting_14 : decode cX9_isSighting 14 = .ok (.getfield 200, 3) := by decide +kernel
theorem dX9_isSighting_17 : decode cX9_isSighting 17 = .ok (.i2l, 1) := by decide +kernel
theorem dX9_isSighting_18 : decode cX9_isSighting 18 = .ok (.lcmp, 1) := by decide +kernel
theorem dX9_isSighting_19 : decode cX9_isSighting 19 = .ok (.ifCond .ge 40, 3) := by decide +kernel
theorem dX9_isSighting_22 : decode cX9_isSighting 22 = .ok (.lload_n 3, 1) := by decide +kernel
theorem dX9_isSighting_23 : decode cX9_isSighting 23 = .ok (.lconst 0, 1) := by decide +kernel
theorem dX9_isSighting_24 : decode cX9_isSighting 24 = .ok (.lcmp, 1) := by decide +kernel
theorem dX9_isSighting_25 : decode cX9_isSighting 25 = .ok (.ifCond .lt 34, 3) := by decide +kernel
theorem dX9_isSighting_28 : decode cX9_isSighting 28 = .ok (.lload_n 3, 1) := by decide +kernel
theorem dX9_isSighting_29 : decode cX9_isSighting 29 = .ok (.aload_n 0, 1) := by decide +kernel
theorem dX9_isSighting_30 : decode cX9_isSighting 30 = .ok (.getfield 20, 3) := by decide +kernel
theorem dX9_isSighting_33 : decode cX9_isSighting 33 = .ok (.getfield 169, 3) := by decide +kernel
theorem dX9_isSighting_36 : decode cX9_isSighting 36 = .ok (.i2l, 1) := by decide +kernel
theorem dX9_isSighting_37 : decode cX9_isSighting 37 = .ok (.lcmp, 1) := by decide +kernel
theorem dX9_isSighting_38 : decode cX9_isSighting 38 = .ok (.ifCond .gt 21, 3) := by decide +kernel
theorem dX9_isSighting_41 : decode cX9_isSighting 41 = .ok (.lload 5, 2) := by decide +kernel
theorem dX9_isSighting_43 : decode cX9_isSighting 43 = .ok (.lconst 0, 1) := by decide +kernel
theorem dX9_isSighting_44 : decode cX9_isSighting 44 = .ok (.lcmp, 1) := by decide +kernel
theorem dX9_isSighting_45 : decode cX9_isSighting 45 = .ok (.ifCond .eq 10, 3) := by decide +kernel
theorem dX9_isSighting_48 : decode cX9_isSighting 48 = .ok (.lload 5, 2) := by decide +kernel
theorem dX9_isSighting_50 : decode cX9_isSighting 50 = .ok (.lconst 1, 1) := by decide +kernel
theorem dX9_isSighting_51 : decode cX9_isSighting 51 = .ok (.lcmp, 1) := by decide +kernel
theorem dX9_isSighting_52 : decode cX9_isSighting 52 = .ok (.ifCond .ne 7, 3) := by decide +kernel
theorem dX9_isSighting_55 : decode cX9_isSighting 55 = .ok (.iconst 1, 1) := by decide +kernel
theorem dX9_isSighting_56 : decode cX9_isSighting 56 = .ok (.goto 4, 3) := by decide +kernel
theorem dX9_isSighting_59 : decode cX9_isSighting 59 = .ok (.iconst 0, 1) := by decide +kernel
theorem dX9_isSighting_60 : decode cX9_isSighting 60 = .ok (.ireturn, 1) := by decide +kernel
theorem dX9_possibleFirsts_0 : decode cX9_possibleFirsts 0 = .ok (.aload_n 0, 1) := by decide +kernel
theorem dX9_possibleFirsts_1 : decode cX9_possibleFirsts 1 = .ok (.invokevirtual 227, 3) := by decide +kernel
theorem dX9_possibleFirsts_4 : decode cX9_possibleFirsts 4 = .ok (.iconst 0, 1) := by decide +kernel
theorem dX9_possibleFirsts_5 : decode cX9_possibleFirsts 5 = .ok (.istore_n 2, 1) := by decide +kernel
theorem dX9_possibleFirsts_6 : decode cX9_possibleFirsts 6 = .ok (.iconst 0, 1) := by decide +kernel
theorem dX9_possibleFirsts_7 : decode cX9_possibleFirsts 7 = .ok (.istore_n 3, 1) := by decide +kernel
theorem dX9_possibleFirsts_8 : decode cX9_possibleFirsts 8 = .ok (.iload_n 3, 1) := by decide +kernel
theorem dX9_possibleFirsts_9 : decode cX9_possibleFirsts 9 = .ok (.aload_n 0, 1) := by decide +kernel
theorem dX9_possibleFirsts_10 : decode cX9_possibleFirsts 10 = .ok (.getfield 20, 3) := by decide +kernel
theorem dX9_possibleFirsts_13 : decode cX9_possibleFirsts 13 = .ok (.getfield 133, 3) := by decide +kernel
theorem dX9_possibleFirsts_16 : decode cX9_possibleFirsts 16 = .ok (.getfield 200, 3) := by decide +kernel
theorem dX9_possibleFirsts_19 : decode cX9_possibleFirsts 19 = .ok (.if_icmp .ge 36, 3) := by decide +kernel
theorem dX9_possibleFirsts_22 : decode cX9_possibleFirsts 22 = .ok (.aload_n 0, 1) := by decide +kernel
theorem dX9_possibleFirsts_23 : decode cX9_possibleFirsts 23 = .ok (.getfield 64, 3) := by decide +kernel
theorem dX9_possibleFirsts_26 : decode cX9_possibleFirsts 26 = .ok (.aload_n 0, 1) := by decide +kernel
theorem dX9_possibleFirsts_27 : decode cX9_possibleFirsts 27 = .ok (.getfield 54, 3) := by decide +kernel
theorem dX9_possibleFirsts_30 : decode cX9_possibleFirsts 30 = .ok (.iload_n 3, 1) := by decide +kernel
theorem dX9_possibleFirsts_31 : decode cX9_possibleFirsts 31 = .ok (.iconst 0, 1) := by decide +kernel
theorem dX9_possibleFirsts_32 : decode cX9_possibleFirsts 32 = .ok (.invokevirtual 220, 3) := by decide +kernel
theorem dX9_possibleFirsts_35 : decode cX9_possibleFirsts 35 = .ok (.aload_n 0, 1) := by decide +kernel
theorem dX9_possibleFirsts_36 : decode cX9_possibleFirsts 36 = .ok (.aload_n 1, 1) := by decide +kernel
theorem dX9_possibleFirsts_37 : decode cX9_possibleFirsts 37 = .ok (.invokevirtual 292, 3) := by decide +kernel
theorem dX9_possibleFirsts_40 : decode cX9_possibleFirsts 40 = .ok (.ifCond .eq 9, 3) := by decide +kernel
theorem dX9_possibleFirsts_43 : decode cX9_possibleFirsts 43 = .ok (.iload_n 2, 1) := by decide +kernel
theorem dX9_possibleFirsts_44 : decode cX9_possibleFirsts 44 = .ok (.iconst 1, 1) := by decide +kernel
theorem dX9_possibleFirsts_45 : decode cX9_possibleFirsts 45 = .ok (.iload_n 3, 1) := by decide +kernel
theorem dX9_possibleFirsts_46 : decode cX9_possibleFirsts 46 = .ok (.ishl, 1) := by decide +kernel
theorem dX9_possibleFirsts_47 : decode cX9_possibleFirsts 47 = .ok (.ior, 1) := by decide +kernel
theorem dX9_possibleFirsts_48 : decode cX9_possibleFirsts 48 = .ok (.istore_n 2, 1) := by decide +kernel
theorem dX9_possibleFirsts_49 : decode cX9_possibleFirsts 49 = .ok (.iinc 3 1, 3) := by decide +kernel
theorem dX9_possibleFirsts_52 : decode cX9_possibleFirsts 52 = .ok (.goto (-44), 3) := by decide +kernel
theorem dX9_possibleFirsts_55 : decode cX9_possibleFirsts 55 = .ok (.iload_n 2, 1) := by decide +kernel
theorem dX9_possibleFirsts_56 : decode cX9_possibleFirsts 56 = .ok (.ireturn, 1) := by decide +kernel
theorem dX9_agrees_0 : decode cX9_agrees 0 = .ok (.iconst 0, 1) := by decide +kernel
theorem dX9_agrees_1 : decode cX9_agrees 1 = .ok (.istore_n 2, 1) := by decide +kernel
theorem dX9_agrees_2 : decode cX9_agrees 2 = .ok (.iload_n 2, 1) := by decide +kernel
theorem dX9_agrees_3 : decode cX9_agrees 3 = .ok (.iconst 2, 1) := by decide +kernel
theorem dX9_agrees_4 : decode cX9_agrees 4 = .ok (.iadd, 1) := by decide +kernel
theorem dX9_agrees_5 : decode cX9_agrees 5 = .ok (.aload_n 1, 1) := by decide +kernel
theorem dX9_agrees_6 : decode cX9_agrees 6 = .ok (.getfield 282, 3) := by decide +kernel
theorem dX9_agrees_9 : decode cX9_agrees 9 = .ok (.if_icmp .ge 57, 3) := by decide +kernel
theorem dX9_agrees_12 : decode cX9_agrees 12 = .ok (.aload_n 0, 1) := by decide +kernel
theorem dX9_agrees_13 : decode cX9_agrees 13 = .ok (.getfield 64, 3) := by decide +kernel
theorem dX9_agrees_16 : decode cX9_agrees 16 = .ok (.aload_n 1, 1) := by decide +kernel
theorem dX9_agrees_17 : decode cX9_agrees 17 = .ok (.iload_n 2, 1) := by decide +kernel
theorem dX9_agrees_18 : decode cX9_agrees 18 = .ok (.iconst 1, 1) := by decide +kernel
theorem dX9_agrees_19 : decode cX9_agrees 19 = .ok (.iadd, 1) := by decide +kernel
theorem dX9_agrees_20 : decode cX9_agrees 20 = .ok (.invokevirtual 285, 3) := by decide +kernel
theorem dX9_agrees_23 : decode cX9_agrees 23 = .ok (.l2i, 1) := by decide +kernel
theorem dX9_agrees_24 : decode cX9_agrees 24 = .ok (.invokevirtual 224, 3) := by decide +kernel
theorem dX9_agrees_27 : decode cX9_agrees 27 = .ok (.istore_n 3, 1) := by decide +kernel
theorem dX9_agrees_28 : decode cX9_agrees 28 = .ok (.iload_n 3, 1) := by decide +kernel
theorem dX9_agrees_29 : decode cX9_agrees 29 = .ok (.aload_n 1, 1) := by decide +kernel
theorem dX9_agrees_30 : decode cX9_agrees 30 = .ok (.iload_n 2, 1) := by decide +kernel
theorem dX9_agrees_31 : decode cX9_agrees 31 = .ok (.invokevirtual 285, 3) := by decide +kernel
theorem dX9_agrees_34 : decode cX9_agrees 34 = .ok (.l2i, 1) := by decide +kernel
theorem dX9_agrees_35 : decode cX9_agrees 35 = .ok (.invokestatic 175, 3) := by decide +kernel
theorem dX9_agrees_38 : decode cX9_agrees 38 = .ok (.aload_n 1, 1) := by decide +kernel
theorem dX9_agrees_39 : decode cX9_agrees 39 = .ok (.iload_n 2, 1) := by decide +kernel
theorem dX9_agrees_40 : decode cX9_agrees 40 = .ok (.iconst 2, 1) := by decide +kernel
theorem dX9_agrees_41 : decode cX9_agrees 41 = .ok (.iadd, 1) := by decide +kernel
theorem dX9_agrees_42 : decode cX9_agrees 42 = .ok (.invokevirtual 285, 3) := by decide +kernel
theorem dX9_agrees_45 : decode cX9_agrees 45 = .ok (.lconst 1, 1) := by decide +kernel
theorem dX9_agrees_46 : decode cX9_agrees 46 = .ok (.lcmp, 1) := by decide +kernel
theorem dX9_agrees_47 : decode cX9_agrees 47 = .ok (.ifCond .ne 7, 3) := by decide +kernel
theorem dX9_agrees_50 : decode cX9_agrees 50 = .ok (.iconst 1, 1) := by decide +kernel
theorem dX9_agrees_51 : decode cX9_agrees 51 = .ok (.goto 4, 3) := by decide +kernel
theorem dX9_agrees_54 : decode cX9_agrees 54 = .ok (.iconst 0, 1) := by decide +kernel
theorem dX9_agrees_55 : decode cX9_agrees 55 = .ok (.if_icmp .eq 5, 3) := by decide +kernel
theorem dX9_agrees_58 : decode cX9_agrees 58 = .ok (.iconst 0, 1) := by decide +kernel
theorem dX9_agrees_59 : decode cX9_agrees 59 = .ok (.ireturn, 1) := by decide +kernel
theorem dX9_agrees_60 : decode cX9_agrees 60 = .ok (.iinc 2 3, 3) := by decide +kernel
theorem dX9_agrees_63 : decode cX9_agrees 63 = .ok (.goto (-61), 3) := by decide +kernel
theorem dX9_agrees_66 : decode cX9_agrees 66 = .ok (.iconst 1, 1) := by decide +kernel
theorem dX9_agrees_67 : decode cX9_agrees 67 = .ok (.ireturn, 1) := by decide +kernel
theorem dX9_bestAsked_0 : decode cX9_bestAsked 0 = .ok (.iconst (-1), 1) := by decide +kernel
theorem dX9_bestAsked_1 : decode cX9_bestAsked 1 = .ok (.istore_n 2, 1) := by decide +kernel
theorem dX9_bestAsked_2 : decode cX9_bestAsked 2 = .ok (.iload_n 1, 1) := by decide +kernel
theorem dX9_bestAsked_3 : decode cX9_bestAsked 3 = .ok (.invokestatic 203, 3) := by decide +kernel
theorem dX9_bestAsked_6 : decode cX9_bestAsked 6 = .ok (.istore_n 3, 1) := by decide +kernel
theorem dX9_bestAsked_7 : decode cX9_bestAsked 7 = .ok (.iconst 0, 1) := by decide +kernel
theorem dX9_bestAsked_8 : decode cX9_bestAsked 8 = .ok (.istore 4, 2) := by decide +kernel
theorem dX9_bestAsked_10 : decode cX9_bestAsked 10 = .ok (.iload 4, 2) := by decide +kernel
theorem dX9_bestAsked_12 : decode cX9_bestAsked 12 = .ok (.aload_n 0, 1) := by decide +kernel
theorem dX9_bestAsked_13 : decode cX9_bestAsked 13 = .ok (.getfield 20, 3) := by decide +kernel
theorem dX9_bestAsked_16 : decode cX9_bestAsked 16 = .ok (.getfield 133, 3) := by decide +kernel
theorem dX9_bestAsked_19 : decode cX9_bestAsked 19 = .ok (.getfield 200, 3) := by decide +kernel
theorem dX9_bestAsked_22 : decode cX9_bestAsked 22 = .ok (.if_icmp .ge 30, 3) := by decide +kernel
theorem dX9_bestAsked_25 : decode cX9_bestAsked 25 = .ok (.aload_n 0, 1) := by decide +kernel
theorem dX9_bestAsked_26 : decode cX9_bestAsked 26 = .ok (.iload_n 1, 1) := by decide +kernel
theorem dX9_bestAsked_27 : decode cX9_bestAsked 27 = .ok (.iload 4, 2) := by decide +kernel
theorem dX9_bestAsked_29 : decode cX9_bestAsked 29 = .ok (.invokevirtual 273, 3) := by decide +kernel
theorem dX9_bestAsked_32 : decode cX9_bestAsked 32 = .ok (.istore 5, 2) := by decide +kernel
theorem dX9_bestAsked_34 : decode cX9_bestAsked 34 = .ok (.iload 5, 2) := by decide +kernel
theorem dX9_bestAsked_36 : decode cX9_bestAsked 36 = .ok (.iload_n 3, 1) := by decide +kernel
theorem dX9_bestAsked_37 : decode cX9_bestAsked 37 = .ok (.if_icmp .ge 9, 3) := by decide +kernel
theorem dX9_bestAsked_40 : decode cX9_bestAsked 40 = .ok (.iload 5, 2) := by decide +kernel
theorem dX9_bestAsked_42 : decode cX9_bestAsked 42 = .ok (.istore_n 3, 1) := by decide +kernel
theorem dX9_bestAsked_43 : decode cX9_bestAsked 43 = .ok (.iload 4, 2) := by decide +kernel
theorem dX9_bestAsked_45 : decode cX9_bestAsked 45 = .ok (.istore_n 2, 1) := by decide +kernel
theorem dX9_bestAsked_46 : decode cX9_bestAsked 46 = .ok (.iinc 4 1, 3) := by decide +kernel
theorem dX9_bestAsked_49 : decode cX9_bestAsked 49 = .ok (.goto (-39), 3) := by decide +kernel
theorem dX9_bestAsked_52 : decode cX9_bestAsked 52 = .ok (.iload_n 2, 1) := by decide +kernel
theorem dX9_bestAsked_53 : decode cX9_bestAsked 53 = .ok (.ireturn, 1) := by decide +kernel
theorem dX9_leftAtWorst_0 : decode cX9_leftAtWorst 0 = .ok (.aload_n 0, 1) := by decide +kernel
theorem dX9_leftAtWorst_1 : decode cX9_leftAtWorst 1 = .ok (.getfield 89, 3) := by decide +kernel
theorem dX9_leftAtWorst_4 : decode cX9_leftAtWorst 4 = .ok (.iconst 0, 1) := by decide +kernel
theorem dX9_leftAtWorst_5 : decode cX9_leftAtWorst 5 = .ok (.invokestatic 296, 3) := by decide +kernel
theorem dX9_leftAtWorst_8 : decode cX9_leftAtWorst 8 = .ok (.iconst 0, 1) := by decide +kernel
theorem dX9_leftAtWorst_9 : decode cX9_leftAtWorst 9 = .ok (.istore_n 3, 1) := by decide +kernel
theorem dX9_leftAtWorst_10 : decode cX9_leftAtWorst 10 = .ok (.iconst 0, 1) := by decide +kernel
theorem dX9_leftAtWorst_11 : decode cX9_leftAtWorst 11 = .ok (.istore 4, 2) := by decide +kernel
theorem dX9_leftAtWorst_13 : decode cX9_leftAtWorst 13 = .ok (.iload 4, 2) := by decide +kernel
theorem dX9_leftAtWorst_15 : decode cX9_leftAtWorst 15 = .ok (.aload_n 0, 1) := by decide +kernel
theorem dX9_leftAtWorst_16 : decode cX9_leftAtWorst 16 = .ok (.getfield 20, 3) := by decide +kernel
theorem dX9_leftAtWorst_19 : decode cX9_leftAtWorst 19 = .ok (.getfield 133, 3) := by decide +kernel
theorem dX9_leftAtWorst_22 : decode cX9_leftAtWorst 22 = .ok (.getfield 200, 3) := by decide +kernel
theorem dX9_leftAtWorst_25 : decode cX9_leftAtWorst 25 = .ok (.if_icmp .ge 67, 3) := by decide +kernel
theorem dX9_leftAtWorst_28 : decode cX9_leftAtWorst 28 = .ok (.iload_n 1, 1) := by decide +kernel
theorem dX9_leftAtWorst_29 : decode cX9_leftAtWorst 29 = .ok (.iload 4, 2) := by decide +kernel
theorem dX9_leftAtWorst_31 : decode cX9_leftAtWorst 31 = .ok (.invokestatic 175, 3) := by decide +kernel
theorem dX9_leftAtWorst_34 : decode cX9_leftAtWorst 34 = .ok (.ifCond .eq 52, 3) := by decide +kernel
theorem dX9_leftAtWorst_37 : decode cX9_leftAtWorst 37 = .ok (.aload_n 0, 1) := by decide +kernel
theorem dX9_leftAtWorst_38 : decode cX9_leftAtWorst 38 = .ok (.getfield 64, 3) := by decide +kernel
theorem dX9_leftAtWorst_41 : decode cX9_leftAtWorst 41 = .ok (.aload_n 0, 1) := by decide +kernel
theorem dX9_leftAtWorst_42 : decode cX9_leftAtWorst 42 = .ok (.getfield 54, 3) := by decide +kernel
theorem dX9_leftAtWorst_45 : decode cX9_leftAtWorst 45 = .ok (.iload 4, 2) := by decide +kernel
theorem dX9_leftAtWorst_47 : decode cX9_leftAtWorst 47 = .ok (.iconst 0, 1) := by decide +kernel
theorem dX9_leftAtWorst_48 : decode cX9_leftAtWorst 48 = .ok (.invokevirtual 220, 3) := by decide +kernel
theorem dX9_leftAtWorst_51 : decode cX9_leftAtWorst 51 = .ok (.aload_n 0, 1) := by decide +kernel
theorem dX9_leftAtWorst_52 : decode cX9_leftAtWorst 52 = .ok (.getfield 64, 3) := by decide +kernel
theorem dX9_leftAtWorst_55 : decode cX9_leftAtWorst 55 = .ok (.iload_n 2, 1) := by decide +kernel
theorem dX9_leftAtWorst_56 : decode cX9_leftAtWorst 56 = .ok (.invokevirtual 237, 3) := by decide +kernel
theorem dX9_leftAtWorst_59 : decode cX9_leftAtWorst 59 = .ok (.iconst 1, 1) := by decide +kernel
theorem dX9_leftAtWorst_60 : decode cX9_leftAtWorst 60 = .ok (.iadd, 1) := by decide +kernel
theorem dX9_leftAtWorst_61 : decode cX9_leftAtWorst 61 = .ok (.istore 5, 2) := by decide +kernel
theorem dX9_leftAtWorst_63 : decode cX9_leftAtWorst 63 = .ok (.aload_n 0, 1) := by decide +kernel
theorem dX9_leftAtWorst_64 : decode cX9_leftAtWorst 64 = .ok (.getfield 89, 3) := by decide +kernel
theorem dX9_leftAtWorst_67 : decode cX9_leftAtWorst 67 = .ok (.iload 5, 2) := by decide +kernel
theorem dX9_leftAtWorst_69 : decode cX9_leftAtWorst 69 = .ok (.dup2, 1) := by decide +kernel
theorem dX9_leftAtWorst_70 : decode cX9_leftAtWorst 70 = .ok (.iaload, 1) := by decide +kernel
theorem dX9_leftAtWorst_71 : decode cX9_leftAtWorst 71 = .ok (.iconst 1, 1) := by decide +kernel
theorem dX9_leftAtWorst_72 : decode cX9_leftAtWorst 72 = .ok (.iadd, 1) := by decide +kernel
theorem dX9_leftAtWorst_73 : decode cX9_leftAtWorst 73 = .ok (.iastore, 1) := by decide +kernel
theorem dX9_leftAtWorst_74 : decode cX9_leftAtWorst 74 = .ok (.iload_n 3, 1) := by decide +kernel
theorem dX9_leftAtWorst_75 : decode cX9_leftAtWorst 75 = .ok (.aload_n 0, 1) := by decide +kernel
theorem dX9_leftAtWorst_76 : decode cX9_leftAtWorst 76 = .ok (.getfield 89, 3) := by decide +kernel
theorem dX9_leftAtWorst_79 : decode cX9_leftAtWorst 79 = .ok (.iload 5, 2) := by decide +kernel
theorem dX9_leftAtWorst_81 : decode cX9_leftAtWorst 81 = .ok (.iaload, 1) := by decide +kernel
theorem dX9_leftAtWorst_82 : decode cX9_leftAtWorst 82 = .ok (.invokestatic 191, 3) := by decide +kernel
theorem dX9_leftAtWorst_85 : decode cX9_leftAtWorst 85 = .ok (.istore_n 3, 1) := by decide +kernel
theorem dX9_leftAtWorst_86 : decode cX9_leftAtWorst 86 = .ok (.iinc 4 1, 3) := by decide +kernel
theorem dX9_leftAtWorst_89 : decode cX9_leftAtWorst 89 = .ok (.goto (-76), 3) := by decide +kernel
theorem dX9_leftAtWorst_92 : decode cX9_leftAtWorst 92 = .ok (.iload_n 3, 1) := by decide +kernel
theorem dX9_leftAtWorst_93 : decode cX9_leftAtWorst 93 = .ok (.ireturn, 1) := by decide +kernel
theorem dX9_seats_0 : decode cX9_seats 0 = .ok (.aload_n 0, 1) := by decide +kernel
theorem dX9_seats_1 : decode cX9_seats 1 = .ok (.getfield 20, 3) := by decide +kernel
theorem dX9_seats_4 : decode cX9_seats 4 = .ok (.iload_n 1, 1) := by decide +kernel
theorem dX9_seats_5 : decode cX9_seats 5 = .ok (.invokevirtual 139, 3) := by decide +kernel
theorem dX9_seats_8 : decode cX9_seats 8 = .ok (.ifCond .eq 14, 3) := by decide +kernel
theorem dX9_seats_11 : decode cX9_seats 11 = .ok (.aload_n 0, 1) := by decide +kernel
theorem dX9_seats_12 : decode cX9_seats 12 = .ok (.getfield 20, 3) := by decide +kernel
theorem dX9_seats_15 : decode cX9_seats 15 = .ok (.iload_n 1, 1) := by decide +kernel
theorem dX9_seats_16 : decode cX9_seats 16 = .ok (.invokevirtual 302, 3) := by decide +kernel
theorem dX9_seats_19 : decode cX9_seats 19 = .ok (.goto 5, 3) := by decide +kernel
theorem dX9_seats_22 : decode cX9_seats 22 = .ok (.bipush (-2), 2) := by decide +kernel
theorem dX9_seats_24 : decode cX9_seats 24 = .ok (.ireturn, 1) := by decide +kernel
theorem dX9_under_0 : decode cX9_under 0 = .ok (.aload_n 0, 1) := by decide +kernel
theorem dX9_under_1 : decode cX9_under 1 = .ok (.getfield 20, 3) := by decide +kernel
theorem dX9_under_4 : decode cX9_under 4 = .ok (.iload_n 1, 1) := by decide +kernel
theorem dX9_under_5 : decode cX9_under 5 = .ok (.invokevirtual 139, 3) := by decide +kernel
theorem dX9_under_8 : decode cX9_under 8 = .ok (.ifCond .eq 14, 3) := by decide +kernel
theorem dX9_under_11 : decode cX9_under 11 = .ok (.aload_n 0, 1) := by decide +kernel
theorem dX9_under_12 : decode cX9_under 12 = .ok (.getfield 20, 3) := by decide +kernel
theorem dX9_under_15 : decode cX9_under 15 = .ok (.iload_n 1, 1) := by decide +kernel
theorem dX9_under_16 : decode cX9_under 16 = .ok (.invokevirtual 305, 3) := by decide +kernel
theorem dX9_under_19 : decode cX9_under 19 = .ok (.goto 5, 3) := by decide +kernel
theorem dX9_under_22 : decode cX9_under 22 = .ok (.bipush (-2), 2) := by decide +kernel
theorem dX9_under_24 : decode cX9_under 24 = .ok (.ireturn, 1) := by decide +kernel
theorem dX9_holds_0 : decode cX9_holds 0 = .ok (.aload_n 0, 1) := by decide +kernel
theorem dX9_holds_1 : decode cX9_holds 1 = .ok (.getfield 20, 3) := by decide +kernel
theorem dX9_holds_4 : decode cX9_holds 4 = .ok (.iload_n 1, 1) := by decide +kernel
theorem dX9_holds_5 : decode cX9_holds 5 = .ok (.invokevirtual 308, 3) := by decide +kernel
theorem dX9_holds_8 : decode cX9_holds 8 = .ok (.ifCond .ne 6, 3) := by decide +kernel
theorem dX9_holds_11 : decode cX9_holds 11 = .ok (.bipush (-2), 2) := by decide +kernel
theorem dX9_holds_13 : decode cX9_holds 13 = .ok (.ireturn, 1) := by decide +kernel
theorem dX9_holds_14 : decode cX9_holds 14 = .ok (.aload_n 0, 1) := by decide +kernel
theorem dX9_holds_15 : decode cX9_holds 15 = .ok (.getfield 78, 3) := by decide +kernel
theorem dX9_holds_18 : decode cX9_holds 18 = .ok (.aload_n 0, 1) := by decide +kernel
theorem dX9_holds_19 : decode cX9_holds 19 = .ok (.getfield 20, 3) := by decide +kernel
theorem dX9_holds_22 : decode cX9_holds 22 = .ok (.invokevirtual 311, 3) := by decide +kernel
theorem dX9_holds_25 : decode cX9_holds 25 = .ok (.aload_n 0, 1) := by decide +kernel
theorem dX9_holds_26 : decode cX9_holds 26 = .ok (.getfield 78, 3) := by decide +kernel
theorem dX9_holds_29 : decode cX9_holds 29 = .ok (.iload_n 1, 1) := by decide +kernel
theorem dX9_holds_30 : decode cX9_holds 30 = .ok (.invokevirtual 314, 3) := by decide +kernel
theorem dX9_holds_33 : decode cX9_holds 33 = .ok (.ifCond .eq 7, 3) := by decide +kernel
theorem dX9_holds_36 : decode cX9_holds 36 = .ok (.iconst 1, 1) := by decide +kernel
theorem dX9_holds_37 : decode cX9_holds 37 = .ok (.goto 4, 3) := by decide +kernel
theorem dX9_holds_40 : decode cX9_holds 40 = .ok (.iconst 0, 1) := by decide +kernel
theorem dX9_holds_41 : decode cX9_holds 41 = .ok (.ireturn, 1) := by decide +kernel
theorem dX9_blocks_0 : decode cX9_blocks 0 = .ok (.aload_n 0, 1) := by decide +kernel
theorem dX9_blocks_1 : decode cX9_blocks 1 = .ok (.getfield 20, 3) := by decide +kernel
theorem dX9_blocks_4 : decode cX9_blocks 4 = .ok (.iload_n 1, 1) := by decide +kernel
theorem dX9_blocks_5 : decode cX9_blocks 5 = .ok (.invokevirtual 308, 3) := by decide +kernel
theorem dX9_blocks_8 : decode cX9_blocks 8 = .ok (.ifCond .ne 6, 3) := by decide +kernel
theorem dX9_blocks_11 : decode cX9_blocks 11 = .ok (.bipush (-2), 2) := by decide +kernel
theorem dX9_blocks_13 : decode cX9_blocks 13 = .ok (.ireturn, 1) := by decide +kernel
theorem dX9_blocks_14 : decode cX9_blocks 14 = .ok (.aload_n 0, 1) := by decide +kernel
theorem dX9_blocks_15 : decode cX9_blocks 15 = .ok (.getfield 78, 3) := by decide +kernel
theorem dX9_blocks_18 : decode cX9_blocks 18 = .ok (.aload_n 0, 1) := by decide +kernel
theorem dX9_blocks_19 : decode cX9_blocks 19 = .ok (.getfield 20, 3) := by decide +kernel
theorem dX9_blocks_22 : decode cX9_blocks 22 = .ok (.invokevirtual 311, 3) := by decide +kernel
theorem dX9_blocks_25 : decode cX9_blocks 25 = .ok (.aload_n 0, 1) := by decide +kernel
theorem dX9_blocks_26 : decode cX9_blocks 26 = .ok (.getfield 78, 3) := by decide +kernel
theorem dX9_blocks_29 : decode cX9_blocks 29 = .ok (.aload_n 0, 1) := by decide +kernel
theorem dX9_blocks_30 : decode cX9_blocks 30 = .ok (.getfield 20, 3) := by decide +kernel
theorem dX9_blocks_33 : decode cX9_blocks 33 = .ok (.invokevirtual 240, 3) := by decide +kernel
theorem dX9_blocks_36 : decode cX9_blocks 36 = .ok (.iload_n 1, 1) := by decide +kernel
theorem dX9_blocks_37 : decode cX9_blocks 37 = .ok (.iconst (-1), 1) := by decide +kernel
theorem dX9_blocks_38 : decode cX9_blocks 38 = .ok (.ixor, 1) := by decide +kernel
theorem dX9_blocks_39 : decode cX9_blocks 39 = .ok (.iand, 1) := by decide +kernel
theorem dX9_blocks_40 : decode cX9_blocks 40 = .ok (.invokevirtual 314, 3) := by decide +kernel
theorem dX9_blocks_43 : decode cX9_blocks 43 = .ok (.ifCond .eq 7, 3) := by decide +kernel
theorem dX9_blocks_46 : decode cX9_blocks 46 = .ok (.iconst 0, 1) := by decide +kernel
theorem dX9_blocks_47 : decode cX9_blocks 47 = .ok (.goto 4, 3) := by decide +kernel
theorem dX9_blocks_50 : decode cX9_blocks 50 = .ok (.iconst 1, 1) := by decide +kernel
theorem dX9_blocks_51 : decode cX9_blocks 51 = .ok (.ireturn, 1) := by decide +kernel
theorem dX9_power_0 : decode cX9_power 0 = .ok (.aload_n 0, 1) := by decide +kernel
theorem dX9_power_1 : decode cX9_power 1 = .ok (.getfield 20, 3) := by decide +kernel
theorem dX9_power_4 : decode cX9_power 4 = .ok (.iload_n 1, 1) := by decide +kernel
theorem dX9_power_5 : decode cX9_power 5 = .ok (.invokevirtual 139, 3) := by decide +kernel
theorem dX9_power_8 : decode cX9_power 8 = .ok (.ifCond .ne 6, 3) := by decide +kernel
theorem dX9_power_11 : decode cX9_power 11 = .ok (.bipush (-2), 2) := by decide +kernel
theorem dX9_power_13 : decode cX9_power 13 = .ok (.ireturn, 1) := by decide +kernel
theorem dX9_power_14 : decode cX9_power 14 = .ok (.aload_n 0, 1) := by decide +kernel
theorem dX9_power_15 : decode cX9_power 15 = .ok (.getfield 78, 3) := by decide +kernel
theorem dX9_power_18 : decode cX9_power 18 = .ok (.aload_n 0, 1) := by decide +kernel
theorem dX9_power_19 : decode cX9_power 19 = .ok (.getfield 20, 3) := by decide +kernel
theorem dX9_power_22 : decode cX9_power 22 = .ok (.invokevirtual 311, 3) := by decide +kernel
theorem dX9_power_25 : decode cX9_power 25 = .ok (.aload_n 0, 1) := by decide +kernel
theorem dX9_power_26 : decode cX9_power 26 = .ok (.getfield 78, 3) := by decide +kernel
theorem dX9_power_29 : decode cX9_power 29 = .ok (.iload_n 1, 1) := by decide +kernel
theorem dX9_power_30 : decode cX9_power 30 = .ok (.invokevirtual 317, 3) := by decide +kernel
theorem dX9_power_33 : decode cX9_power 33 = .ok (.ireturn, 1) := by decide +kernel
theorem dX9_dummies_0 : decode cX9_dummies 0 = .ok (.aload_n 0, 1) := by decide +kernel
theorem dX9_dummies_1 : decode cX9_dummies 1 = .ok (.getfield 20, 3) := by decide +kernel
theorem dX9_dummies_4 : decode cX9_dummies 4 = .ok (.invokevirtual 184, 3) := by decide +kernel
theorem dX9_dummies_7 : decode cX9_dummies 7 = .ok (.ifCond .ne 6, 3) := by decide +kernel
theorem dX9_dummies_10 : decode cX9_dummies 10 = .ok (.bipush (-2), 2) := by decide +kernel
theorem dX9_dummies_12 : decode cX9_dummies 12 = .ok (.ireturn, 1) := by decide +kernel
theorem dX9_dummies_13 : decode cX9_dummies 13 = .ok (.aload_n 0, 1) := by decide +kernel
theorem dX9_dummies_14 : decode cX9_dummies 14 = .ok (.getfield 78, 3) := by decide +kernel
theorem dX9_dummies_17 : decode cX9_dummies 17 = .ok (.aload_n 0, 1) := by decide +kernel
theorem dX9_dummies_18 : decode cX9_dummies 18 = .ok (.getfield 20, 3) := by decide +kernel
theorem dX9_dummies_21 : decode cX9_dummies 21 = .ok (.invokevirtual 311, 3) := by decide +kernel
theorem dX9_dummies_24 : decode cX9_dummies 24 = .ok (.iconst 0, 1) := by decide +kernel
theorem dX9_dummies_25 : decode cX9_dummies 25 = .ok (.istore_n 1, 1) := by decide +kernel
theorem dX9_dummies_26 : decode cX9_dummies 26 = .ok (.iconst 0, 1) := by decide +kernel
theorem dX9_dummies_27 : decode cX9_dummies 27 = .ok (.istore_n 2, 1) := by decide +kernel
theorem dX9_dummies_28 : decode cX9_dummies 28 = .ok (.iload_n 2, 1) := by decide +kernel
theorem dX9_dummies_29 : decode cX9_dummies 29 = .ok (.aload_n 0, 1) := by decide +kernel
theorem dX9_dummies_30 : decode cX9_dummies 30 = .ok (.getfield 20, 3) := by decide +kernel
theorem dX9_dummies_33 : decode cX9_dummies 33 = .ok (.getfield 133, 3) := by decide +kernel
theorem dX9_dummies_36 : decode cX9_dummies 36 = .ok (.getfield 200, 3) := by decide +kernel
theorem dX9_dummies_39 : decode cX9_dummies 39 = .ok (.if_icmp .ge 26, 3) := by decide +kernel
theorem dX9_dummies_42 : decode cX9_dummies 42 = .ok (.aload_n 0, 1) := by decide +kernel
theorem dX9_dummies_43 : decode cX9_dummies 43 = .ok (.getfield 78, 3) := by decide +kernel
theorem dX9_dummies_46 : decode cX9_dummies 46 = .ok (.iload_n 2, 1) := by decide +kernel
theorem dX9_dummies_47 : decode cX9_dummies 47 = .ok (.invokevirtual 317, 3) := by decide +kernel
theorem dX9_dummies_50 : decode cX9_dummies 50 = .ok (.ifCond .ne 9, 3) := by decide +kernel
theorem dX9_dummies_53 : decode cX9_dummies 53 = .ok (.iload_n 1, 1) := by decide +kernel
theorem dX9_dummies_54 : decode cX9_dummies 54 = .ok (.iconst 1, 1) := by decide +kernel
theorem dX9_dummies_55 : decode cX9_dummies 55 = .ok (.iload_n 2, 1) := by decide +kernel
theorem dX9_dummies_56 : decode cX9_dummies 56 = .ok (.ishl, 1) := by decide +kernel
theorem dX9_dummies_57 : decode cX9_dummies 57 = .ok (.ior, 1) := by decide +kernel
theorem dX9_dummies_58 : decode cX9_dummies 58 = .ok (.istore_n 1, 1) := by decide +kernel
theorem dX9_dummies_59 : decode cX9_dummies 59 = .ok (.iinc 2 1, 3) := by decide +kernel
theorem dX9_dummies_62 : decode cX9_dummies 62 = .ok (.goto (-34), 3) := by decide +kernel
theorem dX9_dummies_65 : decode cX9_dummies 65 = .ok (.iload_n 1, 1) := by decide +kernel
theorem dX9_dummies_66 : decode cX9_dummies 66 = .ok (.ireturn, 1) := by decide +kernel
theorem dX9_strongest_0 : decode cX9_strongest 0 = .ok (.aload_n 0, 1) := by decide +kernel
theorem dX9_strongest_1 : decode cX9_strongest 1 = .ok (.getfield 20, 3) := by decide +kernel
theorem dX9_strongest_4 : decode cX9_strongest 4 = .ok (.invokevirtual 184, 3) := by decide +kernel
theorem dX9_strongest_7 : decode cX9_strongest 7 = .ok (.ifCond .ne 6, 3) := by decide +kernel
theorem dX9_strongest_10 : decode cX9_strongest 10 = .ok (.bipush (-2), 2) := by decide +kernel
theorem dX9_strongest_12 : decode cX9_strongest 12 = .ok (.ireturn, 1) := by decide +kernel
theorem dX9_strongest_13 : decode cX9_strongest 13 = .ok (.aload_n 0, 1) := by decide +kernel
theorem dX9_strongest_14 : decode cX9_strongest 14 = .ok (.getfield 78, 3) := by decide +kernel
theorem dX9_strongest_17 : decode cX9_strongest 17 = .ok (.aload_n 0, 1) := by decide +kernel
theorem dX9_strongest_18 : decode cX9_strongest 18 = .ok (.getfield 20, 3) := by decide +kernel
theorem dX9_strongest_21 : decode cX9_strongest 21 = .ok (.invokevirtual 311, 3) := by decide +kernel
theorem dX9_strongest_24 : decode cX9_strongest 24 = .ok (.iconst (-1), 1) := by decide +kernel
theorem dX9_strongest_25 : decode cX9_strongest 25 = .ok (.istore_n 1, 1) := by decide +kernel
theorem dX9_strongest_26 : decode cX9_strongest 26 = .ok (.iconst 0, 1) := by decide +kernel
theorem dX9_strongest_27 : decode cX9_strongest 27 = .ok (.istore_n 2, 1) := by decide +kernel
theorem dX9_strongest_28 : decode cX9_strongest 28 = .ok (.iconst 0, 1) := by decide +kernel
theorem dX9_strongest_29 : decode cX9_strongest 29 = .ok (.istore_n 3, 1) := by decide +kernel
theorem dX9_strongest_30 : decode cX9_strongest 30 = .ok (.iload_n 3, 1) := by decide +kernel
theorem dX9_strongest_31 : decode cX9_strongest 31 = .ok (.aload_n 0, 1) := by decide +kernel
theorem dX9_strongest_32 : decode cX9_strongest 32 = .ok (.getfield 20, 3) := by decide +kernel
theorem dX9_strongest_35 : decode cX9_strongest 35 = .ok (.getfield 133, 3) := by decide +kernel
theorem dX9_strongest_38 : decode cX9_strongest 38 = .ok (.getfield 200, 3) := by decide +kernel
theorem dX9_strongest_41 : decode cX9_strongest 41 = .ok (.if_icmp .ge 30, 3) := by decide +kernel
theorem dX9_strongest_44 : decode cX9_strongest 44 = .ok (.aload_n 0, 1) := by decide +kernel
theorem dX9_strongest_45 : decode cX9_strongest 45 = .ok (.getfield 78, 3) := by decide +kernel
theorem dX9_strongest_48 : decode cX9_strongest 48 = .ok (.iload_n 3, 1) := by decide +kernel
theorem dX9_strongest_49 : decode cX9_strongest 49 = .ok (.invokevirtual 317, 3) := by decide +kernel
theorem dX9_strongest_52 : decode cX9_strongest 52 = .ok (.istore 4, 2) := by decide +kernel
theorem dX9_strongest_54 : decode cX9_strongest 54 = .ok (.iload 4, 2) := by decide +kernel
theorem dX9_strongest_56 : decode cX9_strongest 56 = .ok (.iload_n 2, 1) := by decide +kernel
theorem dX9_strongest_57 : decode cX9_strongest 57 = .ok (.if_icmp .le 8, 3) := by decide +kernel
theorem dX9_strongest_60 : decode cX9_strongest 60 = .ok (.iload 4, 2) := by decide +kernel
theorem dX9_strongest_62 : decode cX9_strongest 62 = .ok (.istore_n 2, 1) := by decide +kernel
theorem dX9_strongest_63 : decode cX9_strongest 63 = .ok (.iload_n 3, 1) := by decide +kernel
theorem dX9_strongest_64 : decode cX9_strongest 64 = .ok (.istore_n 1, 1) := by decide +kernel
theorem dX9_strongest_65 : decode cX9_strongest 65 = .ok (.iinc 3 1, 3) := by decide +kernel
theorem dX9_strongest_68 : decode cX9_strongest 68 = .ok (.goto (-38), 3) := by decide +kernel
theorem dX9_strongest_71 : decode cX9_strongest 71 = .ok (.iload_n 1, 1) := by decide +kernel
theorem dX9_strongest_72 : decode cX9_strongest 72 = .ok (.ireturn, 1) := by decide +kernel
theorem dX9_part_0 : decode cX9_part 0 = .ok (.aload_n 0, 1) := by decide +kernel
theorem dX9_part_1 : decode cX9_part 1 = .ok (.getfield 20, 3) := by decide +kernel
theorem dX9_part_4 : decode cX9_part 4 = .ok (.iload_n 1, 1) := by decide +kernel
theorem dX9_part_5 : decode cX9_part 5 = .ok (.invokevirtual 139, 3) := by decide +kernel
theorem dX9_part_8 : decode cX9_part 8 = .ok (.ifCond .eq 10, 3) := by decide +kernel
theorem dX9_part_11 : decode cX9_part 11 = .ok (.iload_n 2, 1) := by decide +kernel
theorem dX9_part_12 : decode cX9_part 12 = .ok (.invokestatic 320, 3) := by decide +kernel
theorem dX9_part_15 : decode cX9_part 15 = .ok (.ifCond .ne 6, 3) := by decide +kernel
theorem dX9_part_18 : decode cX9_part 18 = .ok (.bipush (-2), 2) := by decide +kernel
theorem dX9_part_20 : decode cX9_part 20 = .ok (.ireturn, 1) := by decide +kernel
theorem dX9_part_21 : decode cX9_part 21 = .ok (.aload_n 0, 1) := by decide +kernel
theorem dX9_part_22 : decode cX9_part 22 = .ok (.getfield 20, 3) := by decide +kernel
theorem dX9_part_25 : decode cX9_part 25 = .ok (.getfield 136, 3) := by decide +kernel
theorem dX9_part_28 : decode cX9_part 28 = .ok (.getfield 200, 3) := by decide +kernel
theorem dX9_part_31 : decode cX9_part 31 = .ok (.ifCond .ne 5, 3) := by decide +kernel
theorem dX9_part_34 : decode cX9_part 34 = .ok (.iconst (-1), 1) := by decide +kernel
theorem dX9_part_35 : decode cX9_part 35 = .ok (.ireturn, 1) := by decide +kernel
theorem dX9_part_36 : decode cX9_part 36 = .ok (.aload_n 0, 1) := by decide +kernel
theorem dX9_part_37 : decode cX9_part 37 = .ok (.getfield 78, 3) := by decide +kernel
theorem dX9_part_40 : decode cX9_part 40 = .ok (.aload_n 0, 1) := by decide +kernel
theorem dX9_part_41 : decode cX9_part 41 = .ok (.getfield 20, 3) := by decide +kernel
theorem dX9_part_44 : decode cX9_part 44 = .ok (.invokevirtual 311, 3) := by decide +kernel
theorem dX9_part_47 : decode cX9_part 47 = .ok (.aload_n 0, 1) := by decide +kernel
theorem dX9_part_48 : decode cX9_part 48 = .ok (.getfield 78, 3) := by decide +kernel
theorem dX9_part_51 : decode cX9_part 51 = .ok (.iconst 1, 1) := by decide +kernel
theorem dX9_part_52 : decode cX9_part 52 = .ok (.iload_n 1, 1) := by decide +kernel
theorem dX9_part_53 : decode cX9_part 53 = .ok (.ishl, 1) := by decide +kernel
theorem dX9_part_54 : decode cX9_part 54 = .ok (.invokevirtual 323, 3) := by decide +kernel
theorem dX9_part_57 : decode cX9_part 57 = .ok (.i2l, 1) := by decide +kernel
theorem dX9_part_58 : decode cX9_part 58 = .ok (.aload_n 0, 1) := by decide +kernel
theorem dX9_part_59 : decode cX9_part 59 = .ok (.getfield 78, 3) := by decide +kernel
theorem dX9_part_62 : decode cX9_part 62 = .ok (.getfield 326, 3) := by decide +kernel
theorem dX9_part_65 : decode cX9_part 65 = .ok (.i2l, 1) := by decide +kernel
theorem dX9_part_66 : decode cX9_part 66 = .ok (.iload_n 2, 1) := by decide +kernel
theorem dX9_part_67 : decode cX9_part 67 = .ok (.invokestatic 329, 3) := by decide +kernel
theorem dX9_part_70 : decode cX9_part 70 = .ok (.l2i, 1) := by decide +kernel
theorem dX9_part_71 : decode cX9_part 71 = .ok (.ireturn, 1) := by decide +kernel
theorem dX9_cabinet_0 : decode cX9_cabinet 0 = .ok (.aload_n 0, 1) := by decide +kernel
theorem dX9_cabinet_1 : decode cX9_cabinet 1 = .ok (.getfield 20, 3) := by decide +kernel
theorem dX9_cabinet_4 : decode cX9_cabinet 4 = .ok (.invokevirtual 184, 3) := by decide +kernel
theorem dX9_cabinet_7 : decode cX9_cabinet 7 = .ok (.ifCond .ne 6, 3) := by decide +kernel
theorem dX9_cabinet_10 : decode cX9_cabinet 10 = .ok (.bipush (-2), 2) := by decide +kernel
theorem dX9_cabinet_12 : decode cX9_cabinet 12 = .ok (.ireturn, 1) := by decide +kernel
theorem dX9_cabinet_13 : decode cX9_cabinet 13 = .ok (.aload_n 0, 1) := by decide +kernel
theorem dX9_cabinet_14 : decode cX9_cabinet 14 = .ok (.getfield 78, 3) := by decide +kernel
theorem dX9_cabinet_17 : decode cX9_cabinet 17 = .ok (.aload_n 0, 1) := by decide +kernel
theorem dX9_cabinet_18 : decode cX9_cabinet 18 = .ok (.getfield 20, 3) := by decide +kernel
theorem dX9_cabinet_21 : decode cX9_cabinet 21 = .ok (.invokevirtual 311, 3) := by decide +kernel
theorem dX9_cabinet_24 : decode cX9_cabinet 24 = .ok (.iconst (-1), 1) := by decide +kernel
theorem dX9_cabinet_25 : decode cX9_cabinet 25 = .ok (.istore_n 1, 1) := by decide +kernel
theorem dX9_cabinet_26 : decode cX9_cabinet 26 = .ok (.bipush 7, 2) := by decide +kernel
theorem dX9_cabinet_28 : decode cX9_cabinet 28 = .ok (.istore_n 2, 1) := by decide +kernel
theorem dX9_cabinet_29 : decode cX9_cabinet 29 = .ok (.iconst 0, 1) := by decide +kernel
theorem dX9_cabinet_30 : decode cX9_cabinet 30 = .ok (.istore_n 3, 1) := by decide +kernel
theorem dX9_cabinet_31 : decode cX9_cabinet 31 = .ok (.iload_n 3, 1) := by decide +kernel
theorem dX9_cabinet_32 : decode cX9_cabinet 32 = .ok (.aload_n 0, 1) := by decide +kernel
theorem dX9_cabinet_33 : decode cX9_cabinet 33 = .ok (.getfield 20, 3) := by decide +kernel
theorem dX9_cabinet_36 : decode cX9_cabinet 36 = .ok (.invokevirtual 240, 3) := by decide +kernel
theorem dX9_cabinet_39 : decode cX9_cabinet 39 = .ok (.if_icmp .gt 35, 3) := by decide +kernel
theorem dX9_cabinet_42 : decode cX9_cabinet 42 = .ok (.aload_n 0, 1) := by decide +kernel
theorem dX9_cabinet_43 : decode cX9_cabinet 43 = .ok (.getfield 78, 3) := by decide +kernel
theorem dX9_cabinet_46 : decode cX9_cabinet 46 = .ok (.iload_n 3, 1) := by decide +kernel
theorem dX9_cabinet_47 : decode cX9_cabinet 47 = .ok (.invokevirtual 314, 3) := by decide +kernel
theorem dX9_cabinet_50 : decode cX9_cabinet 50 = .ok (.ifCond .eq 18, 3) := by decide +kernel
theorem dX9_cabinet_53 : decode cX9_cabinet 53 = .ok (.iload_n 3, 1) := by decide +kernel
theorem dX9_cabinet_54 : decode cX9_cabinet 54 = .ok (.invokestatic 203, 3) := by decide +kernel
theorem dX9_cabinet_57 : decode cX9_cabinet 57 = .ok (.iload_n 2, 1) := by decide +kernel
theorem dX9_cabinet_58 : decode cX9_cabinet 58 = .ok (.if_icmp .ge 10, 3) := by decide +kernel
theorem dX9_cabinet_61 : decode cX9_cabinet 61 = .ok (.iload_n 3, 1) := by decide +kernel
theorem dX9_cabinet_62 : decode cX9_cabinet 62 = .ok (.invokestatic 203, 3) := by decide +kernel
theorem dX9_cabinet_65 : decode cX9_cabinet 65 = .ok (.istore_n 2, 1) := by decide +kernel
theorem dX9_cabinet_66 : decode cX9_cabinet 66 = .ok (.iload_n 3, 1) := by decide +kernel
theorem dX9_cabinet_67 : decode cX9_cabinet 67 = .ok (.istore_n 1, 1) := by decide +kernel
theorem dX9_cabinet_68 : decode cX9_cabinet 68 = .ok (.iinc 3 1, 3) := by decide +kernel
theorem dX9_cabinet_71 : decode cX9_cabinet 71 = .ok (.goto (-40), 3) := by decide +kernel
theorem dX9_cabinet_74 : decode cX9_cabinet 74 = .ok (.iload_n 1, 1) := by decide +kernel
theorem dX9_cabinet_75 : decode cX9_cabinet 75 = .ok (.ireturn, 1) := by decide +kernel
theorem dX9_cabinets_0 : decode cX9_cabinets 0 = .ok (.aload_n 0, 1) := by decide +kernel
theorem dX9_cabinets_1 : decode cX9_cabinets 1 = .ok (.getfield 20, 3) := by decide +kernel
theorem dX9_cabinets_4 : decode cX9_cabinets 4 = .ok (.invokevirtual 184, 3) := by decide +kernel
theorem dX9_cabinets_7 : decode cX9_cabinets 7 = .ok (.ifCond .ne 6, 3) := by decide +kernel
theorem dX9_cabinets_10 : decode cX9_cabinets 10 = .ok (.bipush (-2), 2) := by decide +kernel
theorem dX9_cabinets_12 : decode cX9_cabinets 12 = .ok (.ireturn, 1) := by decide +kernel
theorem dX9_cabinets_13 : decode cX9_cabinets 13 = .ok (.aload_n 0, 1) := by decide +kernel
theorem dX9_cabinets_14 : decode cX9_cabinets 14 = .ok (.getfield 78, 3) := by decide +kernel
theorem dX9_cabinets_17 : decode cX9_cabinets 17 = .ok (.aload_n 0, 1) := by decide +kernel
theorem dX9_cabinets_18 : decode cX9_cabinets 18 = .ok (.getfield 20, 3) := by decide +kernel
theorem dX9_cabinets_21 : decode cX9_cabinets 21 = .ok (.invokevirtual 311, 3) := by decide +kernel
theorem dX9_cabinets_24 : decode cX9_cabinets 24 = .ok (.iconst 0, 1) := by decide +kernel
theorem dX9_cabinets_25 : decode cX9_cabinets 25 = .ok (.istore_n 1, 1) := by decide +kernel
theorem dX9_cabinets_26 : decode cX9_cabinets 26 = .ok (.iconst 0, 1) := by decide +kernel
theorem dX9_cabinets_27 : decode cX9_cabinets 27 = .ok (.istore_n 2, 1) := by decide +kernel
theorem dX9_cabinets_28 : decode cX9_cabinets 28 = .ok (.iload_n 2, 1) := by decide +kernel
theorem dX9_cabinets_29 : decode cX9_cabinets 29 = .ok (.aload_n 0, 1) := by decide +kernel
theorem dX9_cabinets_30 : decode cX9_cabinets 30 = .ok (.getfield 20, 3) := by decide +kernel
theorem dX9_cabinets_33 : decode cX9_cabinets 33 = .ok (.invokevirtual 240, 3) := by decide +kernel
theorem dX9_cabinets_36 : decode cX9_cabinets 36 = .ok (.if_icmp .gt 23, 3) := by decide +kernel
theorem dX9_cabinets_39 : decode cX9_cabinets 39 = .ok (.aload_n 0, 1) := by decide +kernel
theorem dX9_cabinets_40 : decode cX9_cabinets 40 = .ok (.getfield 78, 3) := by decide +kernel
theorem dX9_cabinets_43 : decode cX9_cabinets 43 = .ok (.iload_n 2, 1) := by decide +kernel
theorem dX9_cabinets_44 : decode cX9_cabinets 44 = .ok (.invokevirtual 333, 3) := by decide +kernel
theorem dX9_cabinets_47 : decode cX9_cabinets 47 = .ok (.ifCond .eq 6, 3) := by decide +kernel
theorem dX9_cabinets_50 : decode cX9_cabinets 50 = .ok (.iinc 1 1, 3) := by decide +kernel
theorem dX9_cabinets_53 : decode cX9_cabinets 53 = .ok (.iinc 2 1, 3) := by decide +kernel
theorem dX9_cabinets_56 : decode cX9_cabinets 56 = .ok (.goto (-28), 3) := by decide +kernel
theorem dX9_cabinets_59 : decode cX9_cabinets 59 = .ok (.iload_n 1, 1) := by decide +kernel
theorem dX9_cabinets_60 : decode cX9_cabinets 60 = .ok (.ireturn, 1) := by decide +kernel
theorem dX9_kingmaker_0 : decode cX9_kingmaker 0 = .ok (.aload_n 0, 1) := by decide +kernel
theorem dX9_kingmaker_1 : decode cX9_kingmaker 1 = .ok (.getfield 20, 3) := by decide +kernel
theorem dX9_kingmaker_4 : decode cX9_kingmaker 4 = .ok (.invokevirtual 184, 3) := by decide +kernel
theorem dX9_kingmaker_7 : decode cX9_kingmaker 7 = .ok (.ifCond .ne 6, 3) := by decide +kernel
theorem dX9_kingmaker_10 : decode cX9_kingmaker 10 = .ok (.bipush (-2), 2) := by decide +kernel
theorem dX9_kingmaker_12 : decode cX9_kingmaker 12 = .ok (.ireturn, 1) := by decide +kernel
theorem dX9_kingmaker_13 : decode cX9_kingmaker 13 = .ok (.aload_n 0, 1) := by decide +kernel
theorem dX9_kingmaker_14 : decode cX9_kingmaker 14 = .ok (.getfield 78, 3) := by decide +kernel
theorem dX9_kingmaker_17 : decode cX9_kingmaker 17 = .ok (.aload_n 0, 1) := by decide +kernel
theorem dX9_kingmaker_18 : decode cX9_kingmaker 18 = .ok (.getfield 20, 3) := by decide +kernel
theorem dX9_kingmaker_21 : decode cX9_kingmaker 21 = .ok (.invokevirtual 311, 3) := by decide +kernel
theorem dX9_kingmaker_24 : decode cX9_kingmaker 24 = .ok (.iconst 0, 1) := by decide +kernel
theorem dX9_kingmaker_25 : decode cX9_kingmaker 25 = .ok (.istore_n 1, 1) := by decide +kernel
theorem dX9_kingmaker_26 : decode cX9_kingmaker 26 = .ok (.iload_n 1, 1) := by decide +kernel
theorem dX9_kingmaker_27 : decode cX9_kingmaker 27 = .ok (.aload_n 0, 1) := by decide +kernel
theorem dX9_kingmaker_28 : decode cX9_kingmaker 28 = .ok (.getfield 20, 3) := by decide +kernel
theorem dX9_kingmaker_31 : decode cX9_kingmaker 31 = .ok (.getfield 136, 3) := by decide +kernel
theorem dX9_kingmaker_34 : decode cX9_kingmaker 34 = .ok (.getfield 200, 3) := by decide +kernel
theorem dX9_kingmaker_37 : decode cX9_kingmaker 37 = .ok (.if_icmp .ge 19, 3) := by decide +kernel
theorem dX9_kingmaker_40 : decode cX9_kingmaker 40 = .ok (.aload_n 0, 1) := by decide +kernel
theorem dX9_kingmaker_41 : decode cX9_kingmaker 41 = .ok (.iload_n 1, 1) := by decide +kernel
theorem dX9_kingmaker_42 : decode cX9_kingmaker 42 = .ok (.invokevirtual 336, 3) := by decide +kernel
theorem dX9_kingmaker_45 : decode cX9_kingmaker 45 = .ok (.ifCond .eq 5, 3) := by decide +kernel
theorem dX9_kingmaker_48 : decode cX9_kingmaker 48 = .ok (.iload_n 1, 1) := by decide +kernel
theorem dX9_kingmaker_49 : decode cX9_kingmaker 49 = .ok (.ireturn, 1) := by decide +kernel
theorem dX9_kingmaker_50 : decode cX9_kingmaker 50 = .ok (.iinc 1 1, 3) := by decide +kernel
theorem dX9_kingmaker_53 : decode cX9_kingmaker 53 = .ok (.goto (-27), 3) := by decide +kernel
theorem dX9_kingmaker_56 : decode cX9_kingmaker 56 = .ok (.iconst (-1), 1) := by decide +kernel
theorem dX9_kingmaker_57 : decode cX9_kingmaker 57 = .ok (.ireturn, 1) := by decide +kernel
theorem dX9_makesOneHold_0 : decode cX9_makesOneHold 0 = .ok (.aload_n 0, 1) := by decide +kernel
theorem dX9_makesOneHold_1 : decode cX9_makesOneHold 1 = .ok (.getfield 20, 3) := by decide +kernel
theorem dX9_makesOneHold_4 : decode cX9_makesOneHold 4 = .ok (.getfield 136, 3) := by decide +kernel
theorem dX9_makesOneHold_7 : decode cX9_makesOneHold 7 = .ok (.iload_n 1, 1) := by decide +kernel
theorem dX9_makesOneHold_8 : decode cX9_makesOneHold 8 = .ok (.iconst 1, 1) := by decide +kernel
theorem dX9_makesOneHold_9 : decode cX9_makesOneHold 9 = .ok (.invokevirtual 129, 3) := by decide +kernel
theorem dX9_makesOneHold_12 : decode cX9_makesOneHold 12 = .ok (.istore_n 2, 1) := by decide +kernel
theorem dX9_makesOneHold_13 : decode cX9_makesOneHold 13 = .ok (.iconst 0, 1) := by decide +kernel
theorem dX9_makesOneHold_14 : decode cX9_makesOneHold 14 = .ok (.istore_n 3, 1) := by decide +kernel
theorem dX9_makesOneHold_15 : decode cX9_makesOneHold 15 = .ok (.iload_n 3, 1) := by decide +kernel
theorem dX9_makesOneHold_16 : decode cX9_makesOneHold 16 = .ok (.aload_n 0, 1) := by decide +kernel
theorem dX9_makesOneHold_17 : decode cX9_makesOneHold 17 = .ok (.getfield 20, 3) := by decide +kernel
theorem dX9_makesOneHold_20 : decode cX9_makesOneHold 20 = .ok (.getfield 133, 3) := by decide +kernel
theorem dX9_makesOneHold_23 : decode cX9_makesOneHold 23 = .ok (.getfield 200, 3) := by decide +kernel
theorem dX9_makesOneHold_26 : decode cX9_makesOneHold 26 = .ok (.if_icmp .ge 49, 3) := by decide +kernel
theorem dX9_makesOneHold_29 : decode cX9_makesOneHold 29 = .ok (.iload_n 3, 1) := by decide +kernel
theorem dX9_makesOneHold_30 : decode cX9_makesOneHold 30 = .ok (.aload_n 0, 1) := by decide +kernel
theorem dX9_makesOneHold_31 : decode cX9_makesOneHold 31 = .ok (.getfield 20, 3) := by decide +kernel
theorem dX9_makesOneHold_34 : decode cX9_makesOneHold 34 = .ok (.getfield 136, 3) := by decide +kernel
theorem dX9_makesOneHold_37 : decode cX9_makesOneHold 37 = .ok (.iload_n 1, 1) := by decide +kernel
theorem dX9_makesOneHold_38 : decode cX9_makesOneHold 38 = .ok (.iconst 0, 1) := by decide +kernel
theorem dX9_makesOneHold_39 : decode cX9_makesOneHold 39 = .ok (.invokevirtual 129, 3) := by decide +kernel
theorem dX9_makesOneHold_42 : decode cX9_makesOneHold 42 = .ok (.if_icmp .eq 27, 3) := by decide +kernel
theorem dX9_makesOneHold_45 : decode cX9_makesOneHold 45 = .ok (.aload_n 0, 1) := by decide +kernel
theorem dX9_makesOneHold_46 : decode cX9_makesOneHold 46 = .ok (.getfield 78, 3) := by decide +kernel
theorem dX9_makesOneHold_49 : decode cX9_makesOneHold 49 = .ok (.aload_n 0, 1) := by decide +kernel
theorem dX9_makesOneHold_50 : decode cX9_makesOneHold 50 = .ok (.getfield 78, 3) := by decide +kernel
theorem dX9_makesOneHold_53 : decode cX9_makesOneHold 53 = .ok (.iconst 1, 1) := by decide +kernel
theorem dX9_makesOneHold_54 : decode cX9_makesOneHold 54 = .ok (.iload_n 3, 1) := by decide +kernel
theorem dX9_makesOneHold_55 : decode cX9_makesOneHold 55 = .ok (.ishl, 1) := by decide +kernel
theorem dX9_makesOneHold_56 : decode cX9_makesOneHold 56 = .ok (.invokevirtual 323, 3) := by decide +kernel
theorem dX9_makesOneHold_59 : decode cX9_makesOneHold 59 = .ok (.iload_n 2, 1) := by decide +kernel
theorem dX9_makesOneHold_60 : decode cX9_makesOneHold 60 = .ok (.iadd, 1) := by decide +kernel
theorem dX9_makesOneHold_61 : decode cX9_makesOneHold 61 = .ok (.invokevirtual 339, 3) := by decide +kernel
theorem dX9_makesOneHold_64 : decode cX9_makesOneHold 64 = .ok (.ifCond .eq 5, 3) := by decide +kernel
theorem dX9_makesOneHold_67 : decode cX9_makesOneHold 67 = .ok (.iconst 1, 1) := by decide +kernel
theorem dX9_makesOneHold_68 : decode cX9_makesOneHold 68 = .ok (.ireturn, 1) := by decide +kernel
theorem dX9_makesOneHold_69 : decode cX9_makesOneHold 69 = .ok (.iinc 3 1, 3) := by decide +kernel
theorem dX9_makesOneHold_72 : decode cX9_makesOneHold 72 = .ok (.goto (-57), 3) := by decide +kernel
theorem dX9_makesOneHold_75 : decode cX9_makesOneHold 75 = .ok (.iconst 0, 1) := by decide +kernel
theorem dX9_makesOneHold_76 : decode cX9_makesOneHold 76 = .ok (.ireturn, 1) := by decide +kernel
theorem dX9_rests_0 : decode cX9_rests 0 = .ok (.aload_n 0, 1) := by decide +kernel
theorem dX9_rests_1 : decode cX9_rests 1 = .ok (.getfield 20, 3) := by decide +kernel
theorem dX9_rests_4 : decode cX9_rests 4 = .ok (.iload_n 1, 1) := by decide +kernel
theorem dX9_rests_5 : decode cX9_rests 5 = .ok (.invokevirtual 139, 3) := by decide +kernel
theorem dX9_rests_8 : decode cX9_rests 8 = .ok (.ifCond .eq 19, 3) := by decide +kernel
theorem dX9_rests_11 : decode cX9_rests 11 = .ok (.aload_n 0, 1) := by decide +kernel
theorem dX9_rests_12 : decode cX9_rests 12 = .ok (.getfield 20, 3) := by decide +kernel
theorem dX9_rests_15 : decode cX9_rests 15 = .ok (.iload_n 2, 1) := by decide +kernel
theorem dX9_rests_16 : decode cX9_rests 16 = .ok (.invokevirtual 139, 3) := by decide +kernel
theorem dX9_rests_19 : decode cX9_rests 19 = .ok (.ifCond .eq 8, 3) := by decide +kernel
theorem dX9_rests_22 : decode cX9_rests 22 = .ok (.iload_n 1, 1) := by decide +kernel
theorem dX9_rests_23 : decode cX9_rests 23 = .ok (.iload_n 2, 1) := by decide +kernel
theorem dX9_rests_24 : decode cX9_rests 24 = .ok (.if_icmp .ne 6, 3) := by decide +kernel
theorem dX9_rests_27 : decode cX9_rests 27 = .ok (.bipush (-2), 2) := by decide +kernel
theorem dX9_rests_29 : decode cX9_rests 29 = .ok (.ireturn, 1) := by decide +kernel
theorem dX9_rests_30 : decode cX9_rests 30 = .ok (.iconst 0, 1) := by decide +kernel
theorem dX9_rests_31 : decode cX9_rests 31 = .ok (.istore_n 3, 1) := by decide +kernel
theorem dX9_rests_32 : decode cX9_rests 32 = .ok (.iconst 0, 1) := by decide +kernel
theorem dX9_rests_33 : decode cX9_rests 33 = .ok (.istore 4, 2) := by decide +kernel
theorem dX9_rests_35 : decode cX9_rests 35 = .ok (.iload 4, 2) := by decide +kernel
theorem dX9_rests_37 : decode cX9_rests 37 = .ok (.iconst 4, 1) := by decide +kernel
theorem dX9_rests_38 : decode cX9_rests 38 = .ok (.if_icmp .ge 54, 3) := by decide +kernel
theorem dX9_rests_41 : decode cX9_rests 41 = .ok (.iload 4, 2) := by decide +kernel
theorem dX9_rests_43 : decode cX9_rests 43 = .ok (.iconst 1, 1) := by decide +kernel
theorem dX9_rests_44 : decode cX9_rests 44 = .ok (.iand, 1) := by decide +kernel
theorem dX9_rests_45 : decode cX9_rests 45 = .ok (.istore 5, 2) := by decide +kernel
theorem dX9_rests_47 : decode cX9_rests 47 = .ok (.iload 4, 2) := by decide +kernel
theorem dX9_rests_49 : decode cX9_rests 49 = .ok (.iconst 1, 1) := by decide +kernel
theorem dX9_rests_50 : decode cX9_rests 50 = .ok (.ishr, 1) := by decide +kernel
theorem dX9_rests_51 : decode cX9_rests 51 = .ok (.istore 6, 2) := by decide +kernel
theorem dX9_rests_53 : decode cX9_rests 53 = .ok (.aload_n 0, 1) := by decide +kernel
theorem dX9_rests_54 : decode cX9_rests 54 = .ok (.iload_n 1, 1) := by decide +kernel
theorem dX9_rests_55 : decode cX9_rests 55 = .ok (.iload_n 2, 1) := by decide +kernel
theorem dX9_rests_56 : decode cX9_rests 56 = .ok (.iload 5, 2) := by decide +kernel
theorem dX9_rests_58 : decode cX9_rests 58 = .ok (.iload 6, 2) := by decide +kernel
theorem dX9_rests_60 : decode cX9_rests 60 = .ok (.invokevirtual 342, 3) := by decide +kernel
theorem dX9_rests_63 : decode cX9_rests 63 = .ok (.ifCond .eq 23, 3) := by decide +kernel
theorem dX9_rests_66 : decode cX9_rests 66 = .ok (.aload_n 0, 1) := by decide +kernel
theorem dX9_rests_67 : decode cX9_rests 67 = .ok (.iload_n 2, 1) := by decide +kernel
theorem dX9_rests_68 : decode cX9_rests 68 = .ok (.iload_n 1, 1) := by decide +kernel
theorem dX9_rests_69 : decode cX9_rests 69 = .ok (.iload 6, 2) := by decide +kernel
theorem dX9_rests_71 : decode cX9_rests 71 = .ok (.iload 5, 2) := by decide +kernel
theorem dX9_rests_73 : decode cX9_rests 73 = .ok (.invokevirtual 342, 3) := by decide +kernel
theorem dX9_rests_76 : decode cX9_rests 76 = .ok (.ifCond .eq 10, 3) := by decide +kernel
theorem dX9_rests_79 : decode cX9_rests 79 = .ok (.iload_n 3, 1) := by decide +kernel
theorem dX9_rests_80 : decode cX9_rests 80 = .ok (.iconst 1, 1) := by decide +kernel
theorem dX9_rests_81 : decode cX9_rests 81 = .ok (.iload 4, 2) := by decide +kernel
theorem dX9_rests_83 : decode cX9_rests 83 = .ok (.ishl, 1) := by decide +kernel
theorem dX9_rests_84 : decode cX9_rests 84 = .ok (.ior, 1) := by decide +kernel
theorem dX9_rests_85 : decode cX9_rests 85 = .ok (.istore_n 3, 1) := by decide +kernel
theorem dX9_rests_86 : decode cX9_rests 86 = .ok (.iinc 4 1, 3) := by decide +kernel
theorem dX9_rests_89 : decode cX9_rests 89 = .ok (.goto (-54), 3) := by decide +kernel
theorem dX9_rests_92 : decode cX9_rests 92 = .ok (.iload_n 3, 1) := by decide +kernel
theorem dX9_rests_93 : decode cX9_rests 93 = .ok (.ireturn, 1) := by decide +kernel
theorem dX9_gains_0 : decode cX9_gains 0 = .ok (.aload_n 0, 1) := by decide +kernel
theorem dX9_gains_1 : decode cX9_gains 1 = .ok (.getfield 20, 3) := by decide +kernel
theorem dX9_gains_4 : decode cX9_gains 4 = .ok (.iload_n 1, 1) := by decide +kernel
theorem dX9_gains_5 : decode cX9_gains 5 = .ok (.invokevirtual 139, 3) := by decide +kernel
theorem dX9_gains_8 : decode cX9_gains 8 = .ok (.ifCond .eq 34, 3) := by decide +kernel
theorem dX9_gains_11 : decode cX9_gains 11 = .ok (.aload_n 0, 1) := by decide +kernel
theorem dX9_gains_12 : decode cX9_gains 12 = .ok (.getfield 20, 3) := by decide +kernel
theorem dX9_gains_15 : decode cX9_gains 15 = .ok (.iload_n 2, 1) := by decide +kernel
theorem dX9_gains_16 : decode cX9_gains 16 = .ok (.invokevirtual 139, 3) := by decide +kernel
theorem dX9_gains_19 : decode cX9_gains 19 = .ok (.ifCond .eq 23, 3) := by decide +kernel
theorem dX9_gains_22 : decode cX9_gains 22 = .ok (.iload_n 1, 1) := by decide +kernel
theorem dX9_gains_23 : decode cX9_gains 23 = .ok (.iload_n 2, 1) := by decide +kernel
theorem dX9_gains_24 : decode cX9_gains 24 = .ok (.if_icmp .eq 18, 3) := by decide +kernel
theorem dX9_gains_27 : decode cX9_gains 27 = .ok (.iload_n 3, 1) := by decide +kernel
theorem dX9_gains_28 : decode cX9_gains 28 = .ok (.invokestatic 320, 3) := by decide +kernel
theorem dX9_gains_31 : decode cX9_gains 31 = .ok (.ifCond .eq 11, 3) := by decide +kernel
theorem dX9_gains_34 : decode cX9_gains 34 = .ok (.iload 4, 2) := by decide +kernel
theorem dX9_gains_36 : decode cX9_gains 36 = .ok (.invokestatic 320, 3) := by decide +kernel
theorem dX9_gains_39 : decode cX9_gains 39 = .ok (.ifCond .ne 7, 3) := by decide +kernel
theorem dX9_gains_42 : decode cX9_gains 42 = .ok (.sipush (-1000), 3) := by decide +kernel
theorem dX9_gains_45 : decode cX9_gains 45 = .ok (.ireturn, 1) := by decide +kernel
theorem dX9_gains_46 : decode cX9_gains 46 = .ok (.aload_n 0, 1) := by decide +kernel
theorem dX9_gains_47 : decode cX9_gains 47 = .ok (.iload_n 1, 1) := by decide +kernel
theorem dX9_gains_48 : decode cX9_gains 48 = .ok (.iload_n 2, 1) := by decide +kernel
theorem dX9_gains_49 : decode cX9_gains 49 = .ok (.iload_n 3, 1) := by decide +kernel
theorem dX9_gains_50 : decode cX9_gains 50 = .ok (.iload 4, 2) := by decide +kernel
theorem dX9_gains_52 : decode cX9_gains 52 = .ok (.invokevirtual 346, 3) := by decide +kernel
theorem dX9_gains_55 : decode cX9_gains 55 = .ok (.ireturn, 1) := by decide +kernel
theorem dX9_isContent_0 : decode cX9_isContent 0 = .ok (.aload_n 0, 1) := by decide +kernel
theorem dX9_isContent_1 : decode cX9_isContent 1 = .ok (.iload_n 1, 1) := by decide +kernel
theorem dX9_isContent_2 : decode cX9_isContent 2 = .ok (.iload_n 2, 1) := by decide +kernel
theorem dX9_isContent_3 : decode cX9_isContent 3 = .ok (.iload_n 3, 1) := by decide +kernel
theorem dX9_isContent_4 : decode cX9_isContent 4 = .ok (.iload 4, 2) := by decide +kernel
theorem dX9_isContent_6 : decode cX9_isContent 6 = .ok (.invokevirtual 346, 3) := by decide +kernel
theorem dX9_isContent_9 : decode cX9_isContent 9 = .ok (.aload_n 0, 1) := by decide +kernel
theorem dX9_isContent_10 : decode cX9_isContent 10 = .ok (.iload_n 1, 1) := by decide +kernel
theorem dX9_isContent_11 : decode cX9_isContent 11 = .ok (.iload_n 2, 1) := by decide +kernel
theorem dX9_isContent_12 : decode cX9_isContent 12 = .ok (.iconst 1, 1) := by decide +kernel
theorem dX9_isContent_13 : decode cX9_isContent 13 = .ok (.iload_n 3, 1) := by decide +kernel
theorem dX9_isContent_14 : decode cX9_isContent 14 = .ok (.isub, 1) := by decide +kernel
theorem dX9_isContent_15 : decode cX9_isContent 15 = .ok (.iload 4, 2) := by decide +kernel
theorem dX9_isContent_17 : decode cX9_isContent 17 = .ok (.invokevirtual 346, 3) := by decide +kernel
theorem dX9_isContent_20 : decode cX9_isContent 20 = .ok (.if_icmp .lt 7, 3) := by decide +kernel
theorem dX9_isContent_23 : decode cX9_isContent 23 = .ok (.iconst 1, 1) := by decide +kernel
theorem dX9_isContent_24 : decode cX9_isContent 24 = .ok (.goto 4, 3) := by decide +kernel
theorem dX9_isContent_27 : decode cX9_isContent 27 = .ok (.iconst 0, 1) := by decide +kernel
theorem dX9_isContent_28 : decode cX9_isContent 28 = .ok (.ireturn, 1) := by decide +kernel
theorem dX9_gainOf_0 : decode cX9_gainOf 0 = .ok (.aload_n 0, 1) := by decide +kernel
theorem dX9_gainOf_1 : decode cX9_gainOf 1 = .ok (.getfield 58, 3) := by decide +kernel
theorem dX9_gainOf_4 : decode cX9_gainOf 4 = .ok (.aload_n 0, 1) := by decide +kernel
theorem dX9_gainOf_5 : decode cX9_gainOf 5 = .ok (.getfield 54, 3) := by decide +kernel
theorem dX9_gainOf_8 : decode cX9_gainOf 8 = .ok (.invokevirtual 350, 3) := by decide +kernel
theorem dX9_gainOf_11 : decode cX9_gainOf 11 = .ok (.iload_n 3, 1) := by decide +kernel
theorem dX9_gainOf_12 : decode cX9_gainOf 12 = .ok (.iconst 1, 1) := by decide +kernel
theorem dX9_gainOf_13 : decode cX9_gainOf 13 = .ok (.if_icmp .ne 11, 3) := by decide +kernel
theorem dX9_gainOf_16 : decode cX9_gainOf 16 = .ok (.aload_n 0, 1) := by decide +kernel
theorem dX9_gainOf_17 : decode cX9_gainOf 17 = .ok (.getfield 58, 3) := by decide +kernel
theorem dX9_gainOf_20 : decode cX9_gainOf 20 = .ok (.iload_n 1, 1) := by decide +kernel
theorem dX9_gainOf_21 : decode cX9_gainOf 21 = .ok (.invokevirtual 353, 3) := by decide +kernel
theorem dX9_gainOf_24 : decode cX9_gainOf 24 = .ok (.iload 4, 2) := by decide +kernel
theorem dX9_gainOf_26 : decode cX9_gainOf 26 = .ok (.iconst 1, 1) := by decide +kernel
theorem dX9_gainOf_27 : decode cX9_gainOf 27 = .ok (.if_icmp .ne 11, 3) := by decide +kernel
theorem dX9_gainOf_30 : decode cX9_gainOf 30 = .ok (.aload_n 0, 1) := by decide +kernel
theorem dX9_gainOf_31 : decode cX9_gainOf 31 = .ok (.getfield 58, 3) := by decide +kernel
theorem dX9_gainOf_34 : decode cX9_gainOf 34 = .ok (.iload_n 2, 1) := by decide +kernel
theorem dX9_gainOf_35 : decode cX9_gainOf 35 = .ok (.invokevirtual 353, 3) := by decide +kernel
theorem dX9_gainOf_38 : decode cX9_gainOf 38 = .ok (.aload_n 0, 1) := by decide +kernel
theorem dX9_gainOf_39 : decode cX9_gainOf 39 = .ok (.getfield 58, 3) := by decide +kernel
theorem dX9_gainOf_42 : decode cX9_gainOf 42 = .ok (.invokevirtual 356, 3) := by decide +kernel
theorem dX9_gainOf_45 : decode cX9_gainOf 45 = .ok (.iconst 2, 1) := by decide +kernel
theorem dX9_gainOf_46 : decode cX9_gainOf 46 = .ok (.aload_n 0, 1) := by decide +kernel
theorem dX9_gainOf_47 : decode cX9_gainOf 47 = .ok (.getfield 58, 3) := by decide +kernel
theorem dX9_gainOf_50 : decode cX9_gainOf 50 = .ok (.iload_n 1, 1) := by decide +kernel
theorem dX9_gainOf_51 : decode cX9_gainOf 51 = .ok (.invokevirtual 181, 3) := by decide +kernel
theorem dX9_gainOf_54 : decode cX9_gainOf 54 = .ok (.invokestatic 203, 3) := by decide +kernel
theorem dX9_gainOf_57 : decode cX9_gainOf 57 = .ok (.imul, 1) := by decide +kernel
theorem dX9_gainOf_58 : decode cX9_gainOf 58 = .ok (.aload_n 0, 1) := by decide +kernel
theorem dX9_gainOf_59 : decode cX9_gainOf 59 = .ok (.getfield 58, 3) := by decide +kernel
theorem dX9_gainOf_62 : decode cX9_gainOf 62 = .ok (.iload_n 1, 1) := by decide +kernel
theorem dX9_gainOf_63 : decode cX9_gainOf 63 = .ok (.invokevirtual 165, 3) := by decide +kernel
theorem dX9_gainOf_66 : decode cX9_gainOf 66 = .ok (.isub, 1) := by decide +kernel
theorem dX9_gainOf_67 : decode cX9_gainOf 67 = .ok (.ireturn, 1) := by decide +kernel
theorem dX9_chance_0 : decode cX9_chance 0 = .ok (.aload_n 0, 1) := by decide +kernel
theorem dX9_chance_1 : decode cX9_chance 1 = .ok (.getfield 20, 3) := by decide +kernel
theorem dX9_chance_4 : decode cX9_chance 4 = .ok (.iload_n 1, 1) := by decide +kernel
theorem dX9_chance_5 : decode cX9_chance 5 = .ok (.invokevirtual 139, 3) := by decide +kernel
theorem dX9_chance_8 : decode cX9_chance 8 = .ok (.ifCond .eq 30, 3) := by decide +kernel
theorem dX9_chance_11 : decode cX9_chance 11 = .ok (.aload_n 0, 1) := by decide +kernel
theorem dX9_chance_12 : decode cX9_chance 12 = .ok (.getfield 20, 3) := by decide +kernel
theorem dX9_chance_15 : decode cX9_chance 15 = .ok (.iload_n 2, 1) := by decide +kernel
theorem dX9_chance_16 : decode cX9_chance 16 = .ok (.invokevirtual 139, 3) := by decide +kernel
theorem dX9_chance_19 : decode cX9_chance 19 = .ok (.ifCond .eq 19, 3) := by decide +kernel
theorem dX9_chance_22 : decode cX9_chance 22 = .ok (.aload_n 0, 1) := by decide +kernel
theorem dX9_chance_23 : decode cX9_chance 23 = .ok (.iload_n 3, 1) := by decide +kernel
theorem dX9_chance_24 : decode cX9_chance 24 = .ok (.invokevirtual 359, 3) := by decide +kernel
theorem dX9_chance_27 : decode cX9_chance 27 = .ok (.ifCond .eq 11, 3) := by decide +kernel
theorem dX9_chance_30 : decode cX9_chance 30 = .ok (.iload 4, 2) := by decide +kernel
theorem dX9_chance_32 : decode cX9_chance 32 = .ok (.invokestatic 320, 3) := by decide +kernel
theorem dX9_chance_35 : decode cX9_chance 35 = .ok (.ifCond .ne 7, 3) := by decide +kernel
theorem dX9_chance_38 : decode cX9_chance 38 = .ok (.ldc2_w 362, 3) := by decide +kernel
theorem dX9_chance_41 : decode cX9_chance 41 = .ok (.lreturn, 1) := by decide +kernel
theorem dX9_chance_42 : decode cX9_chance 42 = .ok (.aload_n 0, 1) := by decide +kernel
theorem dX9_chance_43 : decode cX9_chance 43 = .ok (.invokevirtual 227, 3) := by decide +kernel
theorem dX9_chance_46 : decode cX9_chance 46 = .ok (.aload_n 0, 1) := by decide +kernel
theorem dX9_chance_47 : decode cX9_chance 47 = .ok (.getfield 85, 3) := by decide +kernel
theorem dX9_chance_50 : decode cX9_chance 50 = .ok (.aload_n 0, 1) := by decide +kernel
theorem dX9_chance_51 : decode cX9_chance 51 = .ok (.getfield 54, 3) := by decide +kernel
theorem dX9_chance_54 : decode cX9_chance 54 = .ok (.aload_n 0, 1) := by decide +kernel
theorem dX9_chance_55 : decode cX9_chance 55 = .ok (.getfield 64, 3) := by decide +kernel
theorem dX9_chance_58 : decode cX9_chance 58 = .ok (.iload_n 1, 1) := by decide +kernel
theorem dX9_chance_59 : decode cX9_chance 59 = .ok (.iload_n 3, 1) := by decide +kernel
theorem dX9_chance_60 : decode cX9_chance 60 = .ok (.aload_n 0, 1) := by decide +kernel
theorem dX9_chance_61 : decode cX9_chance 61 = .ok (.getfield 20, 3) := by decide +kernel
theorem dX9_chance_64 : decode cX9_chance 64 = .ok (.getfield 364, 3) := by decide +kernel
theorem dX9_chance_67 : decode cX9_chance 67 = .ok (.invokevirtual 367, 3) := by decide +kernel
theorem dX9_chance_70 : decode cX9_chance 70 = .ok (.aload_n 0, 1) := by decide +kernel
theorem dX9_chance_71 : decode cX9_chance 71 = .ok (.getfield 85, 3) := by decide +kernel
theorem dX9_chance_74 : decode cX9_chance 74 = .ok (.iload_n 2, 1) := by decide +kernel
theorem dX9_chance_75 : decode cX9_chance 75 = .ok (.invokevirtual 371, 3) := by decide +kernel
theorem dX9_chance_78 : decode cX9_chance 78 = .ok (.aload_n 0, 1) := by decide +kernel
theorem dX9_chance_79 : decode cX9_chance 79 = .ok (.getfield 85, 3) := by decide +kernel
theorem dX9_chance_82 : decode cX9_chance 82 = .ok (.getfield 374, 3) := by decide +kernel
theorem dX9_chance_85 : decode cX9_chance 85 = .ok (.iload 4, 2) := by decide +kernel
theorem dX9_chance_87 : decode cX9_chance 87 = .ok (.invokestatic 329, 3) := by decide +kernel
theorem dX9_chance_90 : decode cX9_chance 90 = .ok (.lreturn, 1) := by decide +kernel
theorem dX9_mean_0 : decode cX9_mean 0 = .ok (.aload_n 0, 1) := by decide +kernel
theorem dX9_mean_1 : decode cX9_mean 1 = .ok (.getfield 20, 3) := by decide +kernel
theorem dX9_mean_4 : decode cX9_mean 4 = .ok (.iload_n 1, 1) := by decide +kernel
theorem dX9_mean_5 : decode cX9_mean 5 = .ok (.invokevirtual 139, 3) := by decide +kernel
theorem dX9_mean_8 : decode cX9_mean 8 = .ok (.ifCond .eq 18, 3) := by decide +kernel
theorem dX9_mean_11 : decode cX9_mean 11 = .ok (.aload_n 0, 1) := by decide +kernel
theorem dX9_mean_12 : decode cX9_mean 12 = .ok (.iload_n 2, 1) := by decide +kernel
theorem dX9_mean_13 : decode cX9_mean 13 = .ok (.invokevirtual 359, 3) := by decide +kernel
theorem dX9_mean_16 : decode cX9_mean 16 = .ok (.ifCond .eq 10, 3) := by decide +kernel
theorem dX9_mean_19 : decode cX9_mean 19 = .ok (.iload_n 3, 1) := by decide +kernel
theorem dX9_mean_20 : decode cX9_mean 20 = .ok (.invokestatic 320, 3) := by decide +kernel
theorem dX9_mean_23 : decode cX9_mean 23 = .ok (.ifCond .ne 7, 3) := by decide +kernel
theorem dX9_mean_26 : decode cX9_mean 26 = .ok (.ldc2_w 362, 3) := by decide +kernel
theorem dX9_mean_29 : decode cX9_mean 29 = .ok (.lreturn, 1) := by decide +kernel
theorem dX9_mean_30 : decode cX9_mean 30 = .ok (.aload_n 0, 1) := by decide +kernel
theorem dX9_mean_31 : decode cX9_mean 31 = .ok (.invokevirtual 227, 3) := by decide +kernel
theorem dX9_mean_34 : decode cX9_mean 34 = .ok (.aload_n 0, 1) := by decide +kernel
theorem dX9_mean_35 : decode cX9_mean 35 = .ok (.getfield 85, 3) := by decide +kernel
theorem dX9_mean_38 : decode cX9_mean 38 = .ok (.aload_n 0, 1) := by decide +kernel
theorem dX9_mean_39 : decode cX9_mean 39 = .ok (.getfield 54, 3) := by decide +kernel
theorem dX9_mean_42 : decode cX9_mean 42 = .ok (.aload_n 0, 1) := by decide +kernel
theorem dX9_mean_43 : decode cX9_mean 43 = .ok (.getfield 64, 3) := by decide +kernel
theorem dX9_mean_46 : decode cX9_mean 46 = .ok (.iload_n 1, 1) := by decide +kernel
theorem dX9_mean_47 : decode cX9_mean 47 = .ok (.iload_n 2, 1) := by decide +kernel
theorem dX9_mean_48 : decode cX9_mean 48 = .ok (.aload_n 0, 1) := by decide +kernel
theorem dX9_mean_49 : decode cX9_mean 49 = .ok (.getfield 20, 3) := by decide +kernel
theorem dX9_mean_52 : decode cX9_mean 52 = .ok (.getfield 364, 3) := by decide +kernel
theorem dX9_mean_55 : decode cX9_mean 55 = .ok (.invokevirtual 367, 3) := by decide +kernel
theorem dX9_mean_58 : decode cX9_mean 58 = .ok (.aload_n 0, 1) := by decide +kernel
theorem dX9_mean_59 : decode cX9_mean 59 = .ok (.getfield 85, 3) := by decide +kernel
theorem dX9_mean_62 : decode cX9_mean 62 = .ok (.invokevirtual 377, 3) := by decide +kernel
theorem dX9_mean_65 : decode cX9_mean 65 = .ok (.aload_n 0, 1) := by decide +kernel
theorem dX9_mean_66 : decode cX9_mean 66 = .ok (.getfield 85, 3) := by decide +kernel
theorem dX9_mean_69 : decode cX9_mean 69 = .ok (.getfield 374, 3) := by decide +kernel
theorem dX9_mean_72 : decode cX9_mean 72 = .ok (.iload_n 3, 1) := by decide +kernel
theorem dX9_mean_73 : decode cX9_mean 73 = .ok (.invokestatic 329, 3) := by decide +kernel
theorem dX9_mean_76 : decode cX9_mean 76 = .ok (.lreturn, 1) := by decide +kernel
theorem dX9_isChanceDance_0 : decode cX9_isChanceDance 0 = .ok (.aload_n 0, 1) := by decide +kernel
theorem dX9_isChanceDance_1 : decode cX9_isChanceDance 1 = .ok (.getfield 20, 3) := by decide +kernel
theorem dX9_isChanceDance_4 : decode cX9_isChanceDance 4 = .ok (.iload_n 1, 1) := by decide +kernel
theorem dX9_isChanceDance_5 : decode cX9_isChanceDance 5 = .ok (.invokevirtual 153, 3) := by decide +kernel
theorem dX9_isChanceDance_8 : decode cX9_isChanceDance 8 = .ok (.ifCond .eq 13, 3) := by decide +kernel
theorem dX9_isChanceDance_11 : decode cX9_isChanceDance 11 = .ok (.iload_n 1, 1) := by decide +kernel
theorem dX9_isChanceDance_12 : decode cX9_isChanceDance 12 = .ok (.bipush 8, 2) := by decide +kernel
theorem dX9_isChanceDance_14 : decode cX9_isChanceDance 14 = .ok (.if_icmp .gt 7, 3) := by decide +kernel
theorem dX9_isChanceDance_17 : decode cX9_isChanceDance 17 = .ok (.iconst 1, 1) := by decide +kernel
theorem dX9_isChanceDance_18 : decode cX9_isChanceDance 18 = .ok (.goto 4, 3) := by decide +kernel
theorem dX9_isChanceDance_21 : decode cX9_isChanceDance 21 = .ok (.iconst 0, 1) := by decide +kernel
theorem dX9_isChanceDance_22 : decode cX9_isChanceDance 22 = .ok (.ireturn, 1) := by decide +kernel
theorem dX9_drawn_0 : decode cX9_drawn 0 = .ok (.iload_n 1, 1) := by decide +kernel
theorem dX9_drawn_1 : decode cX9_drawn 1 = .ok (.invokestatic 381, 3) := by decide +kernel
theorem dX9_drawn_4 : decode cX9_drawn 4 = .ok (.ifCond .eq 21, 3) := by decide +kernel
theorem dX9_drawn_7 : decode cX9_drawn 7 = .ok (.aload_n 0, 1) := by decide +kernel
theorem dX9_drawn_8 : decode cX9_drawn 8 = .ok (.getfield 20, 3) := by decide +kernel
theorem dX9_drawn_11 : decode cX9_drawn 11 = .ok (.iload_n 2, 1) := by decide +kernel
theorem dX9_drawn_12 : decode cX9_drawn 12 = .ok (.invokevirtual 139, 3) := by decide +kernel
theorem dX9_drawn_15 : decode cX9_drawn 15 = .ok (.ifCond .eq 10, 3) := by decide +kernel
theorem dX9_drawn_18 : decode cX9_drawn 18 = .ok (.iload_n 3, 1) := by decide +kernel
theorem dX9_drawn_19 : decode cX9_drawn 19 = .ok (.invokestatic 320, 3) := by decide +kernel
theorem dX9_drawn_22 : decode cX9_drawn 22 = .ok (.ifCond .ne 6, 3) := by decide +kernel
theorem dX9_drawn_25 : decode cX9_drawn 25 = .ok (.bipush (-2), 2) := by decide +kernel
theorem dX9_drawn_27 : decode cX9_drawn 27 = .ok (.ireturn, 1) := by decide +kernel
theorem dX9_drawn_28 : decode cX9_drawn 28 = .ok (.aload_n 0, 1) := by decide +kernel
theorem dX9_drawn_29 : decode cX9_drawn 29 = .ok (.invokevirtual 227, 3) := by decide +kernel
theorem dX9_drawn_32 : decode cX9_drawn 32 = .ok (.aload_n 0, 1) := by decide +kernel
theorem dX9_drawn_33 : decode cX9_drawn 33 = .ok (.iload_n 1, 1) := by decide +kernel
theorem dX9_drawn_34 : decode cX9_drawn 34 = .ok (.invokevirtual 384, 3) := by decide +kernel
theorem dX9_drawn_37 : decode cX9_drawn 37 = .ok (.istore 4, 2) := by decide +kernel
theorem dX9_drawn_39 : decode cX9_drawn 39 = .ok (.iload_n 3, 1) := by decide +kernel
theorem dX9_drawn_40 : decode cX9_drawn 40 = .ok (.ifCond .ne 8, 3) := by decide +kernel
theorem dX9_drawn_43 : decode cX9_drawn 43 = .ok (.iload 4, 2) := by decide +kernel
theorem dX9_drawn_45 : decode cX9_drawn 45 = .ok (.goto 10, 3) := by decide +kernel
theorem dX9_drawn_48 : decode cX9_drawn 48 = .ok (.aload_n 0, 1) := by decide +kernel
theorem dX9_drawn_49 : decode cX9_drawn 49 = .ok (.iload 4, 2) := by decide +kernel
theorem dX9_drawn_51 : decode cX9_drawn 51 = .ok (.iload_n 2, 1) := by decide +kernel
theorem dX9_drawn_52 : decode cX9_drawn 52 = .ok (.invokevirtual 387, 3) := by decide +kernel
theorem dX9_drawn_55 : decode cX9_drawn 55 = .ok (.ireturn, 1) := by decide +kernel
theorem dX9_luck_0 : decode cX9_luck 0 = .ok (.iload_n 1, 1) := by decide +kernel
theorem dX9_luck_1 : decode cX9_luck 1 = .ok (.invokestatic 381, 3) := by decide +kernel
theorem dX9_luck_4 : decode cX9_luck 4 = .ok (.ifCond .eq 37, 3) := by decide +kernel
theorem dX9_luck_7 : decode cX9_luck 7 = .ok (.iload_n 2, 1) := by decide +kernel
theorem dX9_luck_8 : decode cX9_luck 8 = .ok (.iconst 1, 1) := by decide +kernel
theorem dX9_luck_9 : decode cX9_luck 9 = .ok (.if_icmp .lt 32, 3) := by decide +kernel
theorem dX9_luck_12 : decode cX9_luck 12 = .ok (.iload_n 2, 1) := by decide +kernel
theorem dX9_luck_13 : decode cX9_luck 13 = .ok (.bipush 20, 2) := by decide +kernel
theorem dX9_luck_15 : decode cX9_luck 15 = .ok (.if_icmp .gt 26, 3) := by decide +kernel
theorem dX9_luck_18 : decode cX9_luck 18 = .ok (.aload_n 0, 1) := by decide +kernel
theorem dX9_luck_19 : decode cX9_luck 19 = .ok (.getfield 20, 3) := by decide +kernel
theorem dX9_luck_22 : decode cX9_luck 22 = .ok (.iload_n 3, 1) := by decide +kernel
theorem dX9_luck_23 : decode cX9_luck 23 = .ok (.invokevirtual 139, 3) := by decide +kernel
theorem dX9_luck_26 : decode cX9_luck 26 = .ok (.ifCond .eq 15, 3) := by decide +kernel
theorem dX9_luck_29 : decode cX9_luck 29 = .ok (.aload_n 0, 1) := by decide +kernel
theorem dX9_luck_30 : decode cX9_luck 30 = .ok (.getfield 20, 3) := by decide +kernel
theorem dX9_luck_33 : decode cX9_luck 33 = .ok (.iload 4, 2) := by decide +kernel
theorem dX9_luck_35 : decode cX9_luck 35 = .ok (.invokevirtual 139, 3) := by decide +kernel
theorem dX9_luck_38 : decode cX9_luck 38 = .ok (.ifCond .ne 6, 3) := by decide +kernel
theorem dX9_luck_41 : decode cX9_luck 41 = .ok (.bipush (-2), 2) := by decide +kernel
theorem dX9_luck_43 : decode cX9_luck 43 = .ok (.ireturn, 1) := by decide +kernel
theorem dX9_luck_44 : decode cX9_luck 44 = .ok (.aload_n 0, 1) := by decide +kernel
theorem dX9_luck_45 : decode cX9_luck 45 = .ok (.invokevirtual 227, 3) := by decide +kernel
theorem dX9_luck_48 : decode cX9_luck 48 = .ok (.iconst 0, 1) := by decide +kernel
theorem dX9_luck_49 : decode cX9_luck 49 = .ok (.istore 5, 2) := by decide +kernel
theorem dX9_luck_51 : decode cX9_luck 51 = .ok (.iconst 0, 1) := by decide +kernel
theorem dX9_luck_52 : decode cX9_luck 52 = .ok (.istore 6, 2) := by decide +kernel
theorem dX9_luck_54 : decode cX9_luck 54 = .ok (.iload 6, 2) := by decide +kernel
theorem dX9_luck_56 : decode cX9_luck 56 = .ok (.iload_n 2, 1) := by decide +kernel
theorem dX9_luck_57 : decode cX9_luck 57 = .ok (.if_icmp .ge 33, 3) := by decide +kernel
theorem dX9_luck_60 : decode cX9_luck 60 = .ok (.aload_n 0, 1) := by decide +kernel
theorem dX9_luck_61 : decode cX9_luck 61 = .ok (.aload_n 0, 1) := by decide +kernel
theorem dX9_luck_62 : decode cX9_luck 62 = .ok (.iload_n 1, 1) := by decide +kernel
theorem dX9_luck_63 : decode cX9_luck 63 = .ok (.iload 6, 2) := by decide +kernel
theorem dX9_luck_65 : decode cX9_luck 65 = .ok (.iadd, 1) := by decide +kernel
theorem dX9_luck_66 : decode cX9_luck 66 = .ok (.invokevirtual 384, 3) := by decide +kernel
theorem dX9_luck_69 : decode cX9_luck 69 = .ok (.iload_n 3, 1) := by decide +kernel
theorem dX9_luck_70 : decode cX9_luck 70 = .ok (.invokevirtual 387, 3) := by decide +kernel
theorem dX9_luck_73 : decode cX9_luck 73 = .ok (.iload 4, 2) := by decide +kernel
theorem dX9_luck_75 : decode cX9_luck 75 = .ok (.invokestatic 175, 3) := by decide +kernel
theorem dX9_luck_78 : decode cX9_luck 78 = .ok (.ifCond .eq 6, 3) := by decide +kernel
theorem dX9_luck_81 : decode cX9_luck 81 = .ok (.iinc 5 1, 3) := by decide +kernel
theorem dX9_luck_84 : decode cX9_luck 84 = .ok (.iinc 6 1, 3) := by decide +kernel
theorem dX9_luck_87 : decode cX9_luck 87 = .ok (.goto (-33), 3) := by decide +kernel
theorem dX9_luck_90 : decode cX9_luck 90 = .ok (.iload 5, 2) := by decide +kernel
theorem dX9_luck_92 : decode cX9_luck 92 = .ok (.ireturn, 1) := by decide +kernel
theorem dX9_drawnHolders_0 : decode cX9_drawnHolders 0 = .ok (.aload_n 0, 1) := by decide +kernel
theorem dX9_drawnHolders_1 : decode cX9_drawnHolders 1 = .ok (.getfield 64, 3) := by decide +kernel
theorem dX9_drawnHolders_4 : decode cX9_drawnHolders 4 = .ok (.aload_n 0, 1) := by decide +kernel
theorem dX9_drawnHolders_5 : decode cX9_drawnHolders 5 = .ok (.getfield 54, 3) := by decide +kernel
theorem dX9_drawnHolders_8 : decode cX9_drawnHolders 8 = .ok (.iload_n 2, 1) := by decide +kernel
theorem dX9_drawnHolders_9 : decode cX9_drawnHolders 9 = .ok (.iload_n 1, 1) := by decide +kernel
theorem dX9_drawnHolders_10 : decode cX9_drawnHolders 10 = .ok (.invokevirtual 220, 3) := by decide +kernel
theorem dX9_drawnHolders_13 : decode cX9_drawnHolders 13 = .ok (.aload_n 0, 1) := by decide +kernel
theorem dX9_drawnHolders_14 : decode cX9_drawnHolders 14 = .ok (.getfield 64, 3) := by decide +kernel
theorem dX9_drawnHolders_17 : decode cX9_drawnHolders 17 = .ok (.aload_n 0, 1) := by decide +kernel
theorem dX9_drawnHolders_18 : decode cX9_drawnHolders 18 = .ok (.getfield 20, 3) := by decide +kernel
theorem dX9_drawnHolders_21 : decode cX9_drawnHolders 21 = .ok (.getfield 169, 3) := by decide +kernel
theorem dX9_drawnHolders_24 : decode cX9_drawnHolders 24 = .ok (.invokevirtual 224, 3) := by decide +kernel
theorem dX9_drawnHolders_27 : decode cX9_drawnHolders 27 = .ok (.ireturn, 1) := by decide +kernel
theorem dX9_loudDances_0 : decode cX9_loudDances 0 = .ok (.iload_n 1, 1) := by decide +kernel
theorem dX9_loudDances_1 : decode cX9_loudDances 1 = .ok (.i2l, 1) := by decide +kernel
theorem dX9_loudDances_2 : decode cX9_loudDances 2 = .ok (.lstore_n 2, 1) := by decide +kernel
theorem dX9_loudDances_3 : decode cX9_loudDances 3 = .ok (.iconst 0, 1) := by decide +kernel
theorem dX9_loudDances_4 : decode cX9_loudDances 4 = .ok (.istore 4, 2) := by decide +kernel
theorem dX9_loudDances_6 : decode cX9_loudDances 6 = .ok (.iconst 0, 1) := by decide +kernel
theorem dX9_loudDances_7 : decode cX9_loudDances 7 = .ok (.istore 5, 2) := by decide +kernel
theorem dX9_loudDances_9 : decode cX9_loudDances 9 = .ok (.iload 5, 2) := by decide +kernel
theorem dX9_loudDances_11 : decode cX9_loudDances 11 = .ok (.aload_n 0, 1) := by decide +kernel
theorem dX9_loudDances_12 : decode cX9_loudDances 12 = .ok (.getfield 20, 3) := by decide +kernel
theorem dX9_loudDances_15 : decode cX9_loudDances 15 = .ok (.getfield 169, 3) := by decide +kernel
theorem dX9_loudDances_18 : decode cX9_loudDances 18 = .ok (.if_icmp .gt 53, 3) := by decide +kernel
theorem dX9_loudDances_21 : decode cX9_loudDances 21 = .ok (.ldc2_w 390, 3) := by decide +kernel
theorem dX9_loudDances_24 : decode cX9_loudDances 24 = .ok (.lload_n 2, 1) := by decide +kernel
theorem dX9_loudDances_25 : decode cX9_loudDances 25 = .ok (.lmul, 1) := by decide +kernel
theorem dX9_loudDances_26 : decode cX9_loudDances 26 = .ok (.ldc2_w 392, 3) := by decide +kernel
theorem dX9_loudDances_29 : decode cX9_loudDances 29 = .ok (.ladd, 1) := by decide +kernel
theorem dX9_loudDances_30 : decode cX9_loudDances 30 = .ok (.ldc2_w 394, 3) := by decide +kernel
theorem dX9_loudDances_33 : decode cX9_loudDances 33 = .ok (.lrem, 1) := by decide +kernel
theorem dX9_loudDances_34 : decode cX9_loudDances 34 = .ok (.lstore_n 2, 1) := by decide +kernel
theorem dX9_loudDances_35 : decode cX9_loudDances 35 = .ok (.lload_n 2, 1) := by decide +kernel
theorem dX9_loudDances_36 : decode cX9_loudDances 36 = .ok (.ldc2_w 396, 3) := by decide +kernel
theorem dX9_loudDances_39 : decode cX9_loudDances 39 = .ok (.ldiv, 1) := by decide +kernel
theorem dX9_loudDances_40 : decode cX9_loudDances 40 = .ok (.ldc2_w 398, 3) := by decide +kernel
theorem dX9_loudDances_43 : decode cX9_loudDances 43 = .ok (.lrem, 1) := by decide +kernel
theorem dX9_loudDances_44 : decode cX9_loudDances 44 = .ok (.aload_n 0, 1) := by decide +kernel
theorem dX9_loudDances_45 : decode cX9_loudDances 45 = .ok (.getfield 20, 3) := by decide +kernel
theorem dX9_loudDances_48 : decode cX9_loudDances 48 = .ok (.getfield 364, 3) := by decide +kernel
theorem dX9_loudDances_51 : decode cX9_loudDances 51 = .ok (.i2l, 1) := by decide +kernel
theorem dX9_loudDances_52 : decode cX9_loudDances 52 = .ok (.lcmp, 1) := by decide +kernel
theorem dX9_loudDances_53 : decode cX9_loudDances 53 = .ok (.ifCond .ge 12, 3) := by decide +kernel
theorem dX9_loudDances_56 : decode cX9_loudDances 56 = .ok (.iload 4, 2) := by decide +kernel
theorem dX9_loudDances_58 : decode cX9_loudDances 58 = .ok (.iconst 1, 1) := by decide +kernel
theorem dX9_loudDances_59 : decode cX9_loudDances 59 = .ok (.iload 5, 2) := by decide +kernel
theorem dX9_loudDances_61 : decode cX9_loudDances 61 = .ok (.ishl, 1) := by decide +kernel
theorem dX9_loudDances_62 : decode cX9_loudDances 62 = .ok (.ior, 1) := by decide +kernel
theorem dX9_loudDances_63 : decode cX9_loudDances 63 = .ok (.istore 4, 2) := by decide +kernel
theorem dX9_loudDances_65 : decode cX9_loudDances 65 = .ok (.iinc 5 1, 3) := by decide +kernel
theorem dX9_loudDances_68 : decode cX9_loudDances 68 = .ok (.goto (-59), 3) := by decide +kernel
theorem dX9_loudDances_71 : decode cX9_loudDances 71 = .ok (.iload 4, 2) := by decide +kernel
theorem dX9_loudDances_73 : decode cX9_loudDances 73 = .ok (.ireturn, 1) := by decide +kernel
theorem dX9_bid_0 : decode cX9_bid 0 = .ok (.aload_n 0, 1) := by decide +kernel
theorem dX9_bid_1 : decode cX9_bid 1 = .ok (.getfield 20, 3) := by decide +kernel
theorem dX9_bid_4 : decode cX9_bid 4 = .ok (.iload_n 1, 1) := by decide +kernel
theorem dX9_bid_5 : decode cX9_bid 5 = .ok (.invokevirtual 139, 3) := by decide +kernel
theorem dX9_bid_8 : decode cX9_bid 8 = .ok (.ifCond .eq 24, 3) := by decide +kernel
theorem dX9_bid_11 : decode cX9_bid 11 = .ok (.aload_n 0, 1) := by decide +kernel
theorem dX9_bid_12 : decode cX9_bid 12 = .ok (.getfield 20, 3) := by decide +kernel
theorem dX9_bid_15 : decode cX9_bid 15 = .ok (.iload_n 2, 1) := by decide +kernel
theorem dX9_bid_16 : decode cX9_bid 16 = .ok (.invokevirtual 143, 3) := by decide +kernel
theorem dX9_bid_19 : decode cX9_bid 19 = .ok (.ifCond .eq 13, 3) := by decide +kernel
theorem dX9_bid_22 : decode cX9_bid 22 = .ok (.iload_n 3, 1) := by decide +kernel
theorem dX9_bid_23 : decode cX9_bid 23 = .ok (.ifCond .lt 9, 3) := by decide +kernel
theorem dX9_bid_26 : decode cX9_bid 26 = .ok (.iload_n 3, 1) := by decide +kernel
theorem dX9_bid_27 : decode cX9_bid 27 = .ok (.bipush 13, 2) := by decide +kernel
theorem dX9_bid_29 : decode cX9_bid 29 = .ok (.if_icmp .le 6, 3) := by decide +kernel
theorem dX9_bid_32 : decode cX9_bid 32 = .ok (.bipush (-2), 2) := by decide +kernel
theorem dX9_bid_34 : decode cX9_bid 34 = .ok (.ireturn, 1) := by decide +kernel
theorem dX9_bid_35 : decode cX9_bid 35 = .ok (.aload_n 0, 1) := by decide +kernel
theorem dX9_bid_36 : decode cX9_bid 36 = .ok (.getfield 20, 3) := by decide +kernel
theorem dX9_bid_39 : decode cX9_bid 39 = .ok (.getfield 400, 3) := by decide +kernel
theorem dX9_bid_42 : decode cX9_bid 42 = .ok (.invokevirtual 403, 3) := by decide +kernel
theorem dX9_bid_45 : decode cX9_bid 45 = .ok (.ifCond .eq 6, 3) := by decide +kernel
theorem dX9_bid_48 : decode cX9_bid 48 = .ok (.bipush (-5), 2) := by decide +kernel
theorem dX9_bid_50 : decode cX9_bid 50 = .ok (.ireturn, 1) := by decide +kernel
theorem dX9_bid_51 : decode cX9_bid 51 = .ok (.aload_n 0, 1) := by decide +kernel
theorem dX9_bid_52 : decode cX9_bid 52 = .ok (.getfield 20, 3) := by decide +kernel
theorem dX9_bid_55 : decode cX9_bid 55 = .ok (.iload_n 1, 1) := by decide +kernel
theorem dX9_bid_56 : decode cX9_bid 56 = .ok (.iload_n 2, 1) := by decide +kernel
theorem dX9_bid_57 : decode cX9_bid 57 = .ok (.iload_n 3, 1) := by decide +kernel
theorem dX9_bid_58 : decode cX9_bid 58 = .ok (.invokevirtual 406, 3) := by decide +kernel
theorem dX9_bid_61 : decode cX9_bid 61 = .ok (.aload_n 0, 1) := by decide +kernel
theorem dX9_bid_62 : decode cX9_bid 62 = .ok (.invokevirtual 107, 3) := by decide +kernel
theorem dX9_bid_65 : decode cX9_bid 65 = .ok (.aload_n 0, 1) := by decide +kernel
theorem dX9_bid_66 : decode cX9_bid 66 = .ok (.getfield 54, 3) := by decide +kernel
theorem dX9_bid_69 : decode cX9_bid 69 = .ok (.iload_n 1, 1) := by decide +kernel
theorem dX9_bid_70 : decode cX9_bid 70 = .ok (.aload_n 0, 1) := by decide +kernel
theorem dX9_bid_71 : decode cX9_bid 71 = .ok (.getfield 20, 3) := by decide +kernel
theorem dX9_bid_74 : decode cX9_bid 74 = .ok (.getfield 169, 3) := by decide +kernel
theorem dX9_bid_77 : decode cX9_bid 77 = .ok (.invokevirtual 159, 3) := by decide +kernel
theorem dX9_bid_80 : decode cX9_bid 80 = .ok (.ireturn, 1) := by decide +kernel
theorem dX9_move_0 : decode cX9_move 0 = .ok (.aload_n 0, 1) := by decide +kernel
theorem dX9_move_1 : decode cX9_move 1 = .ok (.getfield 20, 3) := by decide +kernel
theorem dX9_move_4 : decode cX9_move 4 = .ok (.getfield 136, 3) := by decide +kernel
theorem dX9_move_7 : decode cX9_move 7 = .ok (.iload_n 1, 1) := by decide +kernel
theorem dX9_move_8 : decode cX9_move 8 = .ok (.invokevirtual 257, 3) := by decide +kernel
theorem dX9_move_11 : decode cX9_move 11 = .ok (.ifCond .eq 14, 3) := by decide +kernel
theorem dX9_move_14 : decode cX9_move 14 = .ok (.aload_n 0, 1) := by decide +kernel
theorem dX9_move_15 : decode cX9_move 15 = .ok (.getfield 20, 3) := by decide +kernel
theorem dX9_move_18 : decode cX9_move 18 = .ok (.iload_n 2, 1) := by decide +kernel
theorem dX9_move_19 : decode cX9_move 19 = .ok (.invokevirtual 139, 3) := by decide +kernel
theorem dX9_move_22 : decode cX9_move 22 = .ok (.ifCond .ne 6, 3) := by decide +kernel
theorem dX9_move_25 : decode cX9_move 25 = .ok (.bipush (-2), 2) := by decide +kernel
theorem dX9_move_27 : decode cX9_move 27 = .ok (.ireturn, 1) := by decide +kernel
theorem dX9_move_28 : decode cX9_move 28 = .ok (.aload_n 0, 1) := by decide +kernel
theorem dX9_move_29 : decode cX9_move 29 = .ok (.getfield 20, 3) := by decide +kernel
theorem dX9_move_32 : decode cX9_move 32 = .ok (.getfield 400, 3) := by decide +kernel
theorem dX9_move_35 : decode cX9_move 35 = .ok (.invokevirtual 403, 3) := by decide +kernel
theorem dX9_move_38 : decode cX9_move 38 = .ok (.ifCond .eq 6, 3) := by decide +kernel
theorem dX9_move_41 : decode cX9_move 41 = .ok (.bipush (-5), 2) := by decide +kernel
theorem dX9_move_43 : decode cX9_move 43 = .ok (.ireturn, 1) := by decide +kernel
theorem dX9_move_44 : decode cX9_move 44 = .ok (.aload_n 0, 1) := by decide +kernel
theorem dX9_move_45 : decode cX9_move 45 = .ok (.getfield 20, 3) := by decide +kernel
theorem dX9_move_48 : decode cX9_move 48 = .ok (.getfield 136, 3) := by decide +kernel
theorem dX9_move_51 : decode cX9_move 51 = .ok (.iload_n 1, 1) := by decide +kernel
theorem dX9_move_52 : decode cX9_move 52 = .ok (.iconst 0, 1) := by decide +kernel
theorem dX9_move_53 : decode cX9_move 53 = .ok (.invokevirtual 129, 3) := by decide +kernel
theorem dX9_move_56 : decode cX9_move 56 = .ok (.istore_n 3, 1) := by decide +kernel
theorem dX9_move_57 : decode cX9_move 57 = .ok (.aload_n 0, 1) := by decide +kernel
theorem dX9_move_58 : decode cX9_move 58 = .ok (.getfield 20, 3) := by decide +kernel
theorem dX9_move_61 : decode cX9_move 61 = .ok (.iload_n 1, 1) := by decide +kernel
theorem dX9_move_62 : decode cX9_move 62 = .ok (.iload_n 2, 1) := by decide +kernel
theorem dX9_move_63 : decode cX9_move 63 = .ok (.invokevirtual 410, 3) := by decide +kernel
theorem dX9_move_66 : decode cX9_move 66 = .ok (.iload_n 3, 1) := by decide +kernel
theorem dX9_move_67 : decode cX9_move 67 = .ok (.ireturn, 1) := by decide +kernel
theorem dX9_undo_0 : decode cX9_undo 0 = .ok (.aload_n 0, 1) := by decide +kernel
theorem dX9_undo_1 : decode cX9_undo 1 = .ok (.getfield 20, 3) := by decide +kernel
theorem dX9_undo_4 : decode cX9_undo 4 = .ok (.invokevirtual 184, 3) := by decide +kernel
theorem dX9_undo_7 : decode cX9_undo 7 = .ok (.ifCond .ne 6, 3) := by decide +kernel
theorem dX9_undo_10 : decode cX9_undo 10 = .ok (.bipush (-2), 2) := by decide +kernel
theorem dX9_undo_12 : decode cX9_undo 12 = .ok (.ireturn, 1) := by decide +kernel
theorem dX9_undo_13 : decode cX9_undo 13 = .ok (.aload_n 0, 1) := by decide +kernel
theorem dX9_undo_14 : decode cX9_undo 14 = .ok (.getfield 20, 3) := by decide +kernel
theorem dX9_undo_17 : decode cX9_undo 17 = .ok (.getfield 400, 3) := by decide +kernel
theorem dX9_undo_20 : decode cX9_undo 20 = .ok (.getfield 200, 3) := by decide +kernel
theorem dX9_undo_23 : decode cX9_undo 23 = .ok (.ifCond .ne 6, 3) := by decide +kernel
theorem dX9_undo_26 : decode cX9_undo 26 = .ok (.bipush (-5), 2) := by decide +kernel
theorem dX9_undo_28 : decode cX9_undo 28 = .ok (.ireturn, 1) := by decide +kernel
theorem dX9_undo_29 : decode cX9_undo 29 = .ok (.aload_n 0, 1) := by decide +kernel
theorem dX9_undo_30 : decode cX9_undo 30 = .ok (.getfield 20, 3) := by decide +kernel
theorem dX9_undo_33 : decode cX9_undo 33 = .ok (.invokevirtual 414, 3) := by decide +kernel
theorem dX9_undo_36 : decode cX9_undo 36 = .ok (.aload_n 0, 1) := by decide +kernel
theorem dX9_undo_37 : decode cX9_undo 37 = .ok (.invokevirtual 107, 3) := by decide +kernel
theorem dX9_undo_40 : decode cX9_undo 40 = .ok (.aload_n 0, 1) := by decide +kernel
theorem dX9_undo_41 : decode cX9_undo 41 = .ok (.getfield 20, 3) := by decide +kernel
theorem dX9_undo_44 : decode cX9_undo 44 = .ok (.getfield 400, 3) := by decide +kernel
theorem dX9_undo_47 : decode cX9_undo 47 = .ok (.getfield 200, 3) := by decide +kernel
theorem dX9_undo_50 : decode cX9_undo 50 = .ok (.ireturn, 1) := by decide +kernel
theorem dX9_anew_0 : decode cX9_anew 0 = .ok (.aload_n 0, 1) := by decide +kernel
theorem dX9_anew_1 : decode cX9_anew 1 = .ok (.getfield 20, 3) := by decide +kernel
theorem dX9_anew_4 : decode cX9_anew 4 = .ok (.invokevirtual 184, 3) := by decide +kernel
theorem dX9_anew_7 : decode cX9_anew 7 = .ok (.ifCond .ne 6, 3) := by decide +kernel
theorem dX9_anew_10 : decode cX9_anew 10 = .ok (.bipush (-2), 2) := by decide +kernel
theorem dX9_anew_12 : decode cX9_anew 12 = .ok (.ireturn, 1) := by decide +kernel
theorem dX9_anew_13 : decode cX9_anew 13 = .ok (.aload_n 0, 1) := by decide +kernel
theorem dX9_anew_14 : decode cX9_anew 14 = .ok (.getfield 20, 3) := by decide +kernel
theorem dX9_anew_17 : decode cX9_anew 17 = .ok (.getfield 400, 3) := by decide +kernel
theorem dX9_anew_20 : decode cX9_anew 20 = .ok (.getfield 200, 3) := by decide +kernel
theorem dX9_anew_23 : decode cX9_anew 23 = .ok (.istore_n 1, 1) := by decide +kernel
theorem dX9_anew_24 : decode cX9_anew 24 = .ok (.iconst 0, 1) := by decide +kernel
theorem dX9_anew_25 : decode cX9_anew 25 = .ok (.istore_n 2, 1) := by decide +kernel
theorem dX9_anew_26 : decode cX9_anew 26 = .ok (.iload_n 2, 1) := by decide +kernel
theorem dX9_anew_27 : decode cX9_anew 27 = .ok (.iload_n 1, 1) := by decide +kernel
theorem dX9_anew_28 : decode cX9_anew 28 = .ok (.if_icmp .ge 16, 3) := by decide +kernel
theorem dX9_anew_31 : decode cX9_anew 31 = .ok (.aload_n 0, 1) := by decide +kernel
theorem dX9_anew_32 : decode cX9_anew 32 = .ok (.getfield 20, 3) := by decide +kernel
theorem dX9_anew_35 : decode cX9_anew 35 = .ok (.invokevirtual 414, 3) := by decide +kernel
theorem dX9_anew_38 : decode cX9_anew 38 = .ok (.iinc 2 1, 3) := by decide +kernel
theorem dX9_anew_41 : decode cX9_anew 41 = .ok (.goto (-15), 3) := by decide +kernel
theorem dX9_anew_44 : decode cX9_anew 44 = .ok (.aload_n 0, 1) := by decide +kernel
theorem dX9_anew_45 : decode cX9_anew 45 = .ok (.invokevirtual 107, 3) := by decide +kernel
theorem dX9_anew_48 : decode cX9_anew 48 = .ok (.iload_n 1, 1) := by decide +kernel
theorem dX9_anew_49 : decode cX9_anew 49 = .ok (.ireturn, 1) := by decide +kernel
theorem dX9_hang_0 : decode cX9_hang 0 = .ok (.aload_n 0, 1) := by decide +kernel
theorem dX9_hang_1 : decode cX9_hang 1 = .ok (.getfield 20, 3) := by decide +kernel
theorem dX9_hang_4 : decode cX9_hang 4 = .ok (.getfield 119, 3) := by decide +kernel
theorem dX9_hang_7 : decode cX9_hang 7 = .ok (.iload_n 1, 1) := by decide +kernel
theorem dX9_hang_8 : decode cX9_hang 8 = .ok (.invokevirtual 257, 3) := by decide +kernel
theorem dX9_hang_11 : decode cX9_hang 11 = .ok (.ifCond .eq 14, 3) := by decide +kernel
theorem dX9_hang_14 : decode cX9_hang 14 = .ok (.iload_n 2, 1) := by decide +kernel
theorem dX9_hang_15 : decode cX9_hang 15 = .ok (.iconst 1, 1) := by decide +kernel
theorem dX9_hang_16 : decode cX9_hang 16 = .ok (.if_icmp .lt 9, 3) := by decide +kernel
theorem dX9_hang_19 : decode cX9_hang 19 = .ok (.iload_n 2, 1) := by decide +kernel
